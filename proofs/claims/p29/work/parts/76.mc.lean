set_option maxHeartbeats 4000000 in
theorem oX9_move {l : Launch} {G : xG} {h : List va_E} {sp fa nb ns nm nv sh : Nat} {ho ow sl : Int32} {rg : Nat → Int32} {th ot dy so kn go : Nat → Nat} {t p d s k : Int32} (h88 : h[88]? = some (oB 9 (lM G (nI sp) (nI fa) (nI nb) (nI ns) (nI nm) ho ow sl (nI nv) (nI sh)))) (h89 : h[89]? = some (aI 7 rg)) (h108 : h[108]? = some (aI 60 (nA th))) (h109 : h[109]? = some (aI 60 (nA ot))) (h110 : h[110]? = some (aI 60 (nA dy))) (h111 : h[111]? = some (aI 60 (nA so))) (h112 : h[112]? = some (aI 60 (nA kn))) (h113 : h[113]? = some (aI 60 (nA (gM go)))) (hn : nm ≤ 60) : CE l G yX9_move cX9_move 7 (some .int) 2 0 0 [.ref (G.1 + 88), .int t, .int p, .int d, .int s, .int k] h (some (.int (spMove nm t p d s k))) (fun h1 => ∃ rg1 : Nat → Int32, h1[88]? = some (oB 9 (lM G (nI sp) (nI fa) (nI nb) (nI ns) (nI (spN (0 ≤ (spMove nm t p d s k).toInt) nm (nm + 1))) ho ow sl (nI nv) (nI sh))) ∧ h1[108]? = some (aI 60 (nA (spUn (0 ≤ (spMove nm t p d s k).toInt) th nm (tn t)))) ∧ h1[109]? = some (aI 60 (nA (spUn (0 ≤ (spMove nm t p d s k).toInt) ot nm (tn p)))) ∧ h1[110]? = some (aI 60 (nA (spUn (0 ≤ (spMove nm t p d s k).toInt) dy nm (tn d)))) ∧ h1[111]? = some (aI 60 (nA (spUn (0 ≤ (spMove nm t p d s k).toInt) so nm (tn s)))) ∧ h1[112]? = some (aI 60 (nA (spUn (0 ≤ (spMove nm t p d s k).toInt) kn nm (tn k)))) ∧ h1[113]? = some (aI 60 (nA (gM (spUn (0 ≤ (spMove nm t p d s k).toInt) go nm 80001)))) ∧ h1[89]? = some (aI 7 rg1) ∧ rg2 88 89 108 113 h h1) := by
  refine cm_ofQ rfl (Nat.le_of_ble_eq_true rfl) [(0, .ref (G.1 + 88)), (1, .int t), (2, .int p), (3, .int d), (4, .int s), (5, .int k)] rfl (fun QF hQF => ?_)
  refine aw_iload_n 1 dX9_move_0 rfl rfl ?_
  refine aw_bipush (12) dX9_move_1 (by decide) ?_
  refine aw_dS [.int t, .int 12] [] lX9_126 sX9_isIn mX9_isIn dX9_move_3 (bX9_isIn (x := t) (n := 12) (by omega)) rfl (Nat.le_of_ble_eq_true rfl) (by decide) (by decide) rfl ?_
  refine aw_if_eq 18 dX9_move_6 (by decide) (fun c6 => ?_) (fun c6 => ?_)
  · have t6 := ite_0 c6
    refine aw_iconst (-1) dX9_move_18 (by decide) ?_
    refine aw_goto 42 dX9_move_19 (by decide) ?_
    refine aw_istore [(6, .int (-1)), (0, .ref (G.1 + 88)), (1, .int t), (2, .int p), (3, .int d), (4, .int s), (5, .int k)] dX9_move_42 (by decide) rfl ?_
    refine aw_iload 0 dX9_move_44 rfl ?_
    refine aw_if_ne 62 dX9_move_46 (by decide) (fun c46 => ?_) (fun c46 => absurd c46 (by decide))
    refine aw_iload 0 dX9_move_62 rfl ?_
    refine aw_if_eq 74 dX9_move_64 (by decide) (fun c64 => absurd c64 (by decide)) (fun c64 => ?_)
    refine aw_aload_n 1 dX9_move_67 rfl rfl ?_
    refine aw_iload 0 dX9_move_68 rfl ?_
    refine aw_eV [.int (-1)] [] lX9_130 vX9_refuse mX9_refuse dX9_move_70 (bX9_refuse (sp := sp) (fa := fa) (nb := nb) (ns := ns) (nm := nm) (nv := nv) (sh := sh) (ho := ho) (ow := ow) (sl := sl) (rg := rg) (x := (-1)) (q := 1) h88 h89 (by decide) (by decide)) h88 rfl rfl rfl (Nat.le_of_ble_eq_true rfl) (by decide) (by decide) rfl (fun h1742 q1741 => ?_)
    obtain ⟨rg11740, f1743, k1744⟩ := q1741
    have f1745 := rng_at k1744 (by decide) h88
    have f1746 := rng_at k1744 (by decide) h108
    have f1747 := rng_at k1744 (by decide) h109
    have f1748 := rng_at k1744 (by decide) h110
    have f1749 := rng_at k1744 (by decide) h111
    have f1750 := rng_at k1744 (by decide) h112
    have f1751 := rng_at k1744 (by decide) h113
    subst hQF
    have eS : (spMove nm t p d s k) = (-1) := by unfold spMove; (repeat' split) <;> first | (exfalso; omega) | rfl | contradiction
    have ok9 : ¬ 0 ≤ (spMove nm t p d s k).toInt := by rw [eS]; decide
    exact aw_iret rfl dX9_move_73 (by decide) (by decide) ⟨by rw [eS], _, by rw [spN_n ok9]; exact f1745, by rw [spUn_n ok9]; exact f1746, by rw [spUn_n ok9]; exact f1747, by rw [spUn_n ok9]; exact f1748, by rw [spUn_n ok9]; exact f1749, by rw [spUn_n ok9]; exact f1750, by rw [spUn_n ok9]; exact f1751, f1743, rg2_tr (rg2_rf 88 89 108 113 h) (rg2_w k1744 (by decide))⟩
  · have t6 := ite_1 c6
    refine aw_iload_n 2 dX9_move_9 rfl rfl ?_
    refine aw_bipush (8) dX9_move_10 (by decide) ?_
    refine aw_dS [.int p, .int 8] [] lX9_126 sX9_isIn mX9_isIn dX9_move_12 (bX9_isIn (x := p) (n := 8) (by omega)) rfl (Nat.le_of_ble_eq_true rfl) (by decide) (by decide) rfl ?_
    refine aw_if_ne 22 dX9_move_15 (by decide) (fun c15 => ?_) (fun c15 => ?_)
    · have t15 := ite_1 c15
      refine aw_iload 4 dX9_move_22 rfl ?_
      refine aw_iconst (5) dX9_move_24 (by decide) ?_
      refine aw_dS [.int s, .int 5] [] lX9_126 sX9_isIn mX9_isIn dX9_move_25 (bX9_isIn (x := s) (n := 5) (by omega)) rfl (Nat.le_of_ble_eq_true rfl) (by decide) (by decide) rfl ?_
      refine aw_if_ne 36 dX9_move_28 (by decide) (fun c28 => ?_) (fun c28 => ?_)
      · have t28 := ite_1 c28
        refine aw_iload_n 3 dX9_move_36 rfl rfl ?_
        refine aw_iload 5 dX9_move_37 rfl ?_
        refine aw_dS [.int d, .int k] [] lX9_195 sX9_wrongDays mX9_wrongDays dX9_move_39 (bX9_wrongDays (x := d) (k := k) ) rfl (Nat.le_of_ble_eq_true rfl) (by decide) (by decide) rfl ?_
        refine aw_istore [(6, .int (dyF d k)), (0, .ref (G.1 + 88)), (1, .int t), (2, .int p), (3, .int d), (4, .int s), (5, .int k)] dX9_move_42 (by decide) rfl ?_
        refine aw_iload 0 dX9_move_44 rfl ?_
        refine aw_if_ne 62 dX9_move_46 (by decide) (fun c46 => ?_) (fun c46 => ?_)
        · have d46 := mt (j_eq (a := (dyF d k).toInt) (b := (0)) (rfl) (rfl)).mpr c46
          refine aw_iload 0 dX9_move_62 rfl ?_
          refine aw_if_eq 74 dX9_move_64 (by decide) (fun c64 => absurd c64 (c46)) (fun c64 => ?_)
          refine aw_aload_n 1 dX9_move_67 rfl rfl ?_
          refine aw_iload 0 dX9_move_68 rfl ?_
          obtain ⟨q1752, bq1752, eq1752⟩ := Or.resolve_left (dyF_q d k) (by assumption)
          refine aw_eV [.int (dyF d k)] [] lX9_130 vX9_refuse mX9_refuse dX9_move_70 (bX9_refuse (sp := sp) (fa := fa) (nb := nb) (ns := ns) (nm := nm) (nv := nv) (sh := sh) (ho := ho) (ow := ow) (sl := sl) (rg := rg) (x := (dyF d k)) (q := q1752) h88 h89 bq1752 eq1752) h88 rfl rfl rfl (Nat.le_of_ble_eq_true rfl) (by decide) (by decide) rfl (fun h1755 q1754 => ?_)
          obtain ⟨rg11753, f1756, k1757⟩ := q1754
          have f1758 := rng_at k1757 (by decide) h88
          have f1759 := rng_at k1757 (by decide) h108
          have f1760 := rng_at k1757 (by decide) h109
          have f1761 := rng_at k1757 (by decide) h110
          have f1762 := rng_at k1757 (by decide) h111
          have f1763 := rng_at k1757 (by decide) h112
          have f1764 := rng_at k1757 (by decide) h113
          subst hQF
          have eS : (spMove nm t p d s k) = (dyF d k) := by unfold spMove; rw [if_neg (by omega), if_neg (by omega), if_pos (by assumption)]
          have ok9 : ¬ 0 ≤ (spMove nm t p d s k).toInt := by rw [eS]; have q := dyF_neg (d := d) (k := k) (by assumption); omega
          exact aw_iret rfl dX9_move_73 (by decide) (by decide) ⟨by rw [eS], _, by rw [spN_n ok9]; exact f1758, by rw [spUn_n ok9]; exact f1759, by rw [spUn_n ok9]; exact f1760, by rw [spUn_n ok9]; exact f1761, by rw [spUn_n ok9]; exact f1762, by rw [spUn_n ok9]; exact f1763, by rw [spUn_n ok9]; exact f1764, f1756, rg2_tr (rg2_rf 88 89 108 113 h) (rg2_w k1757 (by decide))⟩
        · have d46 := (j_eq (a := (dyF d k).toInt) (b := (0)) (rfl) (rfl)).mp c46
          refine aw_aload_n 1 dX9_move_49 rfl rfl ?_
          refine aw_get fX9_202 dX9_move_50 h88 rfl ?_
          refine aw_bipush (60) dX9_move_53 (by decide) ?_
          refine aw_icmp_ne 62 dX9_move_55 (by decide) (fun c55 => ?_) (fun c55 => ?_)
          · have d55 := mt (nv_eq (a := nm) (b := 60) (rfl) (rfl) (by omega) (by omega)).mpr c55
            refine aw_iload 0 dX9_move_62 rfl ?_
            refine aw_if_eq 74 dX9_move_64 (by decide) (fun c64 => ?_) (fun c64 => absurd (c46) c64)
            have hdd := dyF_0 c46
            obtain ⟨t0, bb_t0, ee_t0⟩ := i_nat (x := t) (N := 12) (by omega) (by omega)
            subst ee_t0
            have tt_t0 : (nI t0).toInt = (t0 : Int) := nI_toInt (by omega)
            have nn_t0 : tn (nI t0) = t0 := tn_nI (by omega)
            obtain ⟨p0, bb_p0, ee_p0⟩ := i_nat (x := p) (N := 8) (by omega) (by omega)
            subst ee_p0
            have tt_p0 : (nI p0).toInt = (p0 : Int) := nI_toInt (by omega)
            have nn_p0 : tn (nI p0) = p0 := tn_nI (by omega)
            obtain ⟨d0, bb_d0, ee_d0⟩ := i_nat (x := d) (N := 80001) (by omega) (by omega)
            subst ee_d0
            have tt_d0 : (nI d0).toInt = (d0 : Int) := nI_toInt (by omega)
            have nn_d0 : tn (nI d0) = d0 := tn_nI (by omega)
            obtain ⟨k0, bb_k0, ee_k0⟩ := i_nat (x := k) (N := 80001) (by omega) (by omega)
            subst ee_k0
            have tt_k0 : (nI k0).toInt = (k0 : Int) := nI_toInt (by omega)
            have nn_k0 : tn (nI k0) = k0 := tn_nI (by omega)
            obtain ⟨s0, bb_s0, ee_s0⟩ := i_nat (x := s) (N := 5) (by omega) (by omega)
            subst ee_s0
            have tt_s0 : (nI s0).toInt = (s0 : Int) := nI_toInt (by omega)
            have nn_s0 : tn (nI s0) = s0 := tn_nI (by omega)
            refine aw_aload_n 1 dX9_move_74 rfl rfl ?_
            refine aw_get fX9_74 dX9_move_75 h88 rfl ?_
            refine aw_aload_n 1 dX9_move_78 rfl rfl ?_
            refine aw_get fX9_202 dX9_move_79 h88 rfl ?_
            refine aw_iload_n 2 dX9_move_82 rfl rfl ?_
            refine aw_iast nm (rfl) (by omega) (by decide) dX9_move_83 h108 ?_
            rw [nA_u (f := th) (i := nm) (x := (nI t0)) (v := t0) (rfl)]
            refine aw_aload_n 1 dX9_move_84 rfl rfl ?_
            refine aw_get fX9_77 dX9_move_85 (gn (by decide) (h88)) rfl ?_
            refine aw_aload_n 1 dX9_move_88 rfl rfl ?_
            refine aw_get fX9_202 dX9_move_89 (gn (by decide) (h88)) rfl ?_
            refine aw_iload_n 3 dX9_move_92 rfl rfl ?_
            refine aw_iast nm (rfl) (by omega) (by decide) dX9_move_93 (gn (by decide) (h109)) ?_
            rw [nA_u (f := ot) (i := nm) (x := (nI p0)) (v := p0) (rfl)]
            refine aw_aload_n 1 dX9_move_94 rfl rfl ?_
            refine aw_get fX9_80 dX9_move_95 (gn (by decide) (gn (by decide) (h88))) rfl ?_
            refine aw_aload_n 1 dX9_move_98 rfl rfl ?_
            refine aw_get fX9_202 dX9_move_99 (gn (by decide) (gn (by decide) (h88))) rfl ?_
            refine aw_iload_n 4 dX9_move_102 rfl rfl ?_
            refine aw_iast nm (rfl) (by omega) (by decide) dX9_move_103 (gn (by decide) (gn (by decide) (h110))) ?_
            rw [nA_u (f := dy) (i := nm) (x := (nI d0)) (v := d0) (rfl)]
            refine aw_aload_n 1 dX9_move_104 rfl rfl ?_
            refine aw_get fX9_83 dX9_move_105 (gn (by decide) (gn (by decide) (gn (by decide) (h88)))) rfl ?_
            refine aw_aload_n 1 dX9_move_108 rfl rfl ?_
            refine aw_get fX9_202 dX9_move_109 (gn (by decide) (gn (by decide) (gn (by decide) (h88)))) rfl ?_
            refine aw_iload 5 dX9_move_112 rfl ?_
            refine aw_iast nm (rfl) (by omega) (by decide) dX9_move_114 (gn (by decide) (gn (by decide) (gn (by decide) (h111)))) ?_
            rw [nA_u (f := so) (i := nm) (x := (nI s0)) (v := s0) (rfl)]
            refine aw_aload_n 1 dX9_move_115 rfl rfl ?_
            refine aw_get fX9_86 dX9_move_116 (gn (by decide) (gn (by decide) (gn (by decide) (gn (by decide) (h88))))) rfl ?_
            refine aw_aload_n 1 dX9_move_119 rfl rfl ?_
            refine aw_get fX9_202 dX9_move_120 (gn (by decide) (gn (by decide) (gn (by decide) (gn (by decide) (h88))))) rfl ?_
            refine aw_iload 6 dX9_move_123 rfl ?_
            refine aw_iast nm (rfl) (by omega) (by decide) dX9_move_125 (gn (by decide) (gn (by decide) (gn (by decide) (gn (by decide) (h112))))) ?_
            rw [nA_u (f := kn) (i := nm) (x := (nI k0)) (v := k0) (rfl)]
            refine aw_aload_n 1 dX9_move_126 rfl rfl ?_
            refine aw_get fX9_89 dX9_move_127 (gn (by decide) (gn (by decide) (gn (by decide) (gn (by decide) (gn (by decide) (h88)))))) rfl ?_
            refine aw_aload_n 1 dX9_move_130 rfl rfl ?_
            refine aw_get fX9_202 dX9_move_131 (gn (by decide) (gn (by decide) (gn (by decide) (gn (by decide) (gn (by decide) (h88)))))) rfl ?_
            refine aw_ldc (1000000000) kX9_201 dX9_move_134 ?_
            refine aw_iast nm (rfl) (by omega) (by decide) dX9_move_136 (gn (by decide) (gn (by decide) (gn (by decide) (gn (by decide) (gn (by decide) (h113)))))) ?_
            rw [nA_u (f := (gM go)) (i := nm) (x := 1000000000) (v := 1000000000) (rfl)]
            refine aw_aload_n 1 dX9_move_137 rfl rfl ?_
            refine aw_dup dX9_move_138 rfl ?_
            refine aw_get fX9_202 dX9_move_139 (gn (by decide) (gn (by decide) (gn (by decide) (gn (by decide) (gn (by decide) (gn (by decide) (h88))))))) rfl ?_
            refine aw_iconst (1) dX9_move_142 (by decide) ?_
            refine aw_iadd dX9_move_143 ?_
            refine aw_toe (nI (nm + 1)) (nv_add (rfl) (rfl)) ?_
            refine aw_putQ fX9_202 dX9_move_144 (lM G (nI sp) (nI fa) (nI nb) (nI ns) (nI (nm + 1)) ho ow sl (nI nv) (nI sh)) (gn (by decide) (gn (by decide) (gn (by decide) (gn (by decide) (gn (by decide) (gn (by decide) (h88))))))) rfl rfl rfl (Nat.le_of_ble_eq_true rfl) rfl ?_
            refine aw_aload_n 1 dX9_move_147 rfl rfl ?_
            refine aw_get fX9_202 dX9_move_148 (gs (gn (by decide) (gn (by decide) (gn (by decide) (gn (by decide) (gn (by decide) (gn (by decide) (h88)))))))) rfl ?_
            refine aw_iconst (1) dX9_move_151 (by decide) ?_
            refine aw_isub dX9_move_152 ?_
            refine aw_toe (nI nm) (nv_p1 (rfl)) ?_
            subst hQF
            have eS : (spMove nm (nI t0) (nI p0) (nI d0) (nI s0) (nI k0)) = (nI nm) := by unfold spMove; (repeat' split) <;> first | (exfalso; omega) | rfl | contradiction
            have ok9 : 0 ≤ (spMove nm (nI t0) (nI p0) (nI d0) (nI s0) (nI k0)).toInt := by rw [eS, nI_toInt (by omega)]; omega
            exact aw_iret rfl dX9_move_153 (by decide) (by decide) ⟨by rw [eS], _, by rw [spN_y ok9]; exact (gs (gn (by decide) (gn (by decide) (gn (by decide) (gn (by decide) (gn (by decide) (gn (by decide) (h88)))))))), by rw [spUn_y ok9, nn_t0]; exact (gn (by decide) (gn (by decide) (gn (by decide) (gn (by decide) (gn (by decide) (gn (by decide) (gs h108))))))), by rw [spUn_y ok9, nn_p0]; exact (gn (by decide) (gn (by decide) (gn (by decide) (gn (by decide) (gn (by decide) (gs (gn (by decide) (h109)))))))), by rw [spUn_y ok9, nn_d0]; exact (gn (by decide) (gn (by decide) (gn (by decide) (gn (by decide) (gs (gn (by decide) (gn (by decide) (h110)))))))), by rw [spUn_y ok9, nn_s0]; exact (gn (by decide) (gn (by decide) (gn (by decide) (gs (gn (by decide) (gn (by decide) (gn (by decide) (h111)))))))), by rw [spUn_y ok9, nn_k0]; exact (gn (by decide) (gn (by decide) (gs (gn (by decide) (gn (by decide) (gn (by decide) (gn (by decide) (h112)))))))), by rw [spUn_y ok9, ← gM_n]; exact (gn (by decide) (gs (gn (by decide) (gn (by decide) (gn (by decide) (gn (by decide) (gn (by decide) (h113)))))))), (gn (by decide) (gn (by decide) (gn (by decide) (gn (by decide) (gn (by decide) (gn (by decide) (gn (by decide) (h89)))))))), rg2_set (rg2_set (rg2_set (rg2_set (rg2_set (rg2_set (rg2_set (rg2_rf 88 89 108 113 h) (by decide)) (by decide)) (by decide)) (by decide)) (by decide)) (by decide)) (by decide)⟩
          · have d55 := (nv_eq (a := nm) (b := 60) (rfl) (rfl) (by omega) (by omega)).mp c55
            refine aw_bipush (-6) dX9_move_58 (by decide) ?_
            refine aw_istore [(6, .int (-6)), (0, .ref (G.1 + 88)), (1, .int t), (2, .int p), (3, .int d), (4, .int s), (5, .int k)] dX9_move_60 (by decide) rfl ?_
            refine aw_iload 0 dX9_move_62 rfl ?_
            refine aw_if_eq 74 dX9_move_64 (by decide) (fun c64 => absurd c64 (by decide)) (fun c64 => ?_)
            refine aw_aload_n 1 dX9_move_67 rfl rfl ?_
            refine aw_iload 0 dX9_move_68 rfl ?_
            refine aw_eV [.int (-6)] [] lX9_130 vX9_refuse mX9_refuse dX9_move_70 (bX9_refuse (sp := sp) (fa := fa) (nb := nb) (ns := ns) (nm := nm) (nv := nv) (sh := sh) (ho := ho) (ow := ow) (sl := sl) (rg := rg) (x := (-6)) (q := 6) h88 h89 (by decide) (by decide)) h88 rfl rfl rfl (Nat.le_of_ble_eq_true rfl) (by decide) (by decide) rfl (fun h1767 q1766 => ?_)
            obtain ⟨rg11765, f1768, k1769⟩ := q1766
            have f1770 := rng_at k1769 (by decide) h88
            have f1771 := rng_at k1769 (by decide) h108
            have f1772 := rng_at k1769 (by decide) h109
            have f1773 := rng_at k1769 (by decide) h110
            have f1774 := rng_at k1769 (by decide) h111
            have f1775 := rng_at k1769 (by decide) h112
            have f1776 := rng_at k1769 (by decide) h113
            subst hQF
            have eS : (spMove nm t p d s k) = (-6) := by unfold spMove; (repeat' split) <;> first | (exfalso; omega) | rfl | contradiction
            have ok9 : ¬ 0 ≤ (spMove nm t p d s k).toInt := by rw [eS]; decide
            exact aw_iret rfl dX9_move_73 (by decide) (by decide) ⟨by rw [eS], _, by rw [spN_n ok9]; exact f1770, by rw [spUn_n ok9]; exact f1771, by rw [spUn_n ok9]; exact f1772, by rw [spUn_n ok9]; exact f1773, by rw [spUn_n ok9]; exact f1774, by rw [spUn_n ok9]; exact f1775, by rw [spUn_n ok9]; exact f1776, f1768, rg2_tr (rg2_rf 88 89 108 113 h) (rg2_w k1769 (by decide))⟩
      · have t28 := ite_0 c28
        refine aw_bipush (-2) dX9_move_31 (by decide) ?_
        refine aw_goto 42 dX9_move_33 (by decide) ?_
        refine aw_istore [(6, .int (-2)), (0, .ref (G.1 + 88)), (1, .int t), (2, .int p), (3, .int d), (4, .int s), (5, .int k)] dX9_move_42 (by decide) rfl ?_
        refine aw_iload 0 dX9_move_44 rfl ?_
        refine aw_if_ne 62 dX9_move_46 (by decide) (fun c46 => ?_) (fun c46 => absurd c46 (by decide))
        refine aw_iload 0 dX9_move_62 rfl ?_
        refine aw_if_eq 74 dX9_move_64 (by decide) (fun c64 => absurd c64 (by decide)) (fun c64 => ?_)
        refine aw_aload_n 1 dX9_move_67 rfl rfl ?_
        refine aw_iload 0 dX9_move_68 rfl ?_
        refine aw_eV [.int (-2)] [] lX9_130 vX9_refuse mX9_refuse dX9_move_70 (bX9_refuse (sp := sp) (fa := fa) (nb := nb) (ns := ns) (nm := nm) (nv := nv) (sh := sh) (ho := ho) (ow := ow) (sl := sl) (rg := rg) (x := (-2)) (q := 2) h88 h89 (by decide) (by decide)) h88 rfl rfl rfl (Nat.le_of_ble_eq_true rfl) (by decide) (by decide) rfl (fun h1779 q1778 => ?_)
        obtain ⟨rg11777, f1780, k1781⟩ := q1778
        have f1782 := rng_at k1781 (by decide) h88
        have f1783 := rng_at k1781 (by decide) h108
        have f1784 := rng_at k1781 (by decide) h109
        have f1785 := rng_at k1781 (by decide) h110
        have f1786 := rng_at k1781 (by decide) h111
        have f1787 := rng_at k1781 (by decide) h112
        have f1788 := rng_at k1781 (by decide) h113
        subst hQF
        have eS : (spMove nm t p d s k) = (-2) := by unfold spMove; (repeat' split) <;> first | (exfalso; omega) | rfl | contradiction
        have ok9 : ¬ 0 ≤ (spMove nm t p d s k).toInt := by rw [eS]; decide
        exact aw_iret rfl dX9_move_73 (by decide) (by decide) ⟨by rw [eS], _, by rw [spN_n ok9]; exact f1782, by rw [spUn_n ok9]; exact f1783, by rw [spUn_n ok9]; exact f1784, by rw [spUn_n ok9]; exact f1785, by rw [spUn_n ok9]; exact f1786, by rw [spUn_n ok9]; exact f1787, by rw [spUn_n ok9]; exact f1788, f1780, rg2_tr (rg2_rf 88 89 108 113 h) (rg2_w k1781 (by decide))⟩
    · have t15 := ite_0 c15
      refine aw_iconst (-1) dX9_move_18 (by decide) ?_
      refine aw_goto 42 dX9_move_19 (by decide) ?_
      refine aw_istore [(6, .int (-1)), (0, .ref (G.1 + 88)), (1, .int t), (2, .int p), (3, .int d), (4, .int s), (5, .int k)] dX9_move_42 (by decide) rfl ?_
      refine aw_iload 0 dX9_move_44 rfl ?_
      refine aw_if_ne 62 dX9_move_46 (by decide) (fun c46 => ?_) (fun c46 => absurd c46 (by decide))
      refine aw_iload 0 dX9_move_62 rfl ?_
      refine aw_if_eq 74 dX9_move_64 (by decide) (fun c64 => absurd c64 (by decide)) (fun c64 => ?_)
      refine aw_aload_n 1 dX9_move_67 rfl rfl ?_
      refine aw_iload 0 dX9_move_68 rfl ?_
      refine aw_eV [.int (-1)] [] lX9_130 vX9_refuse mX9_refuse dX9_move_70 (bX9_refuse (sp := sp) (fa := fa) (nb := nb) (ns := ns) (nm := nm) (nv := nv) (sh := sh) (ho := ho) (ow := ow) (sl := sl) (rg := rg) (x := (-1)) (q := 1) h88 h89 (by decide) (by decide)) h88 rfl rfl rfl (Nat.le_of_ble_eq_true rfl) (by decide) (by decide) rfl (fun h1791 q1790 => ?_)
      obtain ⟨rg11789, f1792, k1793⟩ := q1790
      have f1794 := rng_at k1793 (by decide) h88
      have f1795 := rng_at k1793 (by decide) h108
      have f1796 := rng_at k1793 (by decide) h109
      have f1797 := rng_at k1793 (by decide) h110
      have f1798 := rng_at k1793 (by decide) h111
      have f1799 := rng_at k1793 (by decide) h112
      have f1800 := rng_at k1793 (by decide) h113
      subst hQF
      have eS : (spMove nm t p d s k) = (-1) := by unfold spMove; (repeat' split) <;> first | (exfalso; omega) | rfl | contradiction
      have ok9 : ¬ 0 ≤ (spMove nm t p d s k).toInt := by rw [eS]; decide
      exact aw_iret rfl dX9_move_73 (by decide) (by decide) ⟨by rw [eS], _, by rw [spN_n ok9]; exact f1794, by rw [spUn_n ok9]; exact f1795, by rw [spUn_n ok9]; exact f1796, by rw [spUn_n ok9]; exact f1797, by rw [spUn_n ok9]; exact f1798, by rw [spUn_n ok9]; exact f1799, by rw [spUn_n ok9]; exact f1800, f1792, rg2_tr (rg2_rf 88 89 108 113 h) (rg2_w k1793 (by decide))⟩
set_option maxHeartbeats 4000000 in
theorem oX9_withdraw1 {l : Launch} {G : xG} {h : List va_E} {sp fa nb ns nm nv sh : Nat} {ho ow sl : Int32} {rg : Nat → Int32} {kn go : Nat → Nat} {q k : Int32} (h88 : h[88]? = some (oB 9 (lM G (nI sp) (nI fa) (nI nb) (nI ns) (nI nm) ho ow sl (nI nv) (nI sh)))) (h89 : h[89]? = some (aI 7 rg)) (h106 : h[106]? = some (aI 60 (nA kn))) (h107 : h[107]? = some (aI 60 (nA (gM go)))) (hn : ns ≤ 60) (bkn : ∀ j, j < 60 → kn j ≤ 80000) (bgo : ∀ j, j < 60 → go j ≤ 80001) : CE l G yX9_withdraw cX9_withdraw 5 (some .int) 2 0 0 [.ref (G.1 + 88), .int 1, .int q, .int k] h (some (.int (spBack ns kn go q k))) (fun h1 => ∃ rg1 : Nat → Int32, h1[107]? = some (aI 60 (nA (gM (spUn (0 ≤ (spBack ns kn go q k).toInt) go (tn q) (tn k))))) ∧ h1[89]? = some (aI 7 rg1) ∧ rg2 89 89 107 107 h h1) := by
  refine cm_ofQ rfl (Nat.le_of_ble_eq_true rfl) [(0, .ref (G.1 + 88)), (1, .int 1), (2, .int q), (3, .int k)] rfl (fun QF hQF => ?_)
  refine aw_iload_n 2 dX9_withdraw_0 rfl rfl ?_
  refine aw_iload_n 1 dX9_withdraw_1 rfl rfl ?_
  refine aw_if_eq 12 dX9_withdraw_2 (by decide) (fun c2 => absurd c2 (by decide)) (fun c2 => ?_)
  refine aw_aload_n 0 dX9_withdraw_5 rfl rfl ?_
  refine aw_get fX9_198 dX9_withdraw_6 h88 rfl ?_
  refine aw_goto 16 dX9_withdraw_9 (by decide) ?_
  refine aw_dS [.int q, .int (nI ns)] [] lX9_126 sX9_isIn mX9_isIn dX9_withdraw_16 (bX9_isIn (x := q) (n := ns) (by omega)) rfl (Nat.le_of_ble_eq_true rfl) (by decide) (by decide) rfl ?_
  refine aw_if_ne 28 dX9_withdraw_19 (by decide) (fun c19 => ?_) (fun c19 => ?_)
  · have t19 := ite_1 c19
    refine aw_iload_n 1 dX9_withdraw_28 rfl rfl ?_
    refine aw_if_eq 41 dX9_withdraw_29 (by decide) (fun c29 => absurd c29 (by decide)) (fun c29 => ?_)
    obtain ⟨q0, bb_q0, ee_q0⟩ := i_nat (x := q) (N := ns) (by omega) (by omega)
    subst ee_q0
    have tt_q0 : (nI q0).toInt = (q0 : Int) := nI_toInt (by omega)
    have nn_q0 : tn (nI q0) = q0 := tn_nI (by omega)
    refine aw_aload_n 0 dX9_withdraw_32 rfl rfl ?_
    refine aw_get fX9_71 dX9_withdraw_33 h88 rfl ?_
    refine aw_iload_n 2 dX9_withdraw_36 rfl rfl ?_
    refine aw_iald q0 (rfl) (by omega) (by decide) dX9_withdraw_37 h107 ?_
    refine aw_toe (nI ((gM go) q0)) (rfl) ?_
    refine aw_goto 47 dX9_withdraw_38 (by decide) ?_
    have hg := gM_lt (go := go) (bgo q0 (by omega))
    have hg2 := gM_b (go := go) (bgo q0 (by omega))
    refine aw_ldc (1000000000) kX9_201 dX9_withdraw_47 ?_
    refine aw_icmp_ge 59 dX9_withdraw_49 (by decide) (fun c49 => ?_) (fun c49 => ?_)
    · have d49 := (nv_le (a := 1000000000) (b := (gM go) q0) (rfl) (rfl) (by omega) (by omega)).mp c49
      refine aw_iload_n 3 dX9_withdraw_59 rfl rfl ?_
      refine aw_iload_n 1 dX9_withdraw_60 rfl rfl ?_
      refine aw_if_eq 73 dX9_withdraw_61 (by decide) (fun c61 => absurd c61 (by decide)) (fun c61 => ?_)
      refine aw_aload_n 0 dX9_withdraw_64 rfl rfl ?_
      refine aw_get fX9_68 dX9_withdraw_65 h88 rfl ?_
      refine aw_iload_n 2 dX9_withdraw_68 rfl rfl ?_
      refine aw_iald q0 (rfl) (by omega) (by decide) dX9_withdraw_69 h106 ?_
      refine aw_toe (nI (kn q0)) (rfl) ?_
      have b1801 := bkn q0 (by omega)
      refine aw_goto 79 dX9_withdraw_70 (by decide) ?_
      have hk9 : (nI (kn q0)).toInt = (kn q0 : Int) := nI_toInt (by omega)
      refine aw_ldc (80000) kX9_194 dX9_withdraw_79 ?_
      refine aw_dS [.int k, .int (nI (kn q0)), .int 80000] [] lX9_137 sX9_wrong mX9_wrong dX9_withdraw_81 (bX9_wrong (x := k) (y := (nI (kn q0))) (z := 80000) ) rfl (Nat.le_of_ble_eq_true rfl) (by decide) (by decide) rfl ?_
      refine aw_istore [(4, .int (wrF k (nI (kn q0)) 80000)), (0, .ref (G.1 + 88)), (1, .int 1), (2, .int (nI q0)), (3, .int k)] dX9_withdraw_84 (by decide) rfl ?_
      refine aw_iload 0 dX9_withdraw_86 rfl ?_
      refine aw_if_eq 98 dX9_withdraw_88 (by decide) (fun c88 => ?_) (fun c88 => ?_)
      · have d88 := (j_eq (a := (wrF k (nI (kn q0)) 80000).toInt) (b := (0)) (rfl) (rfl)).mp c88
        have hw : (kn q0 : Int) ≤ k.toInt ∧ k.toInt ≤ 80000 := by have q9 := wrF_0 c88; rw [hk9] at q9; exact q9
        obtain ⟨k0, bb_k0, ee_k0⟩ := i_nat (x := k) (N := 80001) (by omega) (by omega)
        subst ee_k0
        have tt_k0 : (nI k0).toInt = (k0 : Int) := nI_toInt (by omega)
        have nn_k0 : tn (nI k0) = k0 := tn_nI (by omega)
        refine aw_iload_n 2 dX9_withdraw_98 rfl rfl ?_
        refine aw_if_eq 112 dX9_withdraw_99 (by decide) (fun c99 => absurd c99 (by decide)) (fun c99 => ?_)
        refine aw_aload_n 1 dX9_withdraw_102 rfl rfl ?_
        refine aw_get fX9_71 dX9_withdraw_103 h88 rfl ?_
        refine aw_iload_n 3 dX9_withdraw_106 rfl rfl ?_
        refine aw_iload_n 4 dX9_withdraw_107 rfl rfl ?_
        refine aw_iast q0 (rfl) (by omega) (by decide) dX9_withdraw_108 h107 ?_
        rw [nA_u (f := (gM go)) (i := q0) (x := (nI k0)) (v := k0) (rfl)]
        refine aw_goto 119 dX9_withdraw_109 (by decide) ?_
        refine aw_iconst (1) dX9_withdraw_119 (by decide) ?_
        subst hQF
        have eS : (spBack ns kn go (nI q0) (nI k0)) = 1 := by unfold spBack; simp only [nn_q0, nn_k0]; (repeat' split) <;> first | (exfalso; omega) | rfl
        have ok9 : 0 ≤ (spBack ns kn go (nI q0) (nI k0)).toInt := by rw [eS]; decide
        exact aw_iret rfl dX9_withdraw_120 (by decide) (by decide) ⟨by rw [eS], _, by rw [spUn_y ok9, nn_q0, nn_k0, ← gM_k (by omega)]; exact (gs h107), (gn (by decide) (h89)), rg2_set (rg2_rf 89 89 107 107 h) (by decide)⟩
      · have d88 := mt (j_eq (a := (wrF k (nI (kn q0)) 80000).toInt) (b := (0)) (rfl) (rfl)).mpr c88
        refine aw_aload_n 1 dX9_withdraw_91 rfl rfl ?_
        refine aw_iload 0 dX9_withdraw_92 rfl ?_
        obtain ⟨q1802, bq1802, eq1802⟩ := Or.resolve_left (wrF_q k (nI (kn q0)) 80000) (by assumption)
        refine aw_eV [.int (wrF k (nI (kn q0)) 80000)] [] lX9_130 vX9_refuse mX9_refuse dX9_withdraw_94 (bX9_refuse (sp := sp) (fa := fa) (nb := nb) (ns := ns) (nm := nm) (nv := nv) (sh := sh) (ho := ho) (ow := ow) (sl := sl) (rg := rg) (x := (wrF k (nI (kn q0)) 80000)) (q := q1802) h88 h89 bq1802 eq1802) h88 rfl rfl rfl (Nat.le_of_ble_eq_true rfl) (by decide) (by decide) rfl (fun h1805 q1804 => ?_)
        obtain ⟨rg11803, f1806, k1807⟩ := q1804
        have f1808 := rng_at k1807 (by decide) h88
        have f1809 := rng_at k1807 (by decide) h106
        have f1810 := rng_at k1807 (by decide) h107
        subst hQF
        have q9 := wrF_r k (nI (kn q0)) 80000 (by assumption)
        rw [hk9, k_n.2.2.2.2.2.2] at q9
        have eS : (spBack ns kn go (nI q0) k) = (wrF k (nI (kn q0)) 80000) := by unfold spBack; unfold wrF; simp only [nn_q0, hk9, k_n.2.2.2.2.2.2]; (repeat' split) <;> first | (exfalso; omega) | rfl
        have ok9 : ¬ 0 ≤ (spBack ns kn go (nI q0) k).toInt := by rw [eS]; have q9 := wrF_neg c88; omega
        exact aw_iret rfl dX9_withdraw_97 (by decide) (by decide) ⟨by rw [eS], _, by rw [spUn_n ok9]; exact f1810, f1806, rg2_tr (rg2_rf 89 89 107 107 h) (rg2_w k1807 (by decide))⟩
    · have d49 := mt (nv_le (a := 1000000000) (b := (gM go) q0) (rfl) (rfl) (by omega) (by omega)).mpr c49
      refine aw_aload_n 0 dX9_withdraw_52 rfl rfl ?_
      refine aw_bipush (-3) dX9_withdraw_53 (by decide) ?_
      refine aw_eV [.int (-3)] [] lX9_130 vX9_refuse mX9_refuse dX9_withdraw_55 (bX9_refuse (sp := sp) (fa := fa) (nb := nb) (ns := ns) (nm := nm) (nv := nv) (sh := sh) (ho := ho) (ow := ow) (sl := sl) (rg := rg) (x := (-3)) (q := 3) h88 h89 (by decide) (by decide)) h88 rfl rfl rfl (Nat.le_of_ble_eq_true rfl) (by decide) (by decide) rfl (fun h1813 q1812 => ?_)
      obtain ⟨rg11811, f1814, k1815⟩ := q1812
      have f1816 := rng_at k1815 (by decide) h88
      have f1817 := rng_at k1815 (by decide) h106
      have f1818 := rng_at k1815 (by decide) h107
      subst hQF
      have eS : (spBack ns kn go (nI q0) k) = (-3) := by unfold spBack; simp only [nn_q0]; (repeat' split) <;> first | (exfalso; omega) | rfl
      have ok9 : ¬ 0 ≤ (spBack ns kn go (nI q0) k).toInt := by rw [eS]; decide
      exact aw_iret rfl dX9_withdraw_58 (by decide) (by decide) ⟨by rw [eS], _, by rw [spUn_n ok9]; exact f1818, f1814, rg2_tr (rg2_rf 89 89 107 107 h) (rg2_w k1815 (by decide))⟩
  · have t19 := ite_0 c19
    refine aw_aload_n 0 dX9_withdraw_22 rfl rfl ?_
    refine aw_iconst (-1) dX9_withdraw_23 (by decide) ?_
    refine aw_eV [.int (-1)] [] lX9_130 vX9_refuse mX9_refuse dX9_withdraw_24 (bX9_refuse (sp := sp) (fa := fa) (nb := nb) (ns := ns) (nm := nm) (nv := nv) (sh := sh) (ho := ho) (ow := ow) (sl := sl) (rg := rg) (x := (-1)) (q := 1) h88 h89 (by decide) (by decide)) h88 rfl rfl rfl (Nat.le_of_ble_eq_true rfl) (by decide) (by decide) rfl (fun h1821 q1820 => ?_)
    obtain ⟨rg11819, f1822, k1823⟩ := q1820
    have f1824 := rng_at k1823 (by decide) h88
    have f1825 := rng_at k1823 (by decide) h106
    have f1826 := rng_at k1823 (by decide) h107
    subst hQF
    have eS : (spBack ns kn go q k) = (-1) := by unfold spBack; (repeat' split) <;> first | (exfalso; omega) | rfl
    have ok9 : ¬ 0 ≤ (spBack ns kn go q k).toInt := by rw [eS]; decide
    exact aw_iret rfl dX9_withdraw_27 (by decide) (by decide) ⟨by rw [eS], _, by rw [spUn_n ok9]; exact f1826, f1822, rg2_tr (rg2_rf 89 89 107 107 h) (rg2_w k1823 (by decide))⟩
set_option maxHeartbeats 4000000 in
theorem oX9_withdraw0 {l : Launch} {G : xG} {h : List va_E} {sp fa nb ns nm nv sh : Nat} {ho ow sl : Int32} {rg : Nat → Int32} {kn go : Nat → Nat} {q k : Int32} (h88 : h[88]? = some (oB 9 (lM G (nI sp) (nI fa) (nI nb) (nI ns) (nI nm) ho ow sl (nI nv) (nI sh)))) (h89 : h[89]? = some (aI 7 rg)) (h112 : h[112]? = some (aI 60 (nA kn))) (h113 : h[113]? = some (aI 60 (nA (gM go)))) (hn : nm ≤ 60) (bkn : ∀ j, j < 60 → kn j ≤ 80000) (bgo : ∀ j, j < 60 → go j ≤ 80001) : CE l G yX9_withdraw cX9_withdraw 5 (some .int) 2 0 0 [.ref (G.1 + 88), .int 0, .int q, .int k] h (some (.int (spBack nm kn go q k))) (fun h1 => ∃ rg1 : Nat → Int32, h1[113]? = some (aI 60 (nA (gM (spUn (0 ≤ (spBack nm kn go q k).toInt) go (tn q) (tn k))))) ∧ h1[89]? = some (aI 7 rg1) ∧ rg2 89 89 113 113 h h1) := by
  refine cm_ofQ rfl (Nat.le_of_ble_eq_true rfl) [(0, .ref (G.1 + 88)), (1, .int 0), (2, .int q), (3, .int k)] rfl (fun QF hQF => ?_)
  refine aw_iload_n 2 dX9_withdraw_0 rfl rfl ?_
  refine aw_iload_n 1 dX9_withdraw_1 rfl rfl ?_
  refine aw_if_eq 12 dX9_withdraw_2 (by decide) (fun c2 => ?_) (fun c2 => absurd (by decide) c2)
  refine aw_aload_n 0 dX9_withdraw_12 rfl rfl ?_
  refine aw_get fX9_202 dX9_withdraw_13 h88 rfl ?_
  refine aw_dS [.int q, .int (nI nm)] [] lX9_126 sX9_isIn mX9_isIn dX9_withdraw_16 (bX9_isIn (x := q) (n := nm) (by omega)) rfl (Nat.le_of_ble_eq_true rfl) (by decide) (by decide) rfl ?_
  refine aw_if_ne 28 dX9_withdraw_19 (by decide) (fun c19 => ?_) (fun c19 => ?_)
  · have t19 := ite_1 c19
    refine aw_iload_n 1 dX9_withdraw_28 rfl rfl ?_
    refine aw_if_eq 41 dX9_withdraw_29 (by decide) (fun c29 => ?_) (fun c29 => absurd (by decide) c29)
    obtain ⟨q0, bb_q0, ee_q0⟩ := i_nat (x := q) (N := nm) (by omega) (by omega)
    subst ee_q0
    have tt_q0 : (nI q0).toInt = (q0 : Int) := nI_toInt (by omega)
    have nn_q0 : tn (nI q0) = q0 := tn_nI (by omega)
    refine aw_aload_n 0 dX9_withdraw_41 rfl rfl ?_
    refine aw_get fX9_89 dX9_withdraw_42 h88 rfl ?_
    refine aw_iload_n 2 dX9_withdraw_45 rfl rfl ?_
    refine aw_iald q0 (rfl) (by omega) (by decide) dX9_withdraw_46 h113 ?_
    refine aw_toe (nI ((gM go) q0)) (rfl) ?_
    have hg := gM_lt (go := go) (bgo q0 (by omega))
    have hg2 := gM_b (go := go) (bgo q0 (by omega))
    refine aw_ldc (1000000000) kX9_201 dX9_withdraw_47 ?_
    refine aw_icmp_ge 59 dX9_withdraw_49 (by decide) (fun c49 => ?_) (fun c49 => ?_)
    · have d49 := (nv_le (a := 1000000000) (b := (gM go) q0) (rfl) (rfl) (by omega) (by omega)).mp c49
      refine aw_iload_n 3 dX9_withdraw_59 rfl rfl ?_
      refine aw_iload_n 1 dX9_withdraw_60 rfl rfl ?_
      refine aw_if_eq 73 dX9_withdraw_61 (by decide) (fun c61 => ?_) (fun c61 => absurd (by decide) c61)
      refine aw_aload_n 0 dX9_withdraw_73 rfl rfl ?_
      refine aw_get fX9_86 dX9_withdraw_74 h88 rfl ?_
      refine aw_iload_n 2 dX9_withdraw_77 rfl rfl ?_
      refine aw_iald q0 (rfl) (by omega) (by decide) dX9_withdraw_78 h112 ?_
      refine aw_toe (nI (kn q0)) (rfl) ?_
      have b1827 := bkn q0 (by omega)
      have hk9 : (nI (kn q0)).toInt = (kn q0 : Int) := nI_toInt (by omega)
      refine aw_ldc (80000) kX9_194 dX9_withdraw_79 ?_
      refine aw_dS [.int k, .int (nI (kn q0)), .int 80000] [] lX9_137 sX9_wrong mX9_wrong dX9_withdraw_81 (bX9_wrong (x := k) (y := (nI (kn q0))) (z := 80000) ) rfl (Nat.le_of_ble_eq_true rfl) (by decide) (by decide) rfl ?_
      refine aw_istore [(4, .int (wrF k (nI (kn q0)) 80000)), (0, .ref (G.1 + 88)), (1, .int 0), (2, .int (nI q0)), (3, .int k)] dX9_withdraw_84 (by decide) rfl ?_
      refine aw_iload 0 dX9_withdraw_86 rfl ?_
      refine aw_if_eq 98 dX9_withdraw_88 (by decide) (fun c88 => ?_) (fun c88 => ?_)
      · have d88 := (j_eq (a := (wrF k (nI (kn q0)) 80000).toInt) (b := (0)) (rfl) (rfl)).mp c88
        have hw : (kn q0 : Int) ≤ k.toInt ∧ k.toInt ≤ 80000 := by have q9 := wrF_0 c88; rw [hk9] at q9; exact q9
        obtain ⟨k0, bb_k0, ee_k0⟩ := i_nat (x := k) (N := 80001) (by omega) (by omega)
        subst ee_k0
        have tt_k0 : (nI k0).toInt = (k0 : Int) := nI_toInt (by omega)
        have nn_k0 : tn (nI k0) = k0 := tn_nI (by omega)
        refine aw_iload_n 2 dX9_withdraw_98 rfl rfl ?_
        refine aw_if_eq 112 dX9_withdraw_99 (by decide) (fun c99 => ?_) (fun c99 => absurd (by decide) c99)
        refine aw_aload_n 1 dX9_withdraw_112 rfl rfl ?_
        refine aw_get fX9_89 dX9_withdraw_113 h88 rfl ?_
        refine aw_iload_n 3 dX9_withdraw_116 rfl rfl ?_
        refine aw_iload_n 4 dX9_withdraw_117 rfl rfl ?_
        refine aw_iast q0 (rfl) (by omega) (by decide) dX9_withdraw_118 h113 ?_
        rw [nA_u (f := (gM go)) (i := q0) (x := (nI k0)) (v := k0) (rfl)]
        refine aw_iconst (1) dX9_withdraw_119 (by decide) ?_
        subst hQF
        have eS : (spBack nm kn go (nI q0) (nI k0)) = 1 := by unfold spBack; simp only [nn_q0, nn_k0]; (repeat' split) <;> first | (exfalso; omega) | rfl
        have ok9 : 0 ≤ (spBack nm kn go (nI q0) (nI k0)).toInt := by rw [eS]; decide
        exact aw_iret rfl dX9_withdraw_120 (by decide) (by decide) ⟨by rw [eS], _, by rw [spUn_y ok9, nn_q0, nn_k0, ← gM_k (by omega)]; exact (gs h113), (gn (by decide) (h89)), rg2_set (rg2_rf 89 89 113 113 h) (by decide)⟩
      · have d88 := mt (j_eq (a := (wrF k (nI (kn q0)) 80000).toInt) (b := (0)) (rfl) (rfl)).mpr c88
        refine aw_aload_n 1 dX9_withdraw_91 rfl rfl ?_
        refine aw_iload 0 dX9_withdraw_92 rfl ?_
        obtain ⟨q1828, bq1828, eq1828⟩ := Or.resolve_left (wrF_q k (nI (kn q0)) 80000) (by assumption)
        refine aw_eV [.int (wrF k (nI (kn q0)) 80000)] [] lX9_130 vX9_refuse mX9_refuse dX9_withdraw_94 (bX9_refuse (sp := sp) (fa := fa) (nb := nb) (ns := ns) (nm := nm) (nv := nv) (sh := sh) (ho := ho) (ow := ow) (sl := sl) (rg := rg) (x := (wrF k (nI (kn q0)) 80000)) (q := q1828) h88 h89 bq1828 eq1828) h88 rfl rfl rfl (Nat.le_of_ble_eq_true rfl) (by decide) (by decide) rfl (fun h1831 q1830 => ?_)
        obtain ⟨rg11829, f1832, k1833⟩ := q1830
        have f1834 := rng_at k1833 (by decide) h88
        have f1835 := rng_at k1833 (by decide) h112
        have f1836 := rng_at k1833 (by decide) h113
        subst hQF
        have q9 := wrF_r k (nI (kn q0)) 80000 (by assumption)
        rw [hk9, k_n.2.2.2.2.2.2] at q9
        have eS : (spBack nm kn go (nI q0) k) = (wrF k (nI (kn q0)) 80000) := by unfold spBack; unfold wrF; simp only [nn_q0, hk9, k_n.2.2.2.2.2.2]; (repeat' split) <;> first | (exfalso; omega) | rfl
        have ok9 : ¬ 0 ≤ (spBack nm kn go (nI q0) k).toInt := by rw [eS]; have q9 := wrF_neg c88; omega
        exact aw_iret rfl dX9_withdraw_97 (by decide) (by decide) ⟨by rw [eS], _, by rw [spUn_n ok9]; exact f1836, f1832, rg2_tr (rg2_rf 89 89 113 113 h) (rg2_w k1833 (by decide))⟩
    · have d49 := mt (nv_le (a := 1000000000) (b := (gM go) q0) (rfl) (rfl) (by omega) (by omega)).mpr c49
      refine aw_aload_n 0 dX9_withdraw_52 rfl rfl ?_
      refine aw_bipush (-3) dX9_withdraw_53 (by decide) ?_
      refine aw_eV [.int (-3)] [] lX9_130 vX9_refuse mX9_refuse dX9_withdraw_55 (bX9_refuse (sp := sp) (fa := fa) (nb := nb) (ns := ns) (nm := nm) (nv := nv) (sh := sh) (ho := ho) (ow := ow) (sl := sl) (rg := rg) (x := (-3)) (q := 3) h88 h89 (by decide) (by decide)) h88 rfl rfl rfl (Nat.le_of_ble_eq_true rfl) (by decide) (by decide) rfl (fun h1839 q1838 => ?_)
      obtain ⟨rg11837, f1840, k1841⟩ := q1838
      have f1842 := rng_at k1841 (by decide) h88
      have f1843 := rng_at k1841 (by decide) h112
      have f1844 := rng_at k1841 (by decide) h113
      subst hQF
      have eS : (spBack nm kn go (nI q0) k) = (-3) := by unfold spBack; simp only [nn_q0]; (repeat' split) <;> first | (exfalso; omega) | rfl
      have ok9 : ¬ 0 ≤ (spBack nm kn go (nI q0) k).toInt := by rw [eS]; decide
      exact aw_iret rfl dX9_withdraw_58 (by decide) (by decide) ⟨by rw [eS], _, by rw [spUn_n ok9]; exact f1844, f1840, rg2_tr (rg2_rf 89 89 113 113 h) (rg2_w k1841 (by decide))⟩
  · have t19 := ite_0 c19
    refine aw_aload_n 0 dX9_withdraw_22 rfl rfl ?_
    refine aw_iconst (-1) dX9_withdraw_23 (by decide) ?_
    refine aw_eV [.int (-1)] [] lX9_130 vX9_refuse mX9_refuse dX9_withdraw_24 (bX9_refuse (sp := sp) (fa := fa) (nb := nb) (ns := ns) (nm := nm) (nv := nv) (sh := sh) (ho := ho) (ow := ow) (sl := sl) (rg := rg) (x := (-1)) (q := 1) h88 h89 (by decide) (by decide)) h88 rfl rfl rfl (Nat.le_of_ble_eq_true rfl) (by decide) (by decide) rfl (fun h1847 q1846 => ?_)
    obtain ⟨rg11845, f1848, k1849⟩ := q1846
    have f1850 := rng_at k1849 (by decide) h88
    have f1851 := rng_at k1849 (by decide) h112
    have f1852 := rng_at k1849 (by decide) h113
    subst hQF
    have eS : (spBack nm kn go q k) = (-1) := by unfold spBack; (repeat' split) <;> first | (exfalso; omega) | rfl
    have ok9 : ¬ 0 ≤ (spBack nm kn go q k).toInt := by rw [eS]; decide
    exact aw_iret rfl dX9_withdraw_27 (by decide) (by decide) ⟨by rw [eS], _, by rw [spUn_n ok9]; exact f1852, f1848, rg2_tr (rg2_rf 89 89 113 113 h) (rg2_w k1849 (by decide))⟩
/-- where a thing was: the record of the latest day, of these the one of the greatest number -/
abbrev whC (th dy kn go : Nat → Nat) (t d k p : Nat) : Prop := dy p ≤ d ∧ th p = t ∧ kn p ≤ k ∧ k < go p
def whI (th dy kn go : Nat → Nat) (t d k n q : Nat) : Prop := whC th dy kn go t d k q ∧ ∀ p, p < n → whC th dy kn go t d k p → dy p < dy q ∨ (dy p = dy q ∧ p ≤ q)
def whP (th ot dy kn go : Nat → Nat) (t d k n : Nat) (r : Int32) : Prop := (r = -9 ∧ ∀ p, p < n → ¬ whC th dy kn go t d k p) ∨ ∃ q, q < n ∧ whI th dy kn go t d k n q ∧ r = nI (ot q)
theorem whP_u {th ot dy kn go : Nat → Nat} {t d k n : Nat} {r r' : Int32} (h : whP th ot dy kn go t d k n r) (h' : whP th ot dy kn go t d k n r') : r = r' := by
  rcases h with ⟨e, h⟩ | ⟨q, b, ⟨c, h⟩, e⟩
  · rcases h' with ⟨e', h'⟩ | ⟨q', b', ⟨c', h'⟩, e'⟩
    · rw [e, e']
    · exact absurd c' (h q' b')
  · rcases h' with ⟨e', h'⟩ | ⟨q', b', ⟨c', h'⟩, e'⟩
    · exact absurd c (h' q b)
    · have a1 := h q' b' c'
      have a2 := h' q b c
      have a3 : q = q' := by omega
      subst a3
      rw [e, e']
section WH
variable {th ot dy kn go od : Nat → Nat} {t d k n i q : Nat}
theorem lpF_i : ∀ a, (lpF th ot dy kn go od t d k a = -9 ∧ ∀ i, i < a → ¬ whC th dy kn go t d k (od i)) ∨ ∃ i, i < a ∧ whC th dy kn go t d k (od i) ∧ (∀ j, j < a → whC th dy kn go t d k (od j) → j ≤ i) ∧ lpF th ot dy kn go od t d k a = nI (ot (od i)) := by
  intro a
  induction a with
  | zero => exact Or.inl ⟨rfl, fun i h => absurd h (Nat.not_lt_zero _)⟩
  | succ a ih =>
    rw [lpF_s]
    by_cases c : whC th dy kn go t d k (od a)
    · exact Or.inr ⟨a, by omega, c, fun j hj _ => by omega, if_pos c⟩
    · rw [if_neg c]
      rcases ih with ⟨e, h⟩ | ⟨i, b, ci, h, e⟩
      · refine Or.inl ⟨e, fun i hi => ?_⟩
        rcases Nat.lt_or_ge i a with q | q
        · exact h i q
        · rw [show i = a by omega]; exact c
      · refine Or.inr ⟨i, by omega, ci, fun j hj cj => ?_, e⟩
        rcases Nat.lt_or_ge j a with q | q
        · exact h j q cj
        · rw [show j = a by omega] at cj; exact absurd cj c
theorem lp_P (hod : srt dy od n) : whP th ot dy kn go t d k n (lpF th ot dy kn go od t d k n) := by
  obtain ⟨h1, h2, h3⟩ := hod
  rcases lpF_i (th := th) (ot := ot) (dy := dy) (kn := kn) (go := go) (od := od) (t := t) (d := d) (k := k) n with ⟨e, h⟩ | ⟨i, b, c, h, e⟩
  · refine Or.inl ⟨e, fun p hp cp => ?_⟩
    obtain ⟨i, bi, rfl⟩ := h3 p hp
    exact h i bi cp
  · refine Or.inr ⟨od i, h1 i b, ⟨c, fun p hp cp => ?_⟩, e⟩
    obtain ⟨j, bj, rfl⟩ := h3 p hp
    have q := h j bj cp
    rcases Nat.lt_or_ge j i with w | w
    · have := h2 j i w b; omega
    · rw [show j = i by omega]; exact Or.inr ⟨rfl, Nat.le_refl _⟩
theorem wh_n (h : ∀ p, p < i → ¬ whC th dy kn go t d k p) (c : ¬ whC th dy kn go t d k i) : ∀ p, p < i + 1 → ¬ whC th dy kn go t d k p := by
  intro p hp
  rcases Nat.lt_or_ge p i with w | w
  · exact h p w
  · rw [show p = i by omega]; exact c
theorem wh_i (h : ∀ p, p < i → ¬ whC th dy kn go t d k p) (c : whC th dy kn go t d k i) : whI th dy kn go t d k (i + 1) i := by
  refine ⟨c, fun p hp cp => ?_⟩
  rcases Nat.lt_or_ge p i with w | w
  · exact absurd cp (h p w)
  · rw [show p = i by omega]; exact Or.inr ⟨rfl, Nat.le_refl _⟩
theorem wh_s (h : whI th dy kn go t d k i q) (c : ¬ whC th dy kn go t d k i) : whI th dy kn go t d k (i + 1) q := by
  refine ⟨h.1, fun p hp cp => ?_⟩
  rcases Nat.lt_or_ge p i with w | w
  · exact h.2 p w cp
  · rw [show p = i by omega] at cp; exact absurd cp c
theorem wh_l (h : whI th dy kn go t d k i q) (c : dy i < dy q) : whI th dy kn go t d k (i + 1) q := by
  refine ⟨h.1, fun p hp cp => ?_⟩
  rcases Nat.lt_or_ge p i with w | w
  · exact h.2 p w cp
  · rw [show p = i by omega]; exact Or.inl c
theorem wh_g (h : whI th dy kn go t d k i q) (c : whC th dy kn go t d k i) (g : ¬ dy i < dy q) : whI th dy kn go t d k (i + 1) i := by
  refine ⟨c, fun p hp cp => ?_⟩
  rcases Nat.lt_or_ge p i with w | w
  · have := h.2 p w cp; omega
  · rw [show p = i by omega]; exact Or.inr ⟨rfl, Nat.le_refl _⟩
theorem wh_1 (h : ∀ p, p < i → ¬ whC th dy kn go t d k p) (e : i = n) : whP th ot dy kn go t d k n (-9) := by
  subst e; exact Or.inl ⟨rfl, h⟩
theorem wh_2 (h : whI th dy kn go t d k i q) (b : q < i) (e : i = n) : whP th ot dy kn go t d k n (nI (ot q)) := by
  subst e; exact Or.inr ⟨q, b, h, rfl⟩
end WH
def whU (th ot dy kn go : Nat → Nat) (n : Nat) (t d k r : Int32) : Prop := if 0 ≤ t.toInt ∧ t.toInt < 12 then (if dyF d k = 0 then whP th ot dy kn go (tn t) (tn d) (tn k) n r else r = dyF d k) else r = -1
theorem whU_u {th ot dy kn go : Nat → Nat} {n : Nat} {t d k r r' : Int32} (h : whU th ot dy kn go n t d k r) (h' : whU th ot dy kn go n t d k r') : r = r' := by
  unfold whU at h h'
  split at h
  · rename_i c
    rw [if_pos c] at h'
    split at h
    · rename_i c1
      rw [if_pos c1] at h'
      exact whP_u h h'
    · rename_i c1
      rw [if_neg c1] at h'
      rw [h, h']
  · rename_i c
    rw [if_neg c] at h'
    rw [h, h']
theorem lp_U {th ot dy kn go od : Nat → Nat} {n : Nat} {t d k r : Int32} (hod : srt dy od n) (e : r = (if (0 ≤ t.toInt ∧ t.toInt < 12) then (if dyF d k = 0 then lpF th ot dy kn go od (tn t) (tn d) (tn k) n else dyF d k) else -1)) : whU th ot dy kn go n t d k r := by
  unfold whU
  subst e
  split
  · split
    · exact lp_P hod
    · rfl
  · rfl
/-- how many numbers below N are of a kind -/
noncomputable def cnt (f : Nat → Prop) : Nat → Nat
  | 0 => 0
  | N + 1 => cnt f N + @ite Nat (f N) (Classical.propDecidable _) 1 0
theorem cnt_b {f g : Nat → Prop} : ∀ N, (∀ D, D < N → (f D ↔ g D)) → cnt f N = cnt g N := by
  intro N
  induction N with
  | zero => intro _; rfl
  | succ N ih =>
    intro h
    rw [cnt, cnt, ih (fun D hD => h D (by omega))]
    have q := h N (by omega)
    by_cases c : f N
    · rw [if_pos c, if_pos (q.mp c)]
    · rw [if_neg c, if_neg (fun w => c (q.mpr w))]
theorem cnt_e {f g : Nat → Prop} {N : Nat} (h : ∀ D, f D ↔ g D) : cnt f N = cnt g N := cnt_b N (fun D _ => h D)
theorem cnt_up {f g : Nat → Prop} {D0 : Nat} (h : ∀ D, D ≠ D0 → (f D ↔ g D)) (hf : ¬ f D0) (hg : g D0) : ∀ N, D0 < N → cnt g N = cnt f N + 1 := by
  intro N
  induction N with
  | zero => intro q; exact absurd q (Nat.not_lt_zero _)
  | succ N ih =>
    intro q
    rw [cnt, cnt]
    by_cases e : N = D0
    · subst e
      rw [if_pos hg, if_neg hf, cnt_b N (fun D hD => h D (by omega))]
    · rw [ih (by omega)]
      have w := h N e
      by_cases c : f N
      · rw [if_pos c, if_pos (w.mp c)]
      · rw [if_neg c, if_neg (fun z => c (w.mpr z))]
theorem cnt_0 {f : Nat → Prop} (h : ∀ D, ¬ f D) : ∀ N, cnt f N = 0 := by
  intro N
  induction N with
  | zero => rfl
  | succ N ih => rw [cnt, ih, if_neg (h N)]
/-- days on which sights quarrel -/
abbrev qC (th kn go : Nat → Nat) (t k p : Nat) : Prop := th p = t ∧ kn p ≤ k ∧ k < go p
def qD (th ot dy kn go : Nat → Nat) (t k n D : Nat) : Prop := ∃ p q, p < n ∧ q < n ∧ qC th kn go t k p ∧ qC th kn go t k q ∧ dy p = D ∧ dy q = D ∧ ot p ≠ ot q
noncomputable def qnS (th ot dy kn go : Nat → Nat) (t k n : Nat) : Nat := cnt (qD th ot dy kn go t k n) 80001
/-- the same along the order -/
def qE (th ot dy kn go od : Nat → Nat) (t k a D : Nat) : Prop := ∃ i j, i < a ∧ j < a ∧ qC th kn go t k (od i) ∧ qC th kn go t k (od j) ∧ dy (od i) = D ∧ dy (od j) = D ∧ ot (od i) ≠ ot (od j)
theorem nI_8 {a b : Nat} (ha : a < 100000) (hb : b < 100000) : nI a = nI b ↔ a = b := nv_eq rfl rfl (by omega) (by omega)
theorem nI_ng {a : Nat} (ha : a < 100000) : ¬ nI a = -1 := by
  intro e
  have h := congrArg Int32.toInt e
  rw [nI_toInt (by omega), show (-1 : Int32).toInt = -1 from rfl] at h
  omega
section QU
variable {th ot dy kn go od : Nat → Nat} {t k n : Nat}
theorem qE_n {a D : Nat} (c : ¬ qC th kn go t k (od a)) : qE th ot dy kn go od t k a D ↔ qE th ot dy kn go od t k (a + 1) D := by
  constructor
  · rintro ⟨i, j, h1, h2, h3⟩; exact ⟨i, j, by omega, by omega, h3⟩
  · rintro ⟨i, j, h1, h2, h3, h4, h5⟩
    have e1 : i ≠ a := fun e => c (e ▸ h3)
    have e2 : j ≠ a := fun e => c (e ▸ h4)
    exact ⟨i, j, by omega, by omega, h3, h4, h5⟩
theorem qE_a {a D : Nat} (h : ∀ i, i < a → qC th kn go t k (od i) → dy (od i) = dy (od a) → ot (od i) = ot (od a)) : qE th ot dy kn go od t k a D ↔ qE th ot dy kn go od t k (a + 1) D := by
  constructor
  · rintro ⟨i, j, h1, h2, h3⟩; exact ⟨i, j, by omega, by omega, h3⟩
  · rintro ⟨i, j, h1, h2, h3, h4, h5, h6, h7⟩
    by_cases e1 : i = a
    · by_cases e2 : j = a
      · rw [e1, e2] at h7; exact absurd rfl h7
      · rw [e1] at h5 h7; exact absurd (h j (by omega) h4 (by rw [h5, h6])).symm h7
    · by_cases e2 : j = a
      · rw [e2] at h6 h7; exact absurd (h i (by omega) h3 (by rw [h5, h6])) h7
      · exact ⟨i, j, by omega, by omega, h3, h4, h5, h6, h7⟩
theorem qE_o {a D : Nat} (h : D ≠ dy (od a)) : qE th ot dy kn go od t k a D ↔ qE th ot dy kn go od t k (a + 1) D := by
  constructor
  · rintro ⟨i, j, h1, h2, h3⟩; exact ⟨i, j, by omega, by omega, h3⟩
  · rintro ⟨i, j, h1, h2, h3, h4, h5, h6, h7⟩
    have e1 : i ≠ a := fun e => by rw [e] at h5; exact h h5.symm
    have e2 : j ≠ a := fun e => by rw [e] at h6; exact h h6.symm
    exact ⟨i, j, by omega, by omega, h3, h4, h5, h6, h7⟩
theorem qdF_i (hod : srt dy od n) (bdy : ∀ j, j < n → dy j ≤ 80000) (bot : ∀ j, j < n → ot j < 8) : ∀ a, a ≤ n → (qdF th ot dy kn go od t k a).1 = cnt (qE th ot dy kn go od t k a) 80001 ∧
    (((∀ i, i < a → ¬ qC th kn go t k (od i)) ∧ (qdF th ot dy kn go od t k a).2.1 = -1) ∨
     ∃ f, f < a ∧ qC th kn go t k (od f) ∧ (qdF th ot dy kn go od t k a).2.1 = nI (dy (od f)) ∧ (qdF th ot dy kn go od t k a).2.2.1 = nI (ot (od f)) ∧ (∀ i, i < a → qC th kn go t k (od i) → dy (od i) ≤ dy (od f)) ∧
       (((qdF th ot dy kn go od t k a).2.2.2 = 0 ∧ ∀ i, i < a → qC th kn go t k (od i) → dy (od i) = dy (od f) → ot (od i) = ot (od f)) ∨
        ((qdF th ot dy kn go od t k a).2.2.2 = 1 ∧ ∃ i, i < a ∧ qC th kn go t k (od i) ∧ dy (od i) = dy (od f) ∧ ot (od i) ≠ ot (od f)))) := by
  intro a
  obtain ⟨h1, h2, h3⟩ := hod
  induction a with
  | zero =>
    intro _
    refine ⟨?_, Or.inl ⟨fun i h => absurd h (Nat.not_lt_zero _), rfl⟩⟩
    rw [cnt_0 (fun D => by rintro ⟨i, j, h, _⟩; exact absurd h (Nat.not_lt_zero _))]; rfl
  | succ a ih =>
    intro ha
    obtain ⟨ih1, ih2⟩ := ih (by omega)
    have ba := h1 a (by omega)
    have bd := bdy _ ba
    have bo := bot _ ba
    by_cases c : qC th kn go t k (od a)
    · rcases ih2 with ⟨g1, g2⟩ | ⟨f, g1, g2, g3, g4, g5, g6⟩
      · have e : qdF th ot dy kn go od t k (a + 1) = ((qdF th ot dy kn go od t k a).1, nI (dy (od a)), nI (ot (od a)), 0) := by
          simp only [qdF]; rw [if_pos c, if_neg (by rw [g2]; exact nI_ng (by omega))]
        rw [e]
        refine ⟨?_, Or.inr ⟨a, by omega, c, rfl, rfl, ?_, Or.inl ⟨rfl, ?_⟩⟩⟩
        · show (qdF th ot dy kn go od t k a).1 = _
          rw [ih1]; exact cnt_e (fun D => qE_a (fun i hi ci => absurd ci (g1 i hi)))
        · intro i hi ci
          by_cases w : i = a
          · rw [w]; exact Nat.le_refl _
          · exact absurd ci (g1 i (by omega))
        · intro i hi ci _
          by_cases w : i = a
          · rw [w]
          · exact absurd ci (g1 i (by omega))
      · have bf := h1 f (by omega)
        have bdf := bdy _ bf
        have bof := bot _ bf
        have s1 := h2 f a g1 (by omega)
        by_cases ed : dy (od a) = dy (od f)
        · by_cases eo : ot (od a) = ot (od f)
          · have e : qdF th ot dy kn go od t k (a + 1) = qdF th ot dy kn go od t k a := by
              simp only [qdF]; rw [if_pos c, if_pos (by rw [g3, ed]), if_pos (by rw [g4, eo])]
            rw [e]
            refine ⟨?_, Or.inr ⟨f, by omega, g2, g3, g4, ?_, ?_⟩⟩
            · rw [ih1]
              apply cnt_e
              intro D
              constructor
              · rintro ⟨i, j, h1, h2, h3⟩; exact ⟨i, j, by omega, by omega, h3⟩
              · rintro ⟨i, j, q1, q2, q3, q4, q5, q6, q7⟩
                by_cases e1 : i = a
                · by_cases e2 : j = a
                  · rw [e1, e2] at q7; exact absurd rfl q7
                  · rw [e1] at q5 q7; exact ⟨f, j, g1, by omega, g2, q4, by rw [← ed]; exact q5, q6, by rw [← eo]; exact q7⟩
                · by_cases e2 : j = a
                  · rw [e2] at q6 q7; exact ⟨i, f, by omega, g1, q3, g2, q5, by rw [← ed]; exact q6, by rw [← eo]; exact q7⟩
                  · exact ⟨i, j, by omega, by omega, q3, q4, q5, q6, q7⟩
            · intro i hi ci
              by_cases w : i = a
              · rw [w]; omega
              · exact g5 i (by omega) ci
            · rcases g6 with ⟨z, g6⟩ | ⟨z, i, b1, b2⟩
              · refine Or.inl ⟨z, fun i hi ci di => ?_⟩
                by_cases w : i = a
                · rw [w]; exact eo
                · exact g6 i (by omega) ci di
              · exact Or.inr ⟨z, i, by omega, b2⟩
          · have eo' : ¬ nI (ot (od a)) = (qdF th ot dy kn go od t k a).2.2.1 := by rw [g4]; exact fun q => eo ((nI_8 (by omega) (by omega)).mp q)
            rcases g6 with ⟨z, g6⟩ | ⟨z, i, b1, b2, b3, b4⟩
            · have e : qdF th ot dy kn go od t k (a + 1) = ((qdF th ot dy kn go od t k a).1 + 1, (qdF th ot dy kn go od t k a).2.1, (qdF th ot dy kn go od t k a).2.2.1, 1) := by
                simp only [qdF]; rw [if_pos c, if_pos (by rw [g3, ed]), if_neg eo', if_pos z]
              rw [e]
              refine ⟨?_, Or.inr ⟨f, by omega, g2, g3, g4, ?_, Or.inr ⟨rfl, a, by omega, c, ed, eo⟩⟩⟩
              · show (qdF th ot dy kn go od t k a).1 + 1 = _
                rw [ih1]
                refine (cnt_up (D0 := dy (od a)) (fun D hD => qE_o hD) ?_ ?_ 80001 (by omega)).symm
                · rintro ⟨i, j, q1, q2, q3, q4, q5, q6, q7⟩
                  exact q7 (by rw [g6 i q1 q3 (by omega), g6 j q2 q4 (by omega)])
                · exact ⟨f, a, by omega, by omega, g2, c, ed.symm, rfl, fun w => eo w.symm⟩
              · intro i hi ci
                by_cases w : i = a
                · rw [w]; omega
                · exact g5 i (by omega) ci
            · have e : qdF th ot dy kn go od t k (a + 1) = qdF th ot dy kn go od t k a := by
                simp only [qdF]; rw [if_pos c, if_pos (by rw [g3, ed]), if_neg eo', if_neg (by rw [z]; decide)]
              rw [e]
              refine ⟨?_, Or.inr ⟨f, by omega, g2, g3, g4, ?_, Or.inr ⟨z, i, by omega, b2, b3, b4⟩⟩⟩
              · rw [ih1]
                apply cnt_e
                intro D
                by_cases hD : D = dy (od a)
                · subst hD
                  exact ⟨fun _ => ⟨f, a, by omega, by omega, g2, c, ed.symm, rfl, fun w => eo w.symm⟩, fun _ => ⟨i, f, b1, g1, b2, g2, by omega, by omega, b4⟩⟩
                · exact qE_o hD
              · intro j hj cj
                by_cases w : j = a
                · rw [w]; omega
                · exact g5 j (by omega) cj
        · have e : qdF th ot dy kn go od t k (a + 1) = ((qdF th ot dy kn go od t k a).1, nI (dy (od a)), nI (ot (od a)), 0) := by
            simp only [qdF]; rw [if_pos c, if_neg (by rw [g3]; exact fun q => ed ((nI_8 (by omega) (by omega)).mp q))]
          rw [e]
          have lt : ∀ i, i < a → qC th kn go t k (od i) → dy (od i) < dy (od a) := fun i hi ci => by have := g5 i hi ci; omega
          refine ⟨?_, Or.inr ⟨a, by omega, c, rfl, rfl, ?_, Or.inl ⟨rfl, ?_⟩⟩⟩
          · show (qdF th ot dy kn go od t k a).1 = _
            rw [ih1]; exact cnt_e (fun D => qE_a (fun i hi ci di => by have := lt i hi ci; omega))
          · intro i hi ci
            by_cases w : i = a
            · rw [w]; exact Nat.le_refl _
            · have := lt i (by omega) ci; omega
          · intro i hi ci di
            by_cases w : i = a
            · rw [w]
            · have := lt i (by omega) ci; omega
    · have e : qdF th ot dy kn go od t k (a + 1) = qdF th ot dy kn go od t k a := by
        simp only [qdF]; rw [if_neg c]
      rw [e]
      refine ⟨?_, ?_⟩
      · rw [ih1]; exact cnt_e (fun D => qE_n c)
      · have ne : ∀ i, i < a + 1 → qC th kn go t k (od i) → i < a := fun i hi ci => by
          have : i ≠ a := fun w => c (w ▸ ci)
          omega
        rcases ih2 with ⟨g1, g2⟩ | ⟨f, g1, g2, g3, g4, g5, g6⟩
        · exact Or.inl ⟨fun i hi ci => g1 i (ne i hi ci) ci, g2⟩
        · refine Or.inr ⟨f, by omega, g2, g3, g4, fun i hi ci => g5 i (ne i hi ci) ci, ?_⟩
          rcases g6 with ⟨z, g6⟩ | ⟨z, i, b1, b2⟩
          · exact Or.inl ⟨z, fun i hi ci => g6 i (ne i hi ci) ci⟩
          · exact Or.inr ⟨z, i, by omega, b2⟩
theorem qd_S (hod : srt dy od n) (bdy : ∀ j, j < n → dy j ≤ 80000) (bot : ∀ j, j < n → ot j < 8) : (qdF th ot dy kn go od t k n).1 = qnS th ot dy kn go t k n := by
  rw [(qdF_i hod bdy bot n (Nat.le_refl _)).1]
  obtain ⟨h1, h2, h3⟩ := hod
  apply cnt_e
  intro D
  constructor
  · rintro ⟨i, j, q1, q2, q3⟩; exact ⟨od i, od j, h1 i q1, h1 j q2, q3⟩
  · rintro ⟨p, q, q1, q2, q3⟩
    obtain ⟨i, b1, rfl⟩ := h3 p q1
    obtain ⟨j, b2, rfl⟩ := h3 q q2
    exact ⟨i, j, b1, b2, q3⟩
end QU
/-- the reference's count, a record at a time -/
def fqF (th dy kn go : Nat → Nat) (t k i : Nat) : Nat → Bool
  | 0 => true
  | j + 1 => fqF th dy kn go t k i j && decide (qC th kn go t k j → dy j = dy i → i ≤ j)
def dqF (th ot dy kn go : Nat → Nat) (t k i : Nat) : Nat → Bool
  | 0 => false
  | j + 1 => dqF th ot dy kn go t k i j || decide (qC th kn go t k j ∧ dy j = dy i ∧ ot j ≠ ot i)
noncomputable def qnF (th ot dy kn go : Nat → Nat) (t k n i : Nat) : Nat := cnt (fun D => qD th ot dy kn go t k n D ∧ ∃ p, p < i ∧ qC th kn go t k p ∧ dy p = D) 80001
section QM
variable {th ot dy kn go : Nat → Nat} {t k n i j : Nat}
theorem fq_k (h : ¬ (qC th kn go t k j ∧ dy j = dy i)) : fqF th dy kn go t k i (j + 1) = fqF th dy kn go t k i j := by
  simp only [fqF]
  rw [decide_eq_true (fun a b => absurd ⟨a, b⟩ h), Bool.and_true]
theorem fq_1 (h : fqF th dy kn go t k i j = true) (h2 : ¬ j < i) : (1 : Int32) = if fqF th dy kn go t k i (j + 1) = true then 1 else 0 := by
  rw [if_pos]
  simp only [fqF, h, Bool.true_and]
  exact decide_eq_true (fun _ _ => by omega)
theorem fq_0 (hc : qC th kn go t k j) (hd : dy j = dy i) (h : ¬ fqF th dy kn go t k i j = true ∨ j < i) : (0 : Int32) = if fqF th dy kn go t k i (j + 1) = true then 1 else 0 := by
  rw [if_neg]
  intro q
  simp only [fqF, Bool.and_eq_true, decide_eq_true_eq] at q
  rcases h with h | h
  · exact h q.1
  · have := q.2 hc hd; omega
theorem dq_k (h : ¬ (qC th kn go t k j ∧ dy j = dy i)) : dqF th ot dy kn go t k i (j + 1) = dqF th ot dy kn go t k i j := by
  simp only [dqF]
  rw [decide_eq_false (fun a => h ⟨a.1, a.2.1⟩), Bool.or_false]
theorem dq_1 (h : dqF th ot dy kn go t k i j = true ∨ (qC th kn go t k j ∧ dy j = dy i ∧ ot j ≠ ot i)) : (1 : Int32) = if dqF th ot dy kn go t k i (j + 1) = true then 1 else 0 := by
  rw [if_pos]
  simp only [dqF, Bool.or_eq_true, decide_eq_true_eq]
  exact h
theorem dq_0 (h : ¬ dqF th ot dy kn go t k i j = true) (h2 : ot j = ot i) : (0 : Int32) = if dqF th ot dy kn go t k i (j + 1) = true then 1 else 0 := by
  rw [if_neg]
  simp only [dqF, Bool.or_eq_true, decide_eq_true_eq]
  rintro (q | q)
  · exact h q
  · exact q.2.2 h2
theorem fq_i : ∀ j, fqF th dy kn go t k i j = true ↔ ∀ p, p < j → qC th kn go t k p → dy p = dy i → i ≤ p := by
  intro j
  induction j with
  | zero => exact ⟨fun _ p h => absurd h (Nat.not_lt_zero _), fun _ => rfl⟩
  | succ j ih =>
    simp only [fqF, Bool.and_eq_true, decide_eq_true_eq, ih]
    constructor
    · rintro ⟨h1, h2⟩ p hp
      by_cases e : p = j
      · subst e; exact h2
      · exact h1 p (by omega)
    · intro h
      exact ⟨fun p hp => h p (by omega), h j (by omega)⟩
theorem dq_i : ∀ j, dqF th ot dy kn go t k i j = true ↔ ∃ p, p < j ∧ qC th kn go t k p ∧ dy p = dy i ∧ ot p ≠ ot i := by
  intro j
  induction j with
  | zero => simp [dqF]
  | succ j ih =>
    simp only [dqF, Bool.or_eq_true, decide_eq_true_eq, ih]
    constructor
    · rintro (⟨p, h1, h2⟩ | h)
      · exact ⟨p, by omega, h2⟩
      · exact ⟨j, by omega, h⟩
    · rintro ⟨p, h1, h2⟩
      by_cases e : p = j
      · subst e; exact Or.inr h2
      · exact Or.inl ⟨p, by omega, h2⟩
theorem qn_0 : qnF th ot dy kn go t k n 0 = 0 := cnt_0 (fun D => by rintro ⟨_, p, h, _⟩; exact absurd h (Nat.not_lt_zero _)) _
theorem qn_n (h : ¬ qC th kn go t k i) : qnF th ot dy kn go t k n (i + 1) = qnF th ot dy kn go t k n i := by
  apply cnt_e
  intro D
  constructor
  · rintro ⟨a, p, h1, h2, h3⟩
    have : p ≠ i := fun e => h (e ▸ h2)
    exact ⟨a, p, by omega, h2, h3⟩
  · rintro ⟨a, p, h1, h2⟩; exact ⟨a, p, by omega, h2⟩
theorem qn_y (bdy : dy i ≤ 80000) (c : qC th kn go t k i) (hi : i < n) (hf : fqF th dy kn go t k i n = true) (hd : dqF th ot dy kn go t k i n = true) : qnF th ot dy kn go t k n (i + 1) = qnF th ot dy kn go t k n i + 1 := by
  have hf := (fq_i n).mp hf
  obtain ⟨q, q1, q2, q3, q4⟩ := (dq_i n).mp hd
  refine cnt_up (D0 := dy i) (fun D hD => ?_) ?_ ?_ 80001 (by omega)
  · constructor
    · rintro ⟨a, p, h1, h2⟩; exact ⟨a, p, by omega, h2⟩
    · rintro ⟨a, p, h1, h2, h3⟩
      have : p ≠ i := fun e => by rw [e] at h3; exact hD h3.symm
      exact ⟨a, p, by omega, h2, h3⟩
  · rintro ⟨a, p, h1, h2, h3⟩
    have := hf p (by omega) h2 h3
    omega
  · exact ⟨⟨q, i, q1, hi, q2, c, q3, rfl, q4⟩, i, by omega, c, rfl⟩
theorem qn_m (c : qC th kn go t k i) (hi : i < n) (h : ¬ fqF th dy kn go t k i n = true ∨ ¬ dqF th ot dy kn go t k i n = true) : qnF th ot dy kn go t k n (i + 1) = qnF th ot dy kn go t k n i := by
  apply cnt_e
  intro D
  constructor
  · rintro ⟨a, p, h1, h2, h3⟩
    by_cases e : p = i
    · subst e
      rcases h with h | h
      · have h4 : ∃ r, r < p ∧ qC th kn go t k r ∧ dy r = dy p := by
          apply Classical.byContradiction
          intro w
          apply h
          rw [fq_i]
          intro r hr cr dr
          apply Classical.byContradiction
          intro z
          exact w ⟨r, by omega, cr, dr⟩
        obtain ⟨r, r1, r2, r3⟩ := h4
        exact ⟨a, r, r1, r2, by omega⟩
      · exfalso
        obtain ⟨x, y, x1, y1, x2, y2, x3, y3, ne⟩ := a
        by_cases ex : ot x = ot p
        · exact h ((dq_i n).mpr ⟨y, y1, y2, by omega, fun z => ne (ex.trans z.symm)⟩)
        · exact h ((dq_i n).mpr ⟨x, x1, x2, by omega, ex⟩)
    · exact ⟨a, p, by omega, h2, h3⟩
  · rintro ⟨a, p, h1, h2⟩; exact ⟨a, p, by omega, h2⟩
theorem qn_e (e : i = n) : qnF th ot dy kn go t k n i = qnS th ot dy kn go t k n := by
  subst e
  apply cnt_e
  intro D
  constructor
  · exact fun h => h.1
  · intro h
    obtain ⟨x, y, x1, y1, x2, y2, x3, y3, ne⟩ := h
    exact ⟨⟨x, y, x1, y1, x2, y2, x3, y3, ne⟩, x, x1, x2, x3⟩
end QM
/-- is a bar among the first told, as the reference looks -/
def brF (b1 b2 : Nat → Nat) (x y : Nat) : Nat → Bool
  | 0 => false
  | k + 1 => brF b1 b2 x y k || decide ((b1 k = x ∧ b2 k = y) ∨ (b1 k = y ∧ b2 k = x))
theorem brF_t {b1 b2 : Nat → Nat} {x y k : Nat} (h : brF b1 b2 x y k = true ∨ ((b1 k = x ∧ b2 k = y) ∨ (b1 k = y ∧ b2 k = x))) : (1 : Int32) = if brF b1 b2 x y (k + 1) = true then 1 else 0 := by
  rw [if_pos]
  simp only [brF, Bool.or_eq_true, decide_eq_true_eq]
  exact h
theorem brF_f {b1 b2 : Nat → Nat} {x y k : Nat} (h : ¬ brF b1 b2 x y k = true) (h2 : ¬ ((b1 k = x ∧ b2 k = y) ∨ (b1 k = y ∧ b2 k = x))) : (0 : Int32) = if brF b1 b2 x y (k + 1) = true then 1 else 0 := by
  rw [if_neg]
  simp only [brF, Bool.or_eq_true, decide_eq_true_eq]
  exact fun q => q.elim h h2
/-- how many bits -/
def pcF : Nat → Nat → Nat
  | 0, _ => 0
  | f + 1, x => x % 2 + pcF f (x / 2)
theorem pcF_le : ∀ f x, pcF f x ≤ f
  | 0, _ => Nat.le_refl _
  | f + 1, x => by have := pcF_le f (x / 2); simp only [pcF]; omega
theorem and_even {a b : Nat} : (2 * a) &&& (2 * b + 1) = 2 * (a &&& b) := by
  apply Nat.eq_of_testBit_eq
  intro i
  cases i with
  | zero => simp [Nat.testBit_and, Nat.testBit_zero]
  | succ i =>
    rw [Nat.testBit_and, Nat.testBit_succ, Nat.testBit_succ, Nat.testBit_succ, show 2 * a / 2 = a by omega, show (2 * b + 1) / 2 = b by omega, show 2 * (a &&& b) / 2 = a &&& b by omega, Nat.testBit_and]
theorem and_odd {a : Nat} : (2 * a + 1) &&& (2 * a) = 2 * a := by
  apply Nat.eq_of_testBit_eq
  intro i
  cases i with
  | zero => simp [Nat.testBit_and, Nat.testBit_zero]
  | succ i =>
    rw [Nat.testBit_and, Nat.testBit_succ, Nat.testBit_succ, show 2 * a / 2 = a by omega, show (2 * a + 1) / 2 = a by omega]
    simp
theorem pcF_st : ∀ f x, x < 2 ^ f → x ≠ 0 → pcF f (x &&& (x - 1)) + 1 = pcF f x
  | 0, x => by intro h h0; simp at h; omega
  | f + 1, x => by
    intro h h0
    rw [Nat.pow_succ] at h
    rcases Nat.mod_two_eq_zero_or_one x with e | e
    · have ih := pcF_st f (x / 2) (by omega) (by omega)
      have e1 : x &&& (x - 1) = 2 * (x / 2 &&& (x / 2 - 1)) := by
        rw [← and_even]
        congr 1 <;> omega
      simp only [pcF]
      rw [e1, show 2 * (x / 2 &&& (x / 2 - 1)) % 2 = 0 by omega, show 2 * (x / 2 &&& (x / 2 - 1)) / 2 = x / 2 &&& (x / 2 - 1) by omega]
      omega
    · have e1 : x &&& (x - 1) = 2 * (x / 2) := by
        conv => rhs; rw [← and_odd]
        congr 1 <;> omega
      simp only [pcF]
      rw [e1, show 2 * (x / 2) % 2 = 0 by omega, show 2 * (x / 2) / 2 = x / 2 by omega]
      omega
theorem pcF_0 : ∀ f, pcF f 0 = 0
  | 0 => rfl
  | f + 1 => by simp only [pcF]; rw [show 0 / 2 = 0 from rfl, pcF_0 f]
theorem an_0 {z : Int32} (h : ¬ z &&& 1 = 1) : z &&& 1 = 0 := by
  obtain ⟨j, hj, e⟩ := pk_andE z (m := 1) 1 rfl
  have hj2 : j < 2 := hj
  rcases (by omega : j = 0 ∨ j = 1) with q | q
  · subst q; exact e
  · subst q; exact absurd e h
theorem an_1 {z : Int32} (h : z &&& 1 = 1) : ¬ z &&& 1 = 0 := by rw [h]; decide
/-- the senses are a small number -/
theorem snF_nat {se : Nat → Nat} {x : Int32} (hs : ∀ j, j < 20 → se j < 20) : ∀ k, k ≤ 20 → ∃ n, n < 1048576 ∧ snF se x k = nI n := by
  intro k
  induction k with
  | zero => intro _; exact ⟨0, by decide, rfl⟩
  | succ k ih =>
    intro hk
    obtain ⟨n, hn, e⟩ := ih (by omega)
    by_cases h : (x >>> (nI k &&& 31)) &&& 1 = 0
    · exact ⟨n, hn, by rw [snF_0 h, e]⟩
    · have b := hs k (by omega)
      refine ⟨n ||| 2 ^ se k, ?_, by rw [snF_1 h, e, sh_1 _ (by omega), nn_or]⟩
      exact Nat.or_lt_two_pow (n := 20) hn (Nat.pow_lt_pow_right (by decide) b)
theorem rootlt {m : Nat → Nat} : ∀ j, j < 20 → root m j < 20 := fun j hj => Nat.lt_of_le_of_lt (root_le m j) hj
theorem nv_shl10 {x : Int32} {i : Nat} (h : x = nI i) (hi : i < 2048) : x <<< ((10 : Int32) &&& 31) = nI (i * 1024) := by
  subst h
  apply Int32.toBitVec_inj.mp
  show (nI i <<< ((10 : Int32) &&& 31)).toBitVec = BitVec.ofNat 32 (i * 1024)
  rw [Int32.toBitVec_shiftLeft]
  rw [show ((10 : Int32) &&& 31).toBitVec.smod 32 = 10#32 from by decide]
  show BitVec.ofNat 32 i <<< 10#32 = BitVec.ofNat 32 (i * 1024)
  apply BitVec.eq_of_toNat_eq
  rw [BitVec.shiftLeft_eq', BitVec.toNat_shiftLeft, BitVec.toNat_ofNat, BitVec.toNat_ofNat, BitVec.toNat_ofNat, Nat.shiftLeft_eq]
  rw [show (2 : Nat) ^ (10 % 2 ^ 32) = 1024 from by decide]
  omega
/-- the answer to a bar -/
def spBarA (fi : Nat → Nat) (nb : Nat) (told : Prop) [Decidable told] (a i b k : Int32) : Int32 :=
  if ((0 ≤ a.toInt ∧ a.toInt < 4) ∧ 0 ≤ i.toInt ∧ i.toInt < (fi (tn a) : Int)) ∧ ((0 ≤ b.toInt ∧ b.toInt < 4) ∧ 0 ≤ k.toInt ∧ k.toInt < (fi (tn b) : Int)) ∧ a.toInt ≠ b.toInt then (if told then 0 else if 30 ≤ nb then -6 else 1) else -1
set_option maxHeartbeats 4000000 in
theorem bX9_isEntry {l : Launch} {G : xG} {h : List va_E} {sp fa nb ns nm nv sh : Nat} {ho ow sl : Int32} {fi : Nat → Nat} {c i : Int32} (h88 : h[88]? = some (oB 9 (lM G (nI sp) (nI fa) (nI nb) (nI ns) (nI nm) ho ow sl (nI nv) (nI sh)))) (h92 : h[92]? = some (aI 4 (nA fi))) (hfi : ∀ j, j < 4 → fi j < 11) : CD l G yX9_isEntry cX9_isEntry 3 (some .boolean) 2 0 0 [.ref (G.1 + 88), .int c, .int i] h (some (.int (if ((0 ≤ c.toInt ∧ c.toInt < 4) ∧ 0 ≤ i.toInt ∧ i.toInt < (fi (tn c) : Int)) then 1 else 0))) h := by
  refine cm_ofQ rfl (Nat.le_of_ble_eq_true rfl) [(0, .ref (G.1 + 88)), (1, .int c), (2, .int i)] rfl (fun QF hQF => ?_)
  refine aw_iload_n 1 dX9_isEntry_0 rfl rfl ?_
  refine aw_iconst (4) dX9_isEntry_1 (by decide) ?_
  refine aw_dS [.int c, .int 4] [] lX9_126 sX9_isIn mX9_isIn dX9_isEntry_2 (bX9_isIn (x := c) (n := 4) (by omega)) rfl (Nat.le_of_ble_eq_true rfl) (by decide) (by decide) rfl ?_
  refine aw_if_eq 25 dX9_isEntry_5 (by decide) (fun c5 => ?_) (fun c5 => ?_)
  · have t5 := ite_0 c5
    refine aw_iconst (0) dX9_isEntry_25 (by decide) ?_
    subst hQF
    exact aw_zret rfl rfl dX9_isEntry_26 (by decide) (by decide) ⟨by rw [if_neg (by omega)], rfl⟩
  · have t5 := ite_1 c5
    obtain ⟨ca, bb_ca, ee_ca⟩ := i_nat (x := c) (N := 4) (by omega) (by omega)
    subst ee_ca
    have tt_ca : (nI ca).toInt = (ca : Int) := nI_toInt (by omega)
    have nn_ca : tn (nI ca) = ca := tn_nI (by omega)
    refine aw_iload_n 2 dX9_isEntry_8 rfl rfl ?_
    refine aw_aload_n 0 dX9_isEntry_9 rfl rfl ?_
    refine aw_get fX9_19 dX9_isEntry_10 h88 rfl ?_
    refine aw_iload_n 1 dX9_isEntry_13 rfl rfl ?_
    refine aw_iald ca (rfl) (by omega) (by decide) dX9_isEntry_14 h92 ?_
    refine aw_toe (nI (fi ca)) (rfl) ?_
    have b1595 := hfi ca (by omega)
    refine aw_dS [.int i, .int (nI (fi ca))] [] lX9_126 sX9_isIn mX9_isIn dX9_isEntry_15 (bX9_isIn (x := i) (n := fi ca) (by omega)) rfl (Nat.le_of_ble_eq_true rfl) (by decide) (by decide) rfl ?_
    refine aw_if_eq 25 dX9_isEntry_18 (by decide) (fun c18 => ?_) (fun c18 => ?_)
    · have t18 := ite_0 c18
      refine aw_iconst (0) dX9_isEntry_25 (by decide) ?_
      subst hQF
      exact aw_zret rfl rfl dX9_isEntry_26 (by decide) (by decide) ⟨by rw [if_neg (by rw [nn_ca]; omega)], rfl⟩
    · have t18 := ite_1 c18
      refine aw_iconst (1) dX9_isEntry_21 (by decide) ?_
      refine aw_goto 26 dX9_isEntry_22 (by decide) ?_
      subst hQF
      exact aw_zret rfl rfl dX9_isEntry_26 (by decide) (by decide) ⟨by rw [if_pos (by rw [nn_ca]; omega)], rfl⟩
set_option maxHeartbeats 4000000 in
theorem bX9_isBarred {l : Launch} {G : xG} {h : List va_E} {sp fa nb ns nm nv sh : Nat} {ho ow sl : Int32} {b1 b2 : Nat → Nat} {x y : Nat} (h88 : h[88]? = some (oB 9 (lM G (nI sp) (nI fa) (nI nb) (nI ns) (nI nm) ho ow sl (nI nv) (nI sh)))) (h97 : h[97]? = some (aI 30 (nA b1))) (h98 : h[98]? = some (aI 30 (nA b2))) (hnb : nb ≤ 30) (bb1 : ∀ j, j < 30 → b1 j < 40) (bb2 : ∀ j, j < 30 → b2 j < 40) (bx : x < 40) (by_ : y < 40) : CD l G yX9_isBarred cX9_isBarred 5 (some .boolean) 0 0 0 [.ref (G.1 + 88), .int (nI x), .int (nI y)] h (some (.int (if (brF b1 b2 x y nb = true) then 1 else 0))) h := by
  refine cm_ofQ rfl (Nat.le_of_ble_eq_true rfl) [(0, .ref (G.1 + 88)), (1, .int (nI x)), (2, .int (nI y))] rfl (fun QF hQF => ?_)
  refine aw_iconst (0) dX9_isBarred_0 (by decide) ?_
  refine aw_istore_n [(3, .int 0), (0, .ref (G.1 + 88)), (1, .int (nI x)), (2, .int (nI y))] dX9_isBarred_1 rfl (by decide) rfl ?_
  refine aw_iconst (0) dX9_isBarred_2 (by decide) ?_
  refine aw_istore [(4, .int 0), (3, .int 0), (0, .ref (G.1 + 88)), (1, .int (nI x)), (2, .int (nI y))] dX9_isBarred_3 (by decide) rfl ?_
  refine aw_lv [(4, .int 0), (3, .int 0), (2, .int (nI y)), (1, .int (nI x)), (0, .ref (G.1 + 88))] [0, 1, 4, 3, 2] rfl ?_
  suffices L1596 : ∀ (mm : Nat) (k : Nat) (bv : Int32), nb - k < mm → (k ≤ nb) → (bv = if (brF b1 b2 x y k = true) then 1 else 0) → AW l G yX9_isBarred cX9_isBarred 5 (some .boolean) (xR 0 0 0) (fun _ _ => True) QF 0 0 5 [(4, .int (nI k)), (3, .int bv), (2, .int (nI y)), (1, .int (nI x)), (0, .ref (G.1 + 88))] [] h from L1596 (nb - 0 + 1) 0 0 (Nat.lt_succ_self _) (Nat.zero_le _) (rfl)
  intro mm
  induction mm with
  | zero =>
    intro k bv hmm hk hb
    exact absurd hmm (Nat.not_lt_zero _)
  | succ mm ih1596 =>
    intro k bv hmm hk hb
    subst hb
    · refine aw_iload 0 dX9_isBarred_5 rfl ?_
      refine aw_aload_n 4 dX9_isBarred_7 rfl rfl ?_
      refine aw_get fX9_142 dX9_isBarred_8 h88 rfl ?_
      refine aw_icmp_ge 74 dX9_isBarred_11 (by decide) (fun c11 => ?_) (fun c11 => ?_)
      · have d11 := (nv_le (a := nb) (b := k) (rfl) (rfl) (by omega) (by omega)).mp c11
        refine aw_iload_n 1 dX9_isBarred_74 rfl rfl ?_
        subst hQF
        exact aw_zret rfl (by first | rfl | (split <;> rfl)) dX9_isBarred_75 (by decide) (by decide) ⟨by rw [show k = nb by omega], rfl⟩
      · have d11 := mt (nv_le (a := nb) (b := k) (rfl) (rfl) (by omega) (by omega)).mpr c11
        refine aw_iload_n 1 dX9_isBarred_14 rfl rfl ?_
        refine aw_if_ne 62 dX9_isBarred_15 (by decide) (fun c15 => ?_) (fun c15 => ?_)
        · have t15 := ite_1 c15
          refine aw_iconst (1) dX9_isBarred_62 (by decide) ?_
          refine aw_goto 67 dX9_isBarred_63 (by decide) ?_
          refine aw_istore_n [(3, .int 1), (4, .int (nI k)), (2, .int (nI y)), (1, .int (nI x)), (0, .ref (G.1 + 88))] dX9_isBarred_67 rfl (by decide) rfl ?_
          refine aw_iinc (j := 1) (nI (k + 1)) [(4, .int (nI (k + 1))), (3, .int 1), (2, .int (nI y)), (1, .int (nI x)), (0, .ref (G.1 + 88))] dX9_isBarred_68 rfl (nv_inc (rfl)) (by decide) rfl ?_
          refine aw_goto 5 dX9_isBarred_71 (by decide) ?_
          refine aw_lv [(4, .int (nI (k + 1))), (3, .int 1), (2, .int (nI y)), (1, .int (nI x)), (0, .ref (G.1 + 88))] [0, 1, 2, 3, 4] rfl ?_
          exact ih1596 (k + 1) 1 (by omega) (by omega) (brF_t (Or.inl t15))
        · have t15 := ite_0 c15
          refine aw_aload_n 4 dX9_isBarred_18 rfl rfl ?_
          refine aw_get fX9_34 dX9_isBarred_19 h88 rfl ?_
          refine aw_iload 0 dX9_isBarred_22 rfl ?_
          refine aw_iald k (rfl) (by omega) (by decide) dX9_isBarred_24 h97 ?_
          refine aw_toe (nI (b1 k)) (rfl) ?_
          have b1597 := bb1 k (by omega)
          refine aw_iload_n 3 dX9_isBarred_25 rfl rfl ?_
          refine aw_icmp_ne 40 dX9_isBarred_26 (by decide) (fun c26 => ?_) (fun c26 => ?_)
          · have d26 := mt (nv_eq (a := b1 k) (b := x) (rfl) (rfl) (by omega) (by omega)).mpr c26
            refine aw_aload_n 4 dX9_isBarred_40 rfl rfl ?_
            refine aw_get fX9_34 dX9_isBarred_41 h88 rfl ?_
            refine aw_iload 0 dX9_isBarred_44 rfl ?_
            refine aw_iald k (rfl) (by omega) (by decide) dX9_isBarred_46 h97 ?_
            refine aw_toe (nI (b1 k)) (rfl) ?_
            have b1598 := bb1 k (by omega)
            refine aw_iload_n 2 dX9_isBarred_47 rfl rfl ?_
            refine aw_icmp_ne 66 dX9_isBarred_48 (by decide) (fun c48 => ?_) (fun c48 => ?_)
            · have d48 := mt (nv_eq (a := b1 k) (b := y) (rfl) (rfl) (by omega) (by omega)).mpr c48
              refine aw_iconst (0) dX9_isBarred_66 (by decide) ?_
              refine aw_istore_n [(3, .int 0), (4, .int (nI k)), (2, .int (nI y)), (1, .int (nI x)), (0, .ref (G.1 + 88))] dX9_isBarred_67 rfl (by decide) rfl ?_
              refine aw_iinc (j := 1) (nI (k + 1)) [(4, .int (nI (k + 1))), (3, .int 0), (2, .int (nI y)), (1, .int (nI x)), (0, .ref (G.1 + 88))] dX9_isBarred_68 rfl (nv_inc (rfl)) (by decide) rfl ?_
              refine aw_goto 5 dX9_isBarred_71 (by decide) ?_
              refine aw_lv [(4, .int (nI (k + 1))), (3, .int 0), (2, .int (nI y)), (1, .int (nI x)), (0, .ref (G.1 + 88))] [0, 1, 2, 3, 4] rfl ?_
              exact ih1596 (k + 1) 0 (by omega) (by omega) (brF_f t15 (by omega))
            · have d48 := (nv_eq (a := b1 k) (b := y) (rfl) (rfl) (by omega) (by omega)).mp c48
              refine aw_aload_n 4 dX9_isBarred_51 rfl rfl ?_
              refine aw_get fX9_37 dX9_isBarred_52 h88 rfl ?_
              refine aw_iload 0 dX9_isBarred_55 rfl ?_
              refine aw_iald k (rfl) (by omega) (by decide) dX9_isBarred_57 h98 ?_
              refine aw_toe (nI (b2 k)) (rfl) ?_
              have b1599 := bb2 k (by omega)
              refine aw_iload_n 3 dX9_isBarred_58 rfl rfl ?_
              refine aw_icmp_ne 66 dX9_isBarred_59 (by decide) (fun c59 => ?_) (fun c59 => ?_)
              · have d59 := mt (nv_eq (a := b2 k) (b := x) (rfl) (rfl) (by omega) (by omega)).mpr c59
                refine aw_iconst (0) dX9_isBarred_66 (by decide) ?_
                refine aw_istore_n [(3, .int 0), (4, .int (nI k)), (2, .int (nI y)), (1, .int (nI x)), (0, .ref (G.1 + 88))] dX9_isBarred_67 rfl (by decide) rfl ?_
                refine aw_iinc (j := 1) (nI (k + 1)) [(4, .int (nI (k + 1))), (3, .int 0), (2, .int (nI y)), (1, .int (nI x)), (0, .ref (G.1 + 88))] dX9_isBarred_68 rfl (nv_inc (rfl)) (by decide) rfl ?_
                refine aw_goto 5 dX9_isBarred_71 (by decide) ?_
                refine aw_lv [(4, .int (nI (k + 1))), (3, .int 0), (2, .int (nI y)), (1, .int (nI x)), (0, .ref (G.1 + 88))] [0, 1, 2, 3, 4] rfl ?_
                exact ih1596 (k + 1) 0 (by omega) (by omega) (brF_f t15 (by omega))
              · have d59 := (nv_eq (a := b2 k) (b := x) (rfl) (rfl) (by omega) (by omega)).mp c59
                refine aw_iconst (1) dX9_isBarred_62 (by decide) ?_
                refine aw_goto 67 dX9_isBarred_63 (by decide) ?_
                refine aw_istore_n [(3, .int 1), (4, .int (nI k)), (2, .int (nI y)), (1, .int (nI x)), (0, .ref (G.1 + 88))] dX9_isBarred_67 rfl (by decide) rfl ?_
                refine aw_iinc (j := 1) (nI (k + 1)) [(4, .int (nI (k + 1))), (3, .int 1), (2, .int (nI y)), (1, .int (nI x)), (0, .ref (G.1 + 88))] dX9_isBarred_68 rfl (nv_inc (rfl)) (by decide) rfl ?_
                refine aw_goto 5 dX9_isBarred_71 (by decide) ?_
                refine aw_lv [(4, .int (nI (k + 1))), (3, .int 1), (2, .int (nI y)), (1, .int (nI x)), (0, .ref (G.1 + 88))] [0, 1, 2, 3, 4] rfl ?_
                exact ih1596 (k + 1) 1 (by omega) (by omega) (brF_t (Or.inr (by omega)))
          · have d26 := (nv_eq (a := b1 k) (b := x) (rfl) (rfl) (by omega) (by omega)).mp c26
            refine aw_aload_n 4 dX9_isBarred_29 rfl rfl ?_
            refine aw_get fX9_37 dX9_isBarred_30 h88 rfl ?_
            refine aw_iload 0 dX9_isBarred_33 rfl ?_
            refine aw_iald k (rfl) (by omega) (by decide) dX9_isBarred_35 h98 ?_
            refine aw_toe (nI (b2 k)) (rfl) ?_
            have b1600 := bb2 k (by omega)
            refine aw_iload_n 2 dX9_isBarred_36 rfl rfl ?_
            refine aw_icmp_eq 62 dX9_isBarred_37 (by decide) (fun c37 => ?_) (fun c37 => ?_)
            · have d37 := (nv_eq (a := b2 k) (b := y) (rfl) (rfl) (by omega) (by omega)).mp c37
              refine aw_iconst (1) dX9_isBarred_62 (by decide) ?_
              refine aw_goto 67 dX9_isBarred_63 (by decide) ?_
              refine aw_istore_n [(3, .int 1), (4, .int (nI k)), (2, .int (nI y)), (1, .int (nI x)), (0, .ref (G.1 + 88))] dX9_isBarred_67 rfl (by decide) rfl ?_
              refine aw_iinc (j := 1) (nI (k + 1)) [(4, .int (nI (k + 1))), (3, .int 1), (2, .int (nI y)), (1, .int (nI x)), (0, .ref (G.1 + 88))] dX9_isBarred_68 rfl (nv_inc (rfl)) (by decide) rfl ?_
              refine aw_goto 5 dX9_isBarred_71 (by decide) ?_
              refine aw_lv [(4, .int (nI (k + 1))), (3, .int 1), (2, .int (nI y)), (1, .int (nI x)), (0, .ref (G.1 + 88))] [0, 1, 2, 3, 4] rfl ?_
              exact ih1596 (k + 1) 1 (by omega) (by omega) (brF_t (Or.inr (by omega)))
            · have d37 := mt (nv_eq (a := b2 k) (b := y) (rfl) (rfl) (by omega) (by omega)).mpr c37
              refine aw_aload_n 4 dX9_isBarred_40 rfl rfl ?_
              refine aw_get fX9_34 dX9_isBarred_41 h88 rfl ?_
              refine aw_iload 0 dX9_isBarred_44 rfl ?_
              refine aw_iald k (rfl) (by omega) (by decide) dX9_isBarred_46 h97 ?_
              refine aw_toe (nI (b1 k)) (rfl) ?_
              have b1601 := bb1 k (by omega)
              refine aw_iload_n 2 dX9_isBarred_47 rfl rfl ?_
              refine aw_icmp_ne 66 dX9_isBarred_48 (by decide) (fun c48 => ?_) (fun c48 => ?_)
              · have d48 := mt (nv_eq (a := b1 k) (b := y) (rfl) (rfl) (by omega) (by omega)).mpr c48
                refine aw_iconst (0) dX9_isBarred_66 (by decide) ?_
                refine aw_istore_n [(3, .int 0), (4, .int (nI k)), (2, .int (nI y)), (1, .int (nI x)), (0, .ref (G.1 + 88))] dX9_isBarred_67 rfl (by decide) rfl ?_
                refine aw_iinc (j := 1) (nI (k + 1)) [(4, .int (nI (k + 1))), (3, .int 0), (2, .int (nI y)), (1, .int (nI x)), (0, .ref (G.1 + 88))] dX9_isBarred_68 rfl (nv_inc (rfl)) (by decide) rfl ?_
                refine aw_goto 5 dX9_isBarred_71 (by decide) ?_
                refine aw_lv [(4, .int (nI (k + 1))), (3, .int 0), (2, .int (nI y)), (1, .int (nI x)), (0, .ref (G.1 + 88))] [0, 1, 2, 3, 4] rfl ?_
                exact ih1596 (k + 1) 0 (by omega) (by omega) (brF_f t15 (by omega))
              · have d48 := (nv_eq (a := b1 k) (b := y) (rfl) (rfl) (by omega) (by omega)).mp c48
                refine aw_aload_n 4 dX9_isBarred_51 rfl rfl ?_
                refine aw_get fX9_37 dX9_isBarred_52 h88 rfl ?_
                refine aw_iload 0 dX9_isBarred_55 rfl ?_
                refine aw_iald k (rfl) (by omega) (by decide) dX9_isBarred_57 h98 ?_
                refine aw_toe (nI (b2 k)) (rfl) ?_
                have b1602 := bb2 k (by omega)
                refine aw_iload_n 3 dX9_isBarred_58 rfl rfl ?_
                refine aw_icmp_ne 66 dX9_isBarred_59 (by decide) (fun c59 => ?_) (fun c59 => ?_)
                · have d59 := mt (nv_eq (a := b2 k) (b := x) (rfl) (rfl) (by omega) (by omega)).mpr c59
                  refine aw_iconst (0) dX9_isBarred_66 (by decide) ?_
                  refine aw_istore_n [(3, .int 0), (4, .int (nI k)), (2, .int (nI y)), (1, .int (nI x)), (0, .ref (G.1 + 88))] dX9_isBarred_67 rfl (by decide) rfl ?_
                  refine aw_iinc (j := 1) (nI (k + 1)) [(4, .int (nI (k + 1))), (3, .int 0), (2, .int (nI y)), (1, .int (nI x)), (0, .ref (G.1 + 88))] dX9_isBarred_68 rfl (nv_inc (rfl)) (by decide) rfl ?_
                  refine aw_goto 5 dX9_isBarred_71 (by decide) ?_
                  refine aw_lv [(4, .int (nI (k + 1))), (3, .int 0), (2, .int (nI y)), (1, .int (nI x)), (0, .ref (G.1 + 88))] [0, 1, 2, 3, 4] rfl ?_
                  exact ih1596 (k + 1) 0 (by omega) (by omega) (brF_f t15 (by omega))
                · have d59 := (nv_eq (a := b2 k) (b := x) (rfl) (rfl) (by omega) (by omega)).mp c59
                  refine aw_iconst (1) dX9_isBarred_62 (by decide) ?_
                  refine aw_goto 67 dX9_isBarred_63 (by decide) ?_
                  refine aw_istore_n [(3, .int 1), (4, .int (nI k)), (2, .int (nI y)), (1, .int (nI x)), (0, .ref (G.1 + 88))] dX9_isBarred_67 rfl (by decide) rfl ?_
                  refine aw_iinc (j := 1) (nI (k + 1)) [(4, .int (nI (k + 1))), (3, .int 1), (2, .int (nI y)), (1, .int (nI x)), (0, .ref (G.1 + 88))] dX9_isBarred_68 rfl (nv_inc (rfl)) (by decide) rfl ?_
                  refine aw_goto 5 dX9_isBarred_71 (by decide) ?_
                  refine aw_lv [(4, .int (nI (k + 1))), (3, .int 1), (2, .int (nI y)), (1, .int (nI x)), (0, .ref (G.1 + 88))] [0, 1, 2, 3, 4] rfl ?_
                  exact ih1596 (k + 1) 1 (by omega) (by omega) (brF_t (Or.inr (by omega)))
set_option maxHeartbeats 4000000 in
theorem oX9_bar {l : Launch} {G : xG} {h : List va_E} {sp fa nb ns nm nv sh : Nat} {ho ow sl : Int32} {rg : Nat → Int32} {fi b1 b2 : Nat → Nat} {a i b k : Int32} (h88 : h[88]? = some (oB 9 (lM G (nI sp) (nI fa) (nI nb) (nI ns) (nI nm) ho ow sl (nI nv) (nI sh)))) (h89 : h[89]? = some (aI 7 rg)) (h92 : h[92]? = some (aI 4 (nA fi))) (h97 : h[97]? = some (aI 30 (nA b1))) (h98 : h[98]? = some (aI 30 (nA b2))) (hfi : ∀ j, j < 4 → fi j < 11) (hnb : nb ≤ 30) (bb1 : ∀ j, j < 30 → b1 j < 40) (bb2 : ∀ j, j < 30 → b2 j < 40) : CE l G yX9_bar cX9_bar 5 (some .int) 3 0 0 [.ref (G.1 + 88), .int a, .int i, .int b, .int k] h (some (.int (spBarA fi nb (brF b1 b2 (tn a * 10 + tn i) (tn b * 10 + tn k) nb = true) a i b k))) (fun h1 => ∃ rg1 : Nat → Int32, h1[88]? = some (oB 9 (lM G (nI sp) (nI fa) (nI (spN ((spBarA fi nb (brF b1 b2 (tn a * 10 + tn i) (tn b * 10 + tn k) nb = true) a i b k) = 1) nb (nb + 1))) (nI ns) (nI nm) ho ow sl (nI nv) (nI sh))) ∧ h1[97]? = some (aI 30 (nA (spUn ((spBarA fi nb (brF b1 b2 (tn a * 10 + tn i) (tn b * 10 + tn k) nb = true) a i b k) = 1) b1 nb (tn a * 10 + tn i)))) ∧ h1[98]? = some (aI 30 (nA (spUn ((spBarA fi nb (brF b1 b2 (tn a * 10 + tn i) (tn b * 10 + tn k) nb = true) a i b k) = 1) b2 nb (tn b * 10 + tn k)))) ∧ h1[89]? = some (aI 7 rg1) ∧ rg2 88 89 97 98 h h1) := by
  refine cm_ofQ rfl (Nat.le_of_ble_eq_true rfl) [(0, .ref (G.1 + 88)), (1, .int a), (2, .int i), (3, .int b), (4, .int k)] rfl (fun QF hQF => ?_)
  refine aw_aload_n 0 dX9_bar_0 rfl rfl ?_
  refine aw_iload_n 1 dX9_bar_1 rfl rfl ?_
  refine aw_iload_n 2 dX9_bar_2 rfl rfl ?_
  refine aw_dV [.int a, .int i] [] lX9_145 vX9_isEntry mX9_isEntry dX9_bar_3 (bX9_isEntry (sp := sp) (fa := fa) (nb := nb) (ns := ns) (nm := nm) (nv := nv) (sh := sh) (ho := ho) (ow := ow) (sl := sl) (fi := fi) (c := a) (i := i) h88 h92 hfi) h88 rfl rfl rfl (Nat.le_of_ble_eq_true rfl) (by decide) (by decide) rfl ?_
  refine aw_if_eq 24 dX9_bar_6 (by decide) (fun c6 => ?_) (fun c6 => ?_)
  · have t6 := ite_0 c6
    refine aw_aload_n 0 dX9_bar_24 rfl rfl ?_
    refine aw_iconst (-1) dX9_bar_25 (by decide) ?_
    refine aw_eV [.int (-1)] [] lX9_130 vX9_refuse mX9_refuse dX9_bar_26 (bX9_refuse (sp := sp) (fa := fa) (nb := nb) (ns := ns) (nm := nm) (nv := nv) (sh := sh) (ho := ho) (ow := ow) (sl := sl) (rg := rg) (x := (-1)) (q := 1) h88 h89 (by decide) (by decide)) h88 rfl rfl rfl (Nat.le_of_ble_eq_true rfl) (by decide) (by decide) rfl (fun h1605 q1604 => ?_)
    obtain ⟨rg11603, f1606, k1607⟩ := q1604
    have f1608 := rng_at k1607 (by decide) h88
    have f1609 := rng_at k1607 (by decide) h92
    have f1610 := rng_at k1607 (by decide) h97
    have f1611 := rng_at k1607 (by decide) h98
    subst hQF
    have eS : (spBarA fi nb (brF b1 b2 (tn a * 10 + tn i) (tn b * 10 + tn k) nb = true) a i b k) = (-1) := by unfold spBarA; (repeat' split) <;> first | (exfalso; omega) | rfl | contradiction
    have ok9 : ¬ (spBarA fi nb (brF b1 b2 (tn a * 10 + tn i) (tn b * 10 + tn k) nb = true) a i b k) = 1 := by rw [eS]; decide
    exact aw_iret rfl dX9_bar_29 (by decide) (by decide) ⟨by rw [eS], _, by rw [spN_n ok9]; exact f1608, by rw [spUn_n ok9]; exact f1610, by rw [spUn_n ok9]; exact f1611, f1606, rg2_tr (rg2_rf 88 89 97 98 h) (rg2_w k1607 (by decide))⟩
  · have t6 := ite_1 c6
    refine aw_aload_n 0 dX9_bar_9 rfl rfl ?_
    refine aw_iload_n 3 dX9_bar_10 rfl rfl ?_
    refine aw_iload 4 dX9_bar_11 rfl ?_
    refine aw_dV [.int b, .int k] [] lX9_145 vX9_isEntry mX9_isEntry dX9_bar_13 (bX9_isEntry (sp := sp) (fa := fa) (nb := nb) (ns := ns) (nm := nm) (nv := nv) (sh := sh) (ho := ho) (ow := ow) (sl := sl) (fi := fi) (c := b) (i := k) h88 h92 hfi) h88 rfl rfl rfl (Nat.le_of_ble_eq_true rfl) (by decide) (by decide) rfl ?_
    refine aw_if_eq 24 dX9_bar_16 (by decide) (fun c16 => ?_) (fun c16 => ?_)
    · have t16 := ite_0 c16
      refine aw_aload_n 0 dX9_bar_24 rfl rfl ?_
      refine aw_iconst (-1) dX9_bar_25 (by decide) ?_
      refine aw_eV [.int (-1)] [] lX9_130 vX9_refuse mX9_refuse dX9_bar_26 (bX9_refuse (sp := sp) (fa := fa) (nb := nb) (ns := ns) (nm := nm) (nv := nv) (sh := sh) (ho := ho) (ow := ow) (sl := sl) (rg := rg) (x := (-1)) (q := 1) h88 h89 (by decide) (by decide)) h88 rfl rfl rfl (Nat.le_of_ble_eq_true rfl) (by decide) (by decide) rfl (fun h1614 q1613 => ?_)
      obtain ⟨rg11612, f1615, k1616⟩ := q1613
      have f1617 := rng_at k1616 (by decide) h88
      have f1618 := rng_at k1616 (by decide) h92
      have f1619 := rng_at k1616 (by decide) h97
      have f1620 := rng_at k1616 (by decide) h98
      subst hQF
      have eS : (spBarA fi nb (brF b1 b2 (tn a * 10 + tn i) (tn b * 10 + tn k) nb = true) a i b k) = (-1) := by unfold spBarA; (repeat' split) <;> first | (exfalso; omega) | rfl | contradiction
      have ok9 : ¬ (spBarA fi nb (brF b1 b2 (tn a * 10 + tn i) (tn b * 10 + tn k) nb = true) a i b k) = 1 := by rw [eS]; decide
      exact aw_iret rfl dX9_bar_29 (by decide) (by decide) ⟨by rw [eS], _, by rw [spN_n ok9]; exact f1617, by rw [spUn_n ok9]; exact f1619, by rw [spUn_n ok9]; exact f1620, f1615, rg2_tr (rg2_rf 88 89 97 98 h) (rg2_w k1616 (by decide))⟩
    · have t16 := ite_1 c16
      refine aw_iload_n 1 dX9_bar_19 rfl rfl ?_
      refine aw_iload_n 3 dX9_bar_20 rfl rfl ?_
      refine aw_icmp_ne 30 dX9_bar_21 (by decide) (fun c21 => ?_) (fun c21 => ?_)
      · have d21 := mt (j_eq (a := a.toInt) (b := b.toInt) (rfl) (rfl)).mpr c21
        have fa0 := hfi (tn a) (by unfold tn; omega)
        have fb0 := hfi (tn b) (by unfold tn; omega)
        obtain ⟨a0, bb_a0, ee_a0⟩ := i_nat (x := a) (N := 4) (by omega) (by omega)
        subst ee_a0
        have tt_a0 : (nI a0).toInt = (a0 : Int) := nI_toInt (by omega)
        have nn_a0 : tn (nI a0) = a0 := tn_nI (by omega)
        obtain ⟨b0, bb_b0, ee_b0⟩ := i_nat (x := b) (N := 4) (by omega) (by omega)
        subst ee_b0
        have tt_b0 : (nI b0).toInt = (b0 : Int) := nI_toInt (by omega)
        have nn_b0 : tn (nI b0) = b0 := tn_nI (by omega)
        rw [nn_a0] at t6 fa0
        rw [nn_b0] at t16 fb0
        obtain ⟨i0, bb_i0, ee_i0⟩ := i_nat (x := i) (N := 10) (by omega) (by omega)
        subst ee_i0
        have tt_i0 : (nI i0).toInt = (i0 : Int) := nI_toInt (by omega)
        have nn_i0 : tn (nI i0) = i0 := tn_nI (by omega)
        obtain ⟨k0, bb_k0, ee_k0⟩ := i_nat (x := k) (N := 10) (by omega) (by omega)
        subst ee_k0
        have tt_k0 : (nI k0).toInt = (k0 : Int) := nI_toInt (by omega)
        have nn_k0 : tn (nI k0) = k0 := tn_nI (by omega)
        refine aw_aload_n 0 dX9_bar_30 rfl rfl ?_
        refine aw_bipush (10) dX9_bar_31 (by decide) ?_
        refine aw_iload_n 1 dX9_bar_33 rfl rfl ?_
        refine aw_imul dX9_bar_34 ?_
        refine aw_toe (nI (a0 * 10)) (by rw [Nat.mul_comm a0 10]; exact nv_mul (rfl) (rfl)) ?_
        refine aw_iload_n 2 dX9_bar_35 rfl rfl ?_
        refine aw_iadd dX9_bar_36 ?_
        refine aw_toe (nI ((a0 * 10) + i0)) (nv_add (rfl) (rfl)) ?_
        refine aw_bipush (10) dX9_bar_37 (by decide) ?_
        refine aw_iload_n 3 dX9_bar_39 rfl rfl ?_
        refine aw_imul dX9_bar_40 ?_
        refine aw_toe (nI (b0 * 10)) (by rw [Nat.mul_comm b0 10]; exact nv_mul (rfl) (rfl)) ?_
        refine aw_iload 4 dX9_bar_41 rfl ?_
        refine aw_iadd dX9_bar_43 ?_
        refine aw_toe (nI ((b0 * 10) + k0)) (nv_add (rfl) (rfl)) ?_
        refine aw_dV [.int (nI ((a0 * 10) + i0)), .int (nI ((b0 * 10) + k0))] [] lX9_148 vX9_isBarred mX9_isBarred dX9_bar_44 (bX9_isBarred (sp := sp) (fa := fa) (nb := nb) (ns := ns) (nm := nm) (nv := nv) (sh := sh) (ho := ho) (ow := ow) (sl := sl) (b1 := b1) (b2 := b2) (x := (a0 * 10) + i0) (y := (b0 * 10) + k0) h88 h97 h98 (by omega) bb1 bb2 (by omega) (by omega)) h88 rfl rfl rfl (Nat.le_of_ble_eq_true rfl) (by decide) (by decide) rfl ?_
        refine aw_if_eq 52 dX9_bar_47 (by decide) (fun c47 => ?_) (fun c47 => ?_)
        · have t47 := ite_0 c47
          refine aw_aload_n 0 dX9_bar_52 rfl rfl ?_
          refine aw_get fX9_142 dX9_bar_53 h88 rfl ?_
          refine aw_bipush (30) dX9_bar_56 (by decide) ?_
          refine aw_icmp_ne 68 dX9_bar_58 (by decide) (fun c58 => ?_) (fun c58 => ?_)
          · have d58 := mt (nv_eq (a := nb) (b := 30) (rfl) (rfl) (by omega) (by omega)).mpr c58
            refine aw_aload_n 0 dX9_bar_68 rfl rfl ?_
            refine aw_get fX9_34 dX9_bar_69 h88 rfl ?_
            refine aw_aload_n 0 dX9_bar_72 rfl rfl ?_
            refine aw_get fX9_142 dX9_bar_73 h88 rfl ?_
            refine aw_bipush (10) dX9_bar_76 (by decide) ?_
            refine aw_iload_n 1 dX9_bar_78 rfl rfl ?_
            refine aw_imul dX9_bar_79 ?_
            refine aw_toe (nI (a0 * 10)) (by rw [Nat.mul_comm a0 10]; exact nv_mul (rfl) (rfl)) ?_
            refine aw_iload_n 2 dX9_bar_80 rfl rfl ?_
            refine aw_iadd dX9_bar_81 ?_
            refine aw_toe (nI ((a0 * 10) + i0)) (nv_add (rfl) (rfl)) ?_
            refine aw_iast nb (rfl) (by omega) (by decide) dX9_bar_82 h97 ?_
            rw [nA_u (f := b1) (i := nb) (x := (nI ((a0 * 10) + i0))) (v := (a0 * 10) + i0) (rfl)]
            refine aw_aload_n 0 dX9_bar_83 rfl rfl ?_
            refine aw_get fX9_37 dX9_bar_84 (gn (by decide) (h88)) rfl ?_
            refine aw_aload_n 0 dX9_bar_87 rfl rfl ?_
            refine aw_get fX9_142 dX9_bar_88 (gn (by decide) (h88)) rfl ?_
            refine aw_bipush (10) dX9_bar_91 (by decide) ?_
            refine aw_iload_n 3 dX9_bar_93 rfl rfl ?_
            refine aw_imul dX9_bar_94 ?_
            refine aw_toe (nI (b0 * 10)) (by rw [Nat.mul_comm b0 10]; exact nv_mul (rfl) (rfl)) ?_
            refine aw_iload 4 dX9_bar_95 rfl ?_
            refine aw_iadd dX9_bar_97 ?_
            refine aw_toe (nI ((b0 * 10) + k0)) (nv_add (rfl) (rfl)) ?_
            refine aw_iast nb (rfl) (by omega) (by decide) dX9_bar_98 (gn (by decide) (h98)) ?_
            rw [nA_u (f := b2) (i := nb) (x := (nI ((b0 * 10) + k0))) (v := (b0 * 10) + k0) (rfl)]
            refine aw_aload_n 0 dX9_bar_99 rfl rfl ?_
            refine aw_dup dX9_bar_100 rfl ?_
            refine aw_get fX9_142 dX9_bar_101 (gn (by decide) (gn (by decide) (h88))) rfl ?_
            refine aw_iconst (1) dX9_bar_104 (by decide) ?_
            refine aw_iadd dX9_bar_105 ?_
            refine aw_toe (nI (nb + 1)) (nv_add (rfl) (rfl)) ?_
            refine aw_putQ fX9_142 dX9_bar_106 (lM G (nI sp) (nI fa) (nI (nb + 1)) (nI ns) (nI nm) ho ow sl (nI nv) (nI sh)) (gn (by decide) (gn (by decide) (h88))) rfl rfl rfl (Nat.le_of_ble_eq_true rfl) rfl ?_
            refine aw_iconst (1) dX9_bar_109 (by decide) ?_
            subst hQF
            have eS : (spBarA fi nb (brF b1 b2 (tn (nI a0) * 10 + tn (nI i0)) (tn (nI b0) * 10 + tn (nI k0)) nb = true) (nI a0) (nI i0) (nI b0) (nI k0)) = 1 := by unfold spBarA; simp only [nn_a0, nn_b0, nn_i0, nn_k0]; (repeat' split) <;> first | (exfalso; omega) | rfl | contradiction
            have ok9 : (spBarA fi nb (brF b1 b2 (tn (nI a0) * 10 + tn (nI i0)) (tn (nI b0) * 10 + tn (nI k0)) nb = true) (nI a0) (nI i0) (nI b0) (nI k0)) = 1 := by rw [eS]
            exact aw_iret rfl dX9_bar_110 (by decide) (by decide) ⟨by rw [eS], _, by rw [spN_y ok9]; exact (gs (gn (by decide) (gn (by decide) (h88)))), by rw [spUn_y ok9, nn_a0, nn_i0]; exact (gn (by decide) (gn (by decide) (gs h97))), by rw [spUn_y ok9, nn_b0, nn_k0]; exact (gn (by decide) (gs (gn (by decide) (h98)))), (gn (by decide) (gn (by decide) (gn (by decide) (h89)))), rg2_set (rg2_set (rg2_set (rg2_rf 88 89 97 98 h) (by decide)) (by decide)) (by decide)⟩
          · have d58 := (nv_eq (a := nb) (b := 30) (rfl) (rfl) (by omega) (by omega)).mp c58
            refine aw_aload_n 0 dX9_bar_61 rfl rfl ?_
            refine aw_bipush (-6) dX9_bar_62 (by decide) ?_
            refine aw_eV [.int (-6)] [] lX9_130 vX9_refuse mX9_refuse dX9_bar_64 (bX9_refuse (sp := sp) (fa := fa) (nb := nb) (ns := ns) (nm := nm) (nv := nv) (sh := sh) (ho := ho) (ow := ow) (sl := sl) (rg := rg) (x := (-6)) (q := 6) h88 h89 (by decide) (by decide)) h88 rfl rfl rfl (Nat.le_of_ble_eq_true rfl) (by decide) (by decide) rfl (fun h1623 q1622 => ?_)
            obtain ⟨rg11621, f1624, k1625⟩ := q1622
            have f1626 := rng_at k1625 (by decide) h88
            have f1627 := rng_at k1625 (by decide) h92
            have f1628 := rng_at k1625 (by decide) h97
            have f1629 := rng_at k1625 (by decide) h98
            subst hQF
            have eS : (spBarA fi nb (brF b1 b2 (tn (nI a0) * 10 + tn (nI i0)) (tn (nI b0) * 10 + tn (nI k0)) nb = true) (nI a0) (nI i0) (nI b0) (nI k0)) = (-6) := by unfold spBarA; simp only [nn_a0, nn_b0, nn_i0, nn_k0]; (repeat' split) <;> first | (exfalso; omega) | rfl | contradiction
            have ok9 : ¬ (spBarA fi nb (brF b1 b2 (tn (nI a0) * 10 + tn (nI i0)) (tn (nI b0) * 10 + tn (nI k0)) nb = true) (nI a0) (nI i0) (nI b0) (nI k0)) = 1 := by rw [eS]; decide
            exact aw_iret rfl dX9_bar_67 (by decide) (by decide) ⟨by rw [eS], _, by rw [spN_n ok9]; exact f1626, by rw [spUn_n ok9]; exact f1628, by rw [spUn_n ok9]; exact f1629, f1624, rg2_tr (rg2_rf 88 89 97 98 h) (rg2_w k1625 (by decide))⟩
        · have t47 := ite_1 c47
          refine aw_iconst (0) dX9_bar_50 (by decide) ?_
          subst hQF
          have eS : (spBarA fi nb (brF b1 b2 (tn (nI a0) * 10 + tn (nI i0)) (tn (nI b0) * 10 + tn (nI k0)) nb = true) (nI a0) (nI i0) (nI b0) (nI k0)) = 0 := by unfold spBarA; simp only [nn_a0, nn_b0, nn_i0, nn_k0]; (repeat' split) <;> first | (exfalso; omega) | rfl | contradiction
          have ok9 : ¬ (spBarA fi nb (brF b1 b2 (tn (nI a0) * 10 + tn (nI i0)) (tn (nI b0) * 10 + tn (nI k0)) nb = true) (nI a0) (nI i0) (nI b0) (nI k0)) = 1 := by rw [eS]; decide
          exact aw_iret rfl dX9_bar_51 (by decide) (by decide) ⟨by rw [eS], _, by rw [spN_n ok9]; exact h88, by rw [spUn_n ok9]; exact h97, by rw [spUn_n ok9]; exact h98, h89, rg2_rf 88 89 97 98 h⟩
      · have d21 := (j_eq (a := a.toInt) (b := b.toInt) (rfl) (rfl)).mp c21
        refine aw_aload_n 0 dX9_bar_24 rfl rfl ?_
        refine aw_iconst (-1) dX9_bar_25 (by decide) ?_
        refine aw_eV [.int (-1)] [] lX9_130 vX9_refuse mX9_refuse dX9_bar_26 (bX9_refuse (sp := sp) (fa := fa) (nb := nb) (ns := ns) (nm := nm) (nv := nv) (sh := sh) (ho := ho) (ow := ow) (sl := sl) (rg := rg) (x := (-1)) (q := 1) h88 h89 (by decide) (by decide)) h88 rfl rfl rfl (Nat.le_of_ble_eq_true rfl) (by decide) (by decide) rfl (fun h1632 q1631 => ?_)
        obtain ⟨rg11630, f1633, k1634⟩ := q1631
        have f1635 := rng_at k1634 (by decide) h88
        have f1636 := rng_at k1634 (by decide) h92
        have f1637 := rng_at k1634 (by decide) h97
        have f1638 := rng_at k1634 (by decide) h98
        subst hQF
        have eS : (spBarA fi nb (brF b1 b2 (tn a * 10 + tn i) (tn b * 10 + tn k) nb = true) a i b k) = (-1) := by unfold spBarA; (repeat' split) <;> first | (exfalso; omega) | rfl | contradiction
        have ok9 : ¬ (spBarA fi nb (brF b1 b2 (tn a * 10 + tn i) (tn b * 10 + tn k) nb = true) a i b k) = 1 := by rw [eS]; decide
        exact aw_iret rfl dX9_bar_29 (by decide) (by decide) ⟨by rw [eS], _, by rw [spN_n ok9]; exact f1635, by rw [spUn_n ok9]; exact f1637, by rw [spUn_n ok9]; exact f1638, f1633, rg2_tr (rg2_rf 88 89 97 98 h) (rg2_w k1634 (by decide))⟩
set_option maxHeartbeats 4000000 in
theorem bX9_senses {l : Launch} {G : xG} {h : List va_E} {sp fa nb ns nm nv sh : Nat} {ho ow sl : Int32} {m : Nat → Nat} {W : Nat → Int32} {x : Nat} (h88 : h[88]? = some (oB 9 (lM G (nI sp) (nI fa) (nI nb) (nI ns) (nI nm) ho ow sl (nI nv) (nI sh)))) (h90 : h[90]? = some (aI 20 (nA m))) (h93 : h[93]? = some (aI 40 W)) (hm : ∀ j, j < 20 → m j ≤ j) (bx : x < 40) : CD l G yX9_senses cX9_senses 4 (some .int) 1 0 0 [.ref (G.1 + 88), .int (nI x)] h (some (.int (snF (root m) (W x) 20))) h := by
  refine cm_ofQ rfl (Nat.le_of_ble_eq_true rfl) [(0, .ref (G.1 + 88)), (1, .int (nI x))] rfl (fun QF hQF => ?_)
  refine aw_iconst (0) dX9_senses_0 (by decide) ?_
  refine aw_istore_n [(2, .int 0), (0, .ref (G.1 + 88)), (1, .int (nI x))] dX9_senses_1 rfl (by decide) rfl ?_
  refine aw_iconst (0) dX9_senses_2 (by decide) ?_
  refine aw_istore_n [(3, .int 0), (2, .int 0), (0, .ref (G.1 + 88)), (1, .int (nI x))] dX9_senses_3 rfl (by decide) rfl ?_
  refine aw_lv [(3, .int 0), (2, .int 0), (1, .int (nI x)), (0, .ref (G.1 + 88))] [0, 1, 3, 2] rfl ?_
  suffices L1639 : ∀ (mm : Nat) (k : Nat) (bv : Int32), 20 - k < mm → (k ≤ 20) → (bv = snF (root m) (W x) k) → AW l G yX9_senses cX9_senses 4 (some .int) (xR 1 0 0) (fun _ _ => True) QF 0 0 4 [(3, .int (nI k)), (2, .int bv), (1, .int (nI x)), (0, .ref (G.1 + 88))] [] h from L1639 (20 - 0 + 1) 0 0 (Nat.lt_succ_self _) (Nat.zero_le _) (rfl)
  intro mm
  induction mm with
  | zero =>
    intro k bv hmm hk hb
    exact absurd hmm (Nat.not_lt_zero _)
  | succ mm ih1639 =>
    intro k bv hmm hk hb
    refine aw_iload_n 0 dX9_senses_4 rfl rfl ?_
    refine aw_bipush (20) dX9_senses_5 (by decide) ?_
    refine aw_icmp_ge 40 dX9_senses_7 (by decide) (fun c7 => ?_) (fun c7 => ?_)
    · have d7 := (nv_le (a := 20) (b := k) (rfl) (rfl) (by omega) (by omega)).mp c7
      refine aw_iload_n 1 dX9_senses_40 rfl rfl ?_
      subst hQF
      exact aw_iret rfl dX9_senses_41 (by decide) (by decide) ⟨by rw [hb, show k = 20 by omega], rfl⟩
    · have d7 := mt (nv_le (a := 20) (b := k) (rfl) (rfl) (by omega) (by omega)).mpr c7
      refine aw_aload_n 3 dX9_senses_10 rfl rfl ?_
      refine aw_get fX9_22 dX9_senses_11 h88 rfl ?_
      refine aw_iload_n 2 dX9_senses_14 rfl rfl ?_
      refine aw_iald x (rfl) (by omega) (by decide) dX9_senses_15 h93 ?_
      refine aw_iload_n 0 dX9_senses_16 rfl rfl ?_
      refine aw_ishr dX9_senses_17 ?_
      refine aw_iconst (1) dX9_senses_18 (by decide) ?_
      refine aw_iand dX9_senses_19 ?_
      refine aw_iconst (1) dX9_senses_20 (by decide) ?_
      refine aw_icmp_ne 34 dX9_senses_21 (by decide) (fun c21 => ?_) (fun c21 => ?_)
      · have d21 := mt (j_eq (a := (((W x) >>> ((nI k) &&& 31)) &&& 1).toInt) (b := (1)) (rfl) (rfl)).mpr c21
        refine aw_iinc (j := 0) (nI (k + 1)) [(3, .int (nI (k + 1))), (2, .int bv), (1, .int (nI x)), (0, .ref (G.1 + 88))] dX9_senses_34 rfl (nv_inc (rfl)) (by decide) rfl ?_
        refine aw_goto 4 dX9_senses_37 (by decide) ?_
        refine aw_lv [(3, .int (nI (k + 1))), (2, .int bv), (1, .int (nI x)), (0, .ref (G.1 + 88))] [0, 1, 2, 3] rfl ?_
        exact ih1639 (k + 1) bv (by omega) (by omega) (by rw [hb, snF_0 (an_0 c21)])
      · have d21 := (j_eq (a := (((W x) >>> ((nI k) &&& 31)) &&& 1).toInt) (b := (1)) (rfl) (rfl)).mp c21
        refine aw_iload_n 1 dX9_senses_24 rfl rfl ?_
        refine aw_iconst (1) dX9_senses_25 (by decide) ?_
        refine aw_aload_n 3 dX9_senses_26 rfl rfl ?_
        refine aw_iload_n 0 dX9_senses_27 rfl rfl ?_
        refine aw_dV [.int (nI k)] [.int 1, .int bv] lX9_134 vX9_senseOf mX9_senseOf dX9_senses_28 (oX9_senseOf (sp := sp) (fa := fa) (nb := nb) (ns := ns) (nm := nm) (nv := nv) (sh := sh) (ho := ho) (ow := ow) (sl := sl) (m := m) (w := k) h88 h90 hm (by omega)) h88 rfl rfl rfl (Nat.le_of_ble_eq_true rfl) (by decide) (by decide) rfl ?_
        refine aw_ishl dX9_senses_31 ?_
        refine aw_ior dX9_senses_32 ?_
        refine aw_istore_n [(2, .int (bv ||| (1 <<< ((nI (root m k)) &&& 31)))), (3, .int (nI k)), (1, .int (nI x)), (0, .ref (G.1 + 88))] dX9_senses_33 rfl (by decide) rfl ?_
        refine aw_iinc (j := 1) (nI (k + 1)) [(3, .int (nI (k + 1))), (2, .int (bv ||| (1 <<< ((nI (root m k)) &&& 31)))), (1, .int (nI x)), (0, .ref (G.1 + 88))] dX9_senses_34 rfl (nv_inc (rfl)) (by decide) rfl ?_
        refine aw_goto 4 dX9_senses_37 (by decide) ?_
        refine aw_lv [(3, .int (nI (k + 1))), (2, .int (bv ||| (1 <<< ((nI (root m k)) &&& 31)))), (1, .int (nI x)), (0, .ref (G.1 + 88))] [0, 1, 2, 3] rfl ?_
        exact ih1639 (k + 1) (bv ||| (1 <<< ((nI (root m k)) &&& 31))) (by omega) (by omega) (by rw [hb, snF_1 (an_1 c21)])
set_option maxHeartbeats 4000000 in
theorem bX9_bitsOf {l : Launch} {G : xG} {h : List va_E} {a : Nat}  (ha : a < 1048576) : CD l G yX9_bitsOf cX9_bitsOf 3 (some .int) 0 0 0 [.int (nI a)] h (some (.int (nI (pcF 20 a)))) h := by
  refine cm_ofQ rfl (Nat.le_of_ble_eq_true rfl) [(0, .int (nI a))] rfl (fun QF hQF => ?_)
  refine aw_iconst (0) dX9_bitsOf_0 (by decide) ?_
  refine aw_istore_n [(1, .int 0), (0, .int (nI a))] dX9_bitsOf_1 rfl (by decide) rfl ?_
  refine aw_iload_n 1 dX9_bitsOf_2 rfl rfl ?_
  refine aw_istore_n [(2, .int (nI a)), (1, .int 0), (0, .int (nI a))] dX9_bitsOf_3 rfl (by decide) rfl ?_
  refine aw_lv [(2, .int (nI a)), (1, .int 0), (0, .int (nI a))] [0, 1, 2] rfl ?_
  suffices L1640 : ∀ (mm : Nat) (x : Nat) (c : Nat), x < mm → (x < 1048576) → (c + pcF 20 x = pcF 20 a) → AW l G yX9_bitsOf cX9_bitsOf 3 (some .int) (xR 0 0 0) (fun _ _ => True) QF 0 0 4 [(2, .int (nI x)), (1, .int (nI c)), (0, .int (nI a))] [] h from L1640 (a + 1) a 0 (Nat.lt_succ_self _) (ha) (by omega)
  intro mm
  induction mm with
  | zero =>
    intro x c hmm hx hc
    exact absurd hmm (Nat.not_lt_zero _)
  | succ mm ih1640 =>
    intro x c hmm hx hc
    have b7 := pcF_le 20 a
    refine aw_iload_n 0 dX9_bitsOf_4 rfl rfl ?_
    refine aw_if_eq 20 dX9_bitsOf_5 (by decide) (fun c5 => ?_) (fun c5 => ?_)
    · have d5 := (nv_eq (a := x) (b := 0) (rfl) (rfl) (by omega) (by omega)).mp c5
      refine aw_iload_n 1 dX9_bitsOf_20 rfl rfl ?_
      subst hQF
      exact aw_iret rfl dX9_bitsOf_21 (by decide) (by decide) ⟨by rw [← hc, show x = 0 by omega, pcF_0]; rfl, rfl⟩
    · have d5 := mt (nv_eq (a := x) (b := 0) (rfl) (rfl) (by omega) (by omega)).mpr c5
      refine aw_iinc (j := 1) (nI (c + 1)) [(1, .int (nI (c + 1))), (2, .int (nI x)), (0, .int (nI a))] dX9_bitsOf_8 rfl (nv_inc (rfl)) (by decide) rfl ?_
      refine aw_iload_n 1 dX9_bitsOf_11 rfl rfl ?_
      refine aw_iload_n 1 dX9_bitsOf_12 rfl rfl ?_
      refine aw_iconst (1) dX9_bitsOf_13 (by decide) ?_
      refine aw_isub dX9_bitsOf_14 ?_
      refine aw_toe (nI (x - 1)) (nv_sub (rfl) (rfl) (by omega)) ?_
      refine aw_iand dX9_bitsOf_15 ?_
      refine aw_toe (nI (x &&& (x - 1))) (nv_and (rfl) (rfl)) ?_
      refine aw_istore_n [(2, .int (nI (x &&& (x - 1)))), (1, .int (nI (c + 1))), (0, .int (nI a))] dX9_bitsOf_16 rfl (by decide) rfl ?_
      refine aw_goto 4 dX9_bitsOf_17 (by decide) ?_
      refine aw_lv [(2, .int (nI (x &&& (x - 1)))), (1, .int (nI (c + 1))), (0, .int (nI a))] [0, 1, 2] rfl ?_
      have b9 : x &&& (x - 1) ≤ x - 1 := Nat.and_le_right
      have b8 := pcF_st 20 x hx (by omega)
      exact ih1640 (x &&& (x - 1)) (c + 1) (by omega) (by omega) (by omega)
theorem pw10 : ∀ p, p ≤ 10 → 2 ^ p ≤ 1024 ∧ 1 ≤ 2 ^ p := by decide
theorem nI_m1 {j : Nat} : nI (j + 1) + (-1) = nI j := pk_m1 j
theorem nI_s1 {j : Nat} : nI (j + 1) - 1 = nI j := nI_pred j
/-- one less, or nothing -/
theorem dec_m {i n : Nat} (h : i ≤ n) : (i = 0 ∧ nI i + (-1) = -1) ∨ ∃ j, j < n ∧ nI i + (-1) = nI j ∧ i = j + 1 := by
  cases i with
  | zero => exact Or.inl ⟨rfl, by decide⟩
  | succ i => exact Or.inr ⟨i, by omega, nI_m1, rfl⟩
theorem dec_s {i n : Nat} (h : i ≤ n) : (i = 0 ∧ nI i - 1 = -1) ∨ ∃ j, j < n ∧ nI i - 1 = nI j ∧ i = j + 1 := by
  cases i with
  | zero => exact Or.inl ⟨rfl, by decide⟩
  | succ i => exact Or.inr ⟨i, by omega, nI_s1, rfl⟩
theorem pB_g {f : Nat → Int32} {i : Nat} (h : pB f) (hi : i < 10) (h0 : ¬ (f i).toInt < 0) : ∃ q, q < 10 ∧ f i = nI q :=
  (h i hi).resolve_left (fun e => by rw [e] at h0; exact h0 (by decide))
theorem dig_i {d : Nat} (hd : d < 10) : (nI d - 1).toInt = (d : Int) - 1 := by
  cases d with
  | zero => decide
  | succ d => rw [nI_s1, nI_toInt (by omega)]; omega
theorem dig_e {d : Nat} (h1 : 1 ≤ d) : nI d - 1 = nI (d - 1) := nv_sub rfl rfl h1
theorem or_16 {a b : Nat} (ha : a < 16) (hb : b < 4) : a ||| 2 ^ b < 16 := Nat.or_lt_two_pow (n := 4) ha (Nat.pow_lt_pow_right (by decide) hb)
theorem pw4 : ∀ p, p < 4 → 2 ^ p < 16 := by decide
def p10 : Nat → Nat
  | 0 => 0
  | 1 => 1
  | 2 => 10
  | _ => 100
theorem rng_w2 {a b c d e f : Nat} {h h1 : List va_E} (p : rg2 a b c d h h1) (h0 : e ≤ a ∧ b ≤ f) (h2 : e ≤ c ∧ d ≤ f) : rng e f h h1 := ⟨p.1, fun j hj => p.2 j (by omega)⟩
/-- the number of bits, by bytes -/
theorem bcS_k {n k : Nat} {z : Int32} (hn : n < 2 ^ 31) (hk : k < 32) (hz : (z.toUInt32 &&& Int32.toUInt32 31).toBitVec % 32#32 = BitVec.ofNat 32 k) : bcS (nI n) z = nI (n / 2 ^ k) := by
  apply Int32.toBitVec_inj.mp
  show ((nI n).toUInt32 >>> (z.toUInt32 &&& Int32.toUInt32 31)).toBitVec = BitVec.ofNat 32 (n / 2 ^ k)
  rw [UInt32.toBitVec_shiftRight]
  rw [show ((z.toUInt32 &&& Int32.toUInt32 31).toBitVec % 32) = BitVec.ofNat 32 k from hz]
  show BitVec.ofNat 32 n >>> BitVec.ofNat 32 k = BitVec.ofNat 32 (n / 2 ^ k)
  apply BitVec.eq_of_toNat_eq
  rw [BitVec.ushiftRight_eq', BitVec.toNat_ushiftRight, BitVec.toNat_ofNat, BitVec.toNat_ofNat, BitVec.toNat_ofNat, Nat.shiftRight_eq_div_pow]
  have h1 := Nat.div_le_self n (2 ^ k)
  rw [Nat.mod_eq_of_lt (by omega : n < 2 ^ 32), Nat.mod_eq_of_lt (by omega : k < 2 ^ 32), Nat.mod_eq_of_lt (by omega : n / 2 ^ k < 2 ^ 32)]
def nbA (n : Nat) : Nat := n - ((n / 2) &&& 1431655765)
def nbB (n : Nat) : Nat := (n &&& 858993459) + ((n / 4) &&& 858993459)
def nbC (n : Nat) : Nat := (n + n / 16) &&& 252645135
def nbT (n : Nat) : Nat := nbC (nbB (nbA n))
def nbD (n : Nat) : Nat := nbT n + nbT n / 256
def nbE (n : Nat) : Nat := (nbD n + nbD n / 65536) &&& 63
theorem bc_nb {n : Nat} (hn : n < 1048576) : bcF (nI n) = nI (nbE n) := by
  have a0 : (n / 2) &&& 1431655765 ≤ n / 2 := Nat.and_le_left
  have a1 : bcA (nI n) = nI (nbA n) := by
    unfold bcA nbA
    rw [bcS_k (k := 1) (by omega) (by omega) (by decide), show (2 : Nat) ^ 1 = 2 from rfl, show (1431655765 : Int32) = nI 1431655765 from rfl, nn_and, pk_sub (by omega)]
  have a2 : nbA n ≤ n := Nat.sub_le _ _
  have b1 : bcB (nI (nbA n)) = nI (nbB (nbA n)) := by
    unfold bcB nbB
    rw [bcS_k (k := 2) (by omega) (by omega) (by decide), show (858993459 : Int32) = nI 858993459 from rfl, nn_and, nn_and, nI_add]
  have b2 : nbB (nbA n) < 2 * 1048576 := by
    unfold nbB
    have q1 : nbA n &&& 858993459 ≤ nbA n := Nat.and_le_left
    have q2 : (nbA n / 4) &&& 858993459 ≤ nbA n / 4 := Nat.and_le_left
    omega
  have c1 : bcC (nI (nbB (nbA n))) = nI (nbT n) := by
    unfold bcC nbT nbC
    rw [bcS_k (k := 4) (by omega) (by omega) (by decide), nI_add, show (252645135 : Int32) = nI 252645135 from rfl, nn_and]
  have c2 : nbT n ≤ 4 * 1048576 := by
    unfold nbT nbC
    have q1 : (nbB (nbA n) + nbB (nbA n) / 16) &&& 252645135 ≤ nbB (nbA n) + nbB (nbA n) / 16 := Nat.and_le_left
    omega
  have d1 : bcD (nI (nbT n)) = nI (nbD n) := by
    unfold bcD nbD
    rw [bcS_k (k := 8) (by omega) (by omega) (by decide), nI_add]
  have d2 : nbD n ≤ 8 * 1048576 := by unfold nbD; omega
  have e1 : bcE (nI (nbD n)) = nI (nbD n + nbD n / 65536) := by
    unfold bcE
    rw [bcS_k (k := 16) (by omega) (by omega) (by decide), nI_add]
  unfold bcF
  rw [a1, b1, c1, d1, e1, show (63 : Int32) = nI 63 from rfl, nn_and]
  rfl
theorem an_by {x X y Y : Nat} (hx : x < 256) (hy : y < 256) : (x + 256 * X) &&& (y + 256 * Y) = (x &&& y) + 256 * (X &&& Y) := by
  have q : x &&& y ≤ x := Nat.and_le_left
  have h1 : ((x + 256 * X) &&& (y + 256 * Y)) % 2 ^ 8 = x &&& y := by
    rw [Nat.and_mod_two_pow, show (x + 256 * X) % 2 ^ 8 = x by omega, show (y + 256 * Y) % 2 ^ 8 = y by omega]
  have h2 : ((x + 256 * X) &&& (y + 256 * Y)) / 2 ^ 8 = X &&& Y := by
    rw [Nat.and_div_two_pow, show (x + 256 * X) / 2 ^ 8 = X by omega, show (y + 256 * Y) / 2 ^ 8 = Y by omega]
  omega
theorem nb_a1 : ∀ x, x < 256 → ∀ e, e < 2 → (x / 2 + 128 * e) &&& 85 = (x / 2) &&& 85 := by decide +kernel
theorem nb_b1 : ∀ x, x < 256 → ∀ e, e < 4 → (x / 4 + 64 * e) &&& 51 = (x / 4) &&& 51 := by decide +kernel
theorem nb_c1 : ∀ x, x < 128 → ∀ e, e < 16 → (x + 16 * e) &&& 15 = x &&& 15 := by decide +kernel
def yA (x : Nat) : Nat := x - ((x / 2) &&& 85)
def yB (x : Nat) : Nat := (x &&& 51) + ((x / 4) &&& 51)
def yC (x : Nat) : Nat := (x + x / 16) &&& 15
theorem y_lt : ∀ x, x < 256 → yA x < 256 ∧ yB (yA x) ≤ 68 ∧ yB (yA x) % 16 ≤ 4 ∧ yC (yB (yA x)) = pcF 8 x := by decide +kernel
theorem nbA_s {x X M : Nat} (hx : x < 256) : (x + 256 * X) - (((x + 256 * X) / 2) &&& (85 + 256 * M)) = yA x + 256 * (X - ((X / 2) &&& M)) := by
  have h1 : (x + 256 * X) / 2 = (x / 2 + 128 * (X % 2)) + 256 * (X / 2) := by omega
  have h2 : x / 2 + 128 * (X % 2) < 256 := by omega
  rw [h1, an_by h2 (by decide), nb_a1 x hx (X % 2) (by omega)]
  have q1 : (x / 2) &&& 85 ≤ x / 2 := Nat.and_le_left
  have q2 : (X / 2) &&& M ≤ X / 2 := Nat.and_le_left
  unfold yA
  omega
theorem nbB_s {x X M : Nat} (hx : x < 256) : ((x + 256 * X) &&& (51 + 256 * M)) + (((x + 256 * X) / 4) &&& (51 + 256 * M)) = yB x + 256 * ((X &&& M) + ((X / 4) &&& M)) := by
  have h1 : (x + 256 * X) / 4 = (x / 4 + 64 * (X % 4)) + 256 * (X / 4) := by omega
  have h2 : x / 4 + 64 * (X % 4) < 256 := by omega
  rw [h1, an_by h2 (by decide), nb_b1 x hx (X % 4) (by omega), an_by hx (by decide)]
  unfold yB
  omega
theorem nbC_s {x X M : Nat} (hx : x ≤ 68) (hX : X % 16 ≤ 4) : ((x + 256 * X) + (x + 256 * X) / 16) &&& (15 + 256 * M) = yC x + 256 * ((X + X / 16) &&& M) := by
  have h1 : (x + 256 * X) + (x + 256 * X) / 16 = (x + x / 16 + 16 * (X % 16)) + 256 * (X + X / 16) := by omega
  have h2 : x + x / 16 + 16 * (X % 16) < 256 := by omega
  rw [h1, an_by h2 (by decide), nb_c1 (x + x / 16) (by omega) (X % 16) (by omega)]
  rfl
theorem pcF_2 : ∀ k f x X, x < 2 ^ k → pcF (k + f) (x + 2 ^ k * X) = pcF k x + pcF f X := by
  intro k
  induction k with
  | zero => intro f x X h; have : x = 0 := by omega
            subst this; simp [pcF]
  | succ k ih =>
    intro f x X h
    rw [show k + 1 + f = (k + f) + 1 by omega]
    simp only [pcF]
    have e : 2 ^ (k + 1) * X = 2 * (2 ^ k * X) := by rw [Nat.pow_succ]; rw [Nat.mul_comm (2 ^ k) 2, Nat.mul_assoc]
    rw [e, show (x + 2 * (2 ^ k * X)) % 2 = x % 2 by omega, show (x + 2 * (2 ^ k * X)) / 2 = x / 2 + 2 ^ k * X by omega, ih f (x / 2) X (by rw [Nat.pow_succ] at h; omega)]
    omega
theorem pc16 : ∀ x, x < 16 → pcF 8 x = pcF 4 x := by decide +kernel
theorem nb_fin {X Y Z : Nat} (hX : X ≤ 8) (hY : Y ≤ 8) (hZ : Z ≤ 8) : ((X + 256 * (Y + 256 * Z)) + (X + 256 * (Y + 256 * Z)) / 256 + ((X + 256 * (Y + 256 * Z)) + (X + 256 * (Y + 256 * Z)) / 256) / 65536) % 2 ^ 6 = X + Y + Z := by
  have r1 : (X + 256 * (Y + 256 * Z)) / 256 = Y + 256 * Z := by omega
  rw [r1]
  have r2 : (X + 256 * (Y + 256 * Z) + (Y + 256 * Z)) / 65536 = Z := by omega
  rw [r2]
  show _ % 64 = _
  omega
theorem nb_pc {n : Nat} (hn : n < 1048576) : nbE n = pcF 20 n := by
  obtain ⟨x, y, z, hx, hy, hz, e⟩ : ∃ x y z, x < 256 ∧ y < 256 ∧ z < 16 ∧ n = x + 256 * (y + 256 * z) := ⟨n % 256, n / 256 % 256, n / 65536, by omega, by omega, by omega, by omega⟩
  obtain ⟨x1, x2, x3, x4⟩ := y_lt x hx
  obtain ⟨y1, y2, y3, y4⟩ := y_lt y hy
  obtain ⟨z1, z2, z3, z4⟩ := y_lt z (by omega)
  have hA : nbA n = yA x + 256 * (yA y + 256 * yA z) := by
    unfold nbA
    rw [e, show (1431655765 : Nat) = 85 + 256 * (85 + 256 * (85 + 256 * 85)) from rfl, nbA_s hx, nbA_s hy]
    have q := nbA_s (x := z) (X := 0) (M := 85) (by omega)
    simp only [Nat.mul_zero, Nat.add_zero, Nat.zero_div, Nat.zero_and, Nat.sub_zero] at q
    rw [q]
  have hB : nbB (nbA n) = yB (yA x) + 256 * (yB (yA y) + 256 * yB (yA z)) := by
    unfold nbB
    rw [hA, show (858993459 : Nat) = 51 + 256 * (51 + 256 * (51 + 256 * 51)) from rfl, nbB_s x1, nbB_s y1]
    have q := nbB_s (x := yA z) (X := 0) (M := 51) z1
    simp only [Nat.mul_zero, Nat.add_zero, Nat.zero_div, Nat.zero_and] at q
    rw [q]
  have hC : nbT n = pcF 8 x + 256 * (pcF 8 y + 256 * pcF 8 z) := by
    unfold nbT nbC
    rw [hB, show (252645135 : Nat) = 15 + 256 * (15 + 256 * (15 + 256 * 15)) from rfl, nbC_s x2 (by omega), nbC_s y2 (by omega)]
    have q := nbC_s (x := yB (yA z)) (X := 0) (M := 15) z2 (by decide)
    simp only [Nat.mul_zero, Nat.add_zero, Nat.zero_div, Nat.zero_and] at q
    rw [q, x4, y4, z4]
  have b1 := pcF_le 8 x
  have b2 := pcF_le 8 y
  have b3 := pcF_le 8 z
  have hE : nbE n = pcF 8 x + pcF 8 y + pcF 8 z := by
    unfold nbE nbD
    rw [hC, show (63 : Nat) = 2 ^ 6 - 1 from rfl, Nat.and_two_pow_sub_one_eq_mod]
    exact nb_fin b1 b2 b3
  have p1 := pcF_2 8 12 x (y + 256 * z) hx
  have p2 := pcF_2 8 4 y z hy
  rw [hE, e, show (20 : Nat) = 8 + 12 from rfl]
  rw [show (2 : Nat) ^ 8 = 256 from rfl] at p1 p2
  rw [p1, show (12 : Nat) = 8 + 4 from rfl, p2, pc16 z hz]
  omega
theorem bc_pc {n : Nat} (hn : n < 1048576) : bcF (nI n) = nI (pcF 20 n) := by rw [bc_nb hn, nb_pc hn]
/-- likeness, told for both sides -/
def flF (ye : Nat → Nat) (Co : Nat → Int32) (a b e f : Nat) : Int32 := if (if ye a = ye b then a < b else ye a < ye b) then Co e - Co f else Co f - Co e
def ynF (ye : Nat → Nat) (fa a b : Nat) : Nat := (max (ye a) (ye b) - min (ye a) (ye b)) * fa + 5
def lpS (S Z Ro : Nat → Int32) (e f : Nat) : Int32 := 10 * bcF (S e &&& S f) - 2 * bcF (S e ^^^ S f) - apF Z e f + (if Ro e = Ro f then 7 else 0)
def lkS (ye : Nat → Nat) (S Z Ro Co : Nat → Int32) (bar : Prop) [Decidable bar] (sp fa a i b k : Nat) : Int32 :=
  if nI sp < apF Z (a * 10 + i) (b * 10 + k) ∨ S (a * 10 + i) &&& S (b * 10 + k) = 0 ∨ bar ∨ flF ye Co a b (a * 10 + i) (b * 10 + k) < 0 ∨ nI (ynF ye fa a b) < flF ye Co a b (a * 10 + i) (b * 10 + k) then 0
  else if 1 < lpS S Z Ro (a * 10 + i) (b * 10 + k) then lpS S Z Ro (a * 10 + i) (b * 10 + k) else 1
section LK
variable {ye : Nat → Nat} {S Z Ro Co : Nat → Int32} {bar : Prop} {sp fa a i b k : Nat}
theorem fl_t {e f : Nat} (h : if ye a = ye b then a < b else ye a < ye b) : Co e - Co f = flF ye Co a b e f := (if_pos h).symm
theorem fl_f {e f : Nat} (h : ¬ (if ye a = ye b then a < b else ye a < ye b)) : Co f - Co e = flF ye Co a b e f := (if_neg h).symm
theorem ab_y {x y : Nat} (hx : x < 1901) (hy : y < 1901) : (if 0 ≤ nI x - nI y then nI x - nI y else 0 - (nI x - nI y)) = nI (max x y - min x y) := by
  rcases Nat.lt_or_ge x y with q | q
  · have e : nI x - nI y = 0 - nI (y - x) := by
      have h := pk_sub (a := y) (b := x) (by omega)
      rw [← h]
      apply Int32.toBitVec_inj.mp
      simp only [Int32.toBitVec_sub]
      generalize (nI x).toBitVec = u
      generalize (nI y).toBitVec = v
      rw [show (0 : Int32).toBitVec = 0#32 from rfl, BitVec.zero_sub, BitVec.neg_sub, BitVec.sub_eq_add_neg, BitVec.add_comm]
    have l : ¬ (0 : Int32) ≤ nI x - nI y := by
      rw [e, Int32.le_iff_toInt_le]
      intro h
      have h2 : (0 - nI (y - x)).toInt = -((y - x : Nat) : Int) := by
        rw [show (0 : Int32) - nI (y - x) = -(nI (y - x)) from Int32.zero_sub _]
        rw [Int32.toInt_neg, nI_toInt (by omega)]
        rw [Int.bmod_def]
        split <;> omega
      rw [h2] at h
      rw [show (0 : Int32).toInt = 0 from rfl] at h
      omega
    rw [if_neg l, e]
    rw [show (0 : Int32) - (0 - nI (y - x)) = nI (y - x) by rw [Int32.zero_sub, Int32.zero_sub, Int32.neg_neg]]
    congr 1
    omega
  · have e : nI x - nI y = nI (x - y) := pk_sub q
    rw [e, if_pos (by rw [Int32.le_iff_toInt_le, nI_toInt (by omega)]; show (0 : Int) ≤ _; omega)]
    congr 1
    omega
theorem ynF_e : nI (max (ye a) (ye b) - min (ye a) (ye b)) * nI fa + 5 = nI (ynF ye fa a b) := by
  unfold ynF
  rw [pk_mul, show (5 : Int32) = nI 5 from rfl, nI_add]
theorem lk_0 [Decidable bar] (h : nI sp < apF Z (a * 10 + i) (b * 10 + k) ∨ S (a * 10 + i) &&& S (b * 10 + k) = 0 ∨ bar ∨ flF ye Co a b (a * 10 + i) (b * 10 + k) < 0 ∨ nI (ynF ye fa a b) < flF ye Co a b (a * 10 + i) (b * 10 + k)) : (0 : Int32) = lkS ye S Z Ro Co bar sp fa a i b k := (if_pos h).symm
theorem lk_1 [Decidable bar] {n1 n2 : Nat} {v z : Int32} (e1 : S (a * 10 + i) = nI n1) (e2 : S (b * 10 + k) = nI n2) (b1 : n1 < 1048576) (b2 : n2 < 1048576) (ev : v = apF Z (a * 10 + i) (b * 10 + k)) (ez : z = if Ro (a * 10 + i) = Ro (b * 10 + k) then 7 else 0)
    (h1 : ¬ nI sp < v) (h2 : ¬ nI (n1 &&& n2) = 0) (h3 : ¬ bar) (h4 : ¬ flF ye Co a b (a * 10 + i) (b * 10 + k) < 0) (h5 : ¬ nI (ynF ye fa a b) < flF ye Co a b (a * 10 + i) (b * 10 + k)) :
    (if 1 < nI (10 * pcF 20 (n1 &&& n2)) - nI (2 * pcF 20 (n1 ^^^ n2)) - v + z then nI (10 * pcF 20 (n1 &&& n2)) - nI (2 * pcF 20 (n1 ^^^ n2)) - v + z else 1) = lkS ye S Z Ro Co bar sp fa a i b k := by
  have q1 : n1 &&& n2 < 1048576 := Nat.lt_of_le_of_lt Nat.and_le_left b1
  have q2 : n1 ^^^ n2 < 1048576 := Nat.xor_lt_two_pow (n := 20) b1 b2
  have e3 : nI (10 * pcF 20 (n1 &&& n2)) - nI (2 * pcF 20 (n1 ^^^ n2)) - v + z = lpS S Z Ro (a * 10 + i) (b * 10 + k) := by
    unfold lpS
    rw [e1, e2, nn_and, show nI n1 ^^^ nI n2 = nI (n1 ^^^ n2) from (nv_xor rfl rfl), bc_pc q1, bc_pc q2, ← ev, ← ez, show (10 : Int32) = nI 10 from rfl, show (2 : Int32) = nI 2 from rfl, pk_mul, pk_mul]
  rw [e3]
  unfold lkS
  refine (if_neg ?_).symm
  rintro (w | w | w | w | w)
  · rw [← ev] at w; exact h1 w
  · rw [e1, e2, nn_and] at w; exact h2 w
  · exact h3 w
  · exact h4 w
  · exact h5 w
end LK
section FI
variable {lk : Nat → Nat → Nat} {T : Nat → Nat} {n m i s k : Nat} {su : Nat → Int32} {v : Int32}
theorem jM_k (c : lk i k = 0 ∨ s.testBit k = true) : jM lk T i s (k + 1) = jM lk T i s k := by simp only [jM]; rw [if_pos c]
theorem jM_s (c : ¬ (lk i k = 0 ∨ s.testBit k = true)) : jM lk T i s (k + 1) = max (jM lk T i s k) (lk i k + T (s ||| 2 ^ k)) := by simp only [jM]; rw [if_neg c]
def fR (lk : Nat → Nat → Nat) (n m x : Nat) (su : Nat → Int32) : Prop := ∀ l, x ≤ l → l ≤ n → ∀ t, t < 2 ^ m → su (l * 1024 + t) = nI (jS lk m (n - l) l t)
theorem fR_0 (h : ∀ t, t < 2 ^ m → su (n * 1024 + t) = 0) : fR lk n m n su := by
  intro l h1 h2 t ht
  have e : l = n := by omega
  subst e
  rw [h t ht, Nat.sub_self]
  rfl
theorem fi_0 (h : ∀ t, t < s → su (n * 1024 + t) = 0) : ∀ t, t < s + 1 → upd su (n * 1024 + s) 0 (n * 1024 + t) = 0 := by
  intro t ht
  by_cases e : t = s
  · subst e; simp [upd]
  · simp only [upd, if_neg (by omega : ¬ n * 1024 + t = n * 1024 + s)]; exact h t (by omega)
theorem fi_1 (hm : 2 ^ m ≤ 1024) (hs : s < 2 ^ m) (h : fR lk n m (i + 1) su) : fR lk n m (i + 1) (upd su (i * 1024 + s) v) := by
  intro l h1 h2 t ht
  simp only [upd, if_neg (by omega : ¬ l * 1024 + t = i * 1024 + s)]
  exact h l h1 h2 t ht
theorem fi_2 (h : ∀ t, t < s → su (i * 1024 + t) = nI (jS lk m (n - i) i t)) (hi : i < n) (hv : v = nI (jM lk (jS lk m (n - (i + 1)) (i + 1)) i s k)) (hk : k = m) : ∀ t, t < s + 1 → upd su (i * 1024 + s) v (i * 1024 + t) = nI (jS lk m (n - i) i t) := by
  subst hk
  intro t ht
  by_cases e : t = s
  · subst e
    simp only [upd, if_pos]
    rw [hv, show n - i = (n - (i + 1)) + 1 by omega]
    rfl
  · simp only [upd, if_neg (by omega : ¬ i * 1024 + t = i * 1024 + s)]; exact h t (by omega)
theorem fi_3 (h : fR lk n m (i + 1) su) (h2 : ∀ t, t < s → su (i * 1024 + t) = nI (jS lk m (n - i) i t)) (hs : 2 ^ m ≤ s) : fR lk n m i su := by
  intro l h3 h4 t ht
  by_cases e : l = i
  · subst e; exact h2 t (by omega)
  · exact h l (by omega) h4 t ht
def fW (lk : Nat → Nat → Nat) (n m x : Nat) (wz : Nat → Int32) : Prop := ∀ l, x ≤ l → l ≤ n → ∀ t, t < 2 ^ m → wz (l * 1024 + t) = nI (min 1000000 (jC lk m (n - l) l t))
theorem fW_0 (h : ∀ t, t < 2 ^ m → su (n * 1024 + t) = 1) : fW lk n m n su := by
  intro l h1 h2 t ht
  have e : l = n := by omega
  subst e
  rw [h t ht, Nat.sub_self]
  exact (by decide : (1 : Int32) = nI (min 1000000 1))
theorem fv_0 (h : ∀ t, t < s → su (n * 1024 + t) = v) : ∀ t, t < s + 1 → upd su (n * 1024 + s) v (n * 1024 + t) = v := by
  intro t ht
  by_cases e : t = s
  · subst e; simp [upd]
  · simp only [upd, if_neg (by omega : ¬ n * 1024 + t = n * 1024 + s)]; exact h t (by omega)
theorem fw_1 (hm : 2 ^ m ≤ 1024) (hs : s < 2 ^ m) (h : fW lk n m (i + 1) su) : fW lk n m (i + 1) (upd su (i * 1024 + s) v) := by
  intro l h1 h2 t ht
  simp only [upd, if_neg (by omega : ¬ l * 1024 + t = i * 1024 + s)]
  exact h l h1 h2 t ht
theorem fw_2 (h : ∀ t, t < s → su (i * 1024 + t) = nI (min 1000000 (jC lk m (n - i) i t))) (hi : i < n) (hv : v = nI (min 1000000 (jW lk (jS lk m (n - (i + 1)) (i + 1)) (jC lk m (n - (i + 1)) (i + 1)) i s (jM lk (jS lk m (n - (i + 1)) (i + 1)) i s k) k))) (hk : k = m) : ∀ t, t < s + 1 → upd su (i * 1024 + s) v (i * 1024 + t) = nI (min 1000000 (jC lk m (n - i) i t)) := by
  subst hk
  intro t ht
  by_cases e : t = s
  · subst e
    simp only [upd, if_pos]
    rw [hv, show n - i = (n - (i + 1)) + 1 by omega]
    rfl
  · simp only [upd, if_neg (by omega : ¬ i * 1024 + t = i * 1024 + s)]; exact h t (by omega)
theorem fw_3 (h : fW lk n m (i + 1) su) (h2 : ∀ t, t < s → su (i * 1024 + t) = nI (min 1000000 (jC lk m (n - i) i t))) (hs : 2 ^ m ≤ s) : fW lk n m i su := by
  intro l h3 h4 t ht
  by_cases e : l = i
  · subst e; exact h2 t (by omega)
  · exact h l (by omega) h4 t ht
theorem fW_00 (h : fW lk n m 0 su) : su 0 = nI (min 1000000 (jC lk m n 0 0)) := h 0 (Nat.le_refl _) (Nat.zero_le _) 0 (Nat.two_pow_pos m)
theorem fR_00 (h : fR lk n m 0 su) : su 0 = nI (jS lk m n 0 0) := h 0 (Nat.le_refl _) (Nat.zero_le _) 0 (Nat.two_pow_pos m)
theorem jT_m (hm : m ≤ 1000) : ∀ l, jTk lk m n l < 2 ^ m := by
  intro l
  induction l with
  | zero => exact Nat.two_pow_pos m
  | succ l ih =>
    rw [jT_s]
    rcases jF_q (lk := lk) (T := jS lk m (n - l - 1) (l + 1)) (i := l) (s := jTk lk m n l) (g := jS lk m (n - l) l (jTk lk m n l)) m hm with ⟨e, _⟩ | ⟨q, q1, q2, _⟩
    · have e2 : jP lk m n l = -9 := e
      rw [if_pos e2]; exact ih
    · have e2 : jP lk m n l = nI q := q2
      rw [if_neg (by rw [e2]; exact nI_9 (by omega)), e2, jn_nI (by omega)]
      exact Nat.or_lt_two_pow ih (Nat.pow_lt_pow_right (by decide) q1)
theorem or_2m (hs : s < 2 ^ m) (hk : k < m) : s ||| 2 ^ k < 2 ^ m := Nat.or_lt_two_pow hs (Nat.pow_lt_pow_right (by decide) hk)
end FI
theorem jL_z {lk : Nat → Nat → Nat} {n m i q : Nat} {L : Nat → Int32} (h : jL lk n m L) (hm : m ≤ 10) (hq : q < 10) : jL (lz lk i q) n m (upd L (i * 10 + q) 0) := by
  intro x hx y hy
  unfold lz
  by_cases e : x = i ∧ y = q
  · rw [if_pos e, e.1, e.2]; simp [upd]; rfl
  · rw [if_neg e]
    simp only [upd, if_neg (by omega : ¬ x * 10 + y = i * 10 + q)]
    exact h x hx y hy
section JQ2
variable {lk : Nat → Nat → Nat} {n m i s k : Nat} {jd : Nat → Int32}
theorem jd_n (h : jd i = jF lk (jS lk m (n - i - 1) (i + 1)) i s (jS lk m (n - i) i s) k) (h9 : jd i = -9) (c : (lk i k = 0 ∨ s.testBit k = true) ∨ lk i k + jS lk m (n - i - 1) (i + 1) (s ||| 2 ^ k) ≠ jS lk m (n - i) i s) : jd i = jF lk (jS lk m (n - i - 1) (i + 1)) i s (jS lk m (n - i) i s) (k + 1) := by
  rw [h9, jF_n (by rw [← h]; exact h9) c]
theorem jd_y (h : jd i = jF lk (jS lk m (n - i - 1) (i + 1)) i s (jS lk m (n - i) i s) k) (h9 : jd i = -9) (a : ¬ (lk i k = 0 ∨ s.testBit k = true)) (c : lk i k + jS lk m (n - i - 1) (i + 1) (s ||| 2 ^ k) = jS lk m (n - i) i s) : upd jd i (nI k) i = jF lk (jS lk m (n - i - 1) (i + 1)) i s (jS lk m (n - i) i s) (k + 1) := by
  rw [jF_y (by rw [← h]; exact h9) a c]
  simp [upd]
theorem jd_0 {g : Nat} {T : Nat → Nat} : upd jd i (-9) i = jF lk T i s g 0 := by simp [upd, jF]
theorem pd_u {v : Int32} (h : ∀ j, j < i → jd j = jP lk m n j) : ∀ j, j < i → upd jd i v j = jP lk m n j := by
  intro j hj
  simp only [upd, if_neg (by omega : ¬ j = i)]
  exact h j hj
theorem pd_s (h : ∀ j, j < i → jd j = jP lk m n j) (hv : jP lk m n i = jd i) : ∀ j, j < i + 1 → jd j = jP lk m n j := by
  intro j hj
  by_cases e : j = i
  · subst e; exact hv.symm
  · exact h j (by omega)
theorem pB_9 {f : Nat → Int32} {i : Nat} (h : pB f) (hi : i < 10) (h0 : (f i).toInt < 0) : f i = -9 := by
  rcases h i hi with e | ⟨q, hq, e⟩
  · exact e
  · rw [e, nI_toInt (by omega)] at h0; omega
end JQ2
