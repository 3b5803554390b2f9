set_option maxHeartbeats 4000000 in
theorem oX9_move {l : Launch} {G : xG} {h : List va_E} {sp fa nb ns nm nv sh : Nat} {ho ow sl : Int32} {rg : Nat → Int32} {th ot dy so kn go : Nat → Nat} {t p d s k : Int32} (h88 : h[88]? = some (oB 9 (lM G (nI sp) (nI fa) (nI nb) (nI ns) (nI nm) ho ow sl (nI nv) (nI sh)))) (h89 : h[89]? = some (aI 7 rg)) (h108 : h[108]? = some (aI 60 (nA th))) (h109 : h[109]? = some (aI 60 (nA ot))) (h110 : h[110]? = some (aI 60 (nA dy))) (h111 : h[111]? = some (aI 60 (nA so))) (h112 : h[112]? = some (aI 60 (nA kn))) (h113 : h[113]? = some (aI 60 (nA (gM go)))) (hn : nm ≤ 60) : CE l G yX9_move cX9_move 7 (some .int) 2 0 0 [.ref (G.1 + 88), .int t, .int p, .int d, .int s, .int k] h (some (.int (spMove nm t p d s k))) (fun h1 => ∃ rg1 : Nat → Int32, h1[88]? = some (oB 9 (lM G (nI sp) (nI fa) (nI nb) (nI ns) (nI (spN (0 ≤ (spMove nm t p d s k).toInt) nm (nm + 1))) ho ow sl (nI nv) (nI sh))) ∧ h1[108]? = some (aI 60 (nA (spUn (0 ≤ (spMove nm t p d s k).toInt) th nm (tn t)))) ∧ h1[109]? = some (aI 60 (nA (spUn (0 ≤ (spMove nm t p d s k).toInt) ot nm (tn p)))) ∧ h1[110]? = some (aI 60 (nA (spUn (0 ≤ (spMove nm t p d s k).toInt) dy nm (tn d)))) ∧ h1[111]? = some (aI 60 (nA (spUn (0 ≤ (spMove nm t p d s k).toInt) so nm (tn s)))) ∧ h1[112]? = some (aI 60 (nA (spUn (0 ≤ (spMove nm t p d s k).toInt) kn nm (tn k)))) ∧ h1[113]? = some (aI 60 (nA (gM (spUn (0 ≤ (spMove nm t p d s k).toInt) go nm 80001)))) ∧ h1[89]? = some (aI 7 rg1) ∧ rg2 88 89 108 113 h h1) := by
  refine cm_ofQ rfl (Nat.le_of_ble_eq_true rfl) [(0, .ref (G.1 + 88)), (1, .int t), (2, .int p), (3, .int d), (4, .int s), (5, .int k)] rfl (fun QF hQF => ?_)
  refine aw_iload_n 1 dX9_move_0 rfl rfl ?_
  refine aw_bipush (12) dX9_move_1 (by decide) ?_
  refine aw_dS [.int t, .int 12] [] lX9_126 sX9_isIn mX9_isIn dX9_move_3 (bX9_isIn (x := t) (n := 12) (by omega)) rfl (Nat.le_of_ble_eq_true rfl) (by decide) (by decide) rfl ?_
  refine aw_if_eq 18 dX9_move_6 (by decide) (fun c6 => ?_) (fun c6 => ?_)
  · have t6 := ite_0 c6
    refine aw_iconst (-1) dX9_move_18 (by decide) ?_
    refine aw_goto 42 dX9_move_19 (by decide) ?_
    refine aw_istore [(6, .int (-1)), (0, .ref (G.1 + 88)), (1, .int t), (2, .int p), (3, .int d), (4, .int s), (5, .int k)] dX9_move_42 (by decide) rfl ?_
    refine aw_iload 0 dX9_move_44 rfl ?_
    refine aw_if_ne 62 dX9_move_46 (by decide) (fun c46 => ?_) (fun c46 => absurd c46 (by decide))
    refine aw_iload 0 dX9_move_62 rfl ?_
    refine aw_if_eq 74 dX9_move_64 (by decide) (fun c64 => absurd c64 (by decide)) (fun c64 => ?_)
    refine aw_aload_n 1 dX9_move_67 rfl rfl ?_
    refine aw_iload 0 dX9_move_68 rfl ?_
    refine aw_eV [.int (-1)] [] lX9_130 vX9_refuse mX9_refuse dX9_move_70 (bX9_refuse (sp := sp) (fa := fa) (nb := nb) (ns := ns) (nm := nm) (nv := nv) (sh := sh) (ho := ho) (ow := ow) (sl := sl) (rg := rg) (x := (-1)) (q := 1) h88 h89 (by decide) (by decide)) h88 rfl rfl rfl (Nat.le_of_ble_eq_true rfl) (by decide) (by decide) rfl (fun h1742 q1741 => ?_)
    obtain ⟨rg11740, f1743, k1744⟩ := q1741
    have f1745 := rng_at k1744 (by decide) h88
    have f1746 := rng_at k1744 (by decide) h108
    have f1747 := rng_at k1744 (by decide) h109
    have f1748 := rng_at k1744 (by decide) h110
    have f1749 := rng_at k1744 (by decide) h111
    have f1750 := rng_at k1744 (by decide) h112
    have f1751 := rng_at k1744 (by decide) h113
    subst hQF
    have eS : (spMove nm t p d s k) = (-1) := by unfold spMove; (repeat' split) <;> first | (exfalso; omega) | rfl | contradiction
    have ok9 : ¬ 0 ≤ (spMove nm t p d s k).toInt := by rw [eS]; decide
    exact aw_iret rfl dX9_move_73 (by decide) (by decide) ⟨by rw [eS], _, by rw [spN_n ok9]; exact f1745, by rw [spUn_n ok9]; exact f1746, by rw [spUn_n ok9]; exact f1747, by rw [spUn_n ok9]; exact f1748, by rw [spUn_n ok9]; exact f1749, by rw [spUn_n ok9]; exact f1750, by rw [spUn_n ok9]; exact f1751, f1743, rg2_tr (rg2_rf 88 89 108 113 h) (rg2_w k1744 (by decide))⟩
  · have t6 := ite_1 c6
    refine aw_iload_n 2 dX9_move_9 rfl rfl ?_
    refine aw_bipush (8) dX9_move_10 (by decide) ?_
    refine aw_dS [.int p, .int 8] [] lX9_126 sX9_isIn mX9_isIn dX9_move_12 (bX9_isIn (x := p) (n := 8) (by omega)) rfl (Nat.le_of_ble_eq_true rfl) (by decide) (by decide) rfl ?_
    refine aw_if_ne 22 dX9_move_15 (by decide) (fun c15 => ?_) (fun c15 => ?_)
    · have t15 := ite_1 c15
      refine aw_iload 4 dX9_move_22 rfl ?_
      refine aw_iconst (5) dX9_move_24 (by decide) ?_
      refine aw_dS [.int s, .int 5] [] lX9_126 sX9_isIn mX9_isIn dX9_move_25 (bX9_isIn (x := s) (n := 5) (by omega)) rfl (Nat.le_of_ble_eq_true rfl) (by decide) (by decide) rfl ?_
      refine aw_if_ne 36 dX9_move_28 (by decide) (fun c28 => ?_) (fun c28 => ?_)
      · have t28 := ite_1 c28
        refine aw_iload_n 3 dX9_move_36 rfl rfl ?_
        refine aw_iload 5 dX9_move_37 rfl ?_
        refine aw_dS [.int d, .int k] [] lX9_195 sX9_wrongDays mX9_wrongDays dX9_move_39 (bX9_wrongDays (x := d) (k := k) ) rfl (Nat.le_of_ble_eq_true rfl) (by decide) (by decide) rfl ?_
        refine aw_istore [(6, .int (dyF d k)), (0, .ref (G.1 + 88)), (1, .int t), (2, .int p), (3, .int d), (4, .int s), (5, .int k)] dX9_move_42 (by decide) rfl ?_
        refine aw_iload 0 dX9_move_44 rfl ?_
        refine aw_if_ne 62 dX9_move_46 (by decide) (fun c46 => ?_) (fun c46 => ?_)
        · have d46 := mt (j_eq (a := (dyF d k).toInt) (b := (0)) (rfl) (rfl)).mpr c46
          refine aw_iload 0 dX9_move_62 rfl ?_
          refine aw_if_eq 74 dX9_move_64 (by decide) (fun c64 => absurd c64 (c46)) (fun c64 => ?_)
          refine aw_aload_n 1 dX9_move_67 rfl rfl ?_
          refine aw_iload 0 dX9_move_68 rfl ?_
          obtain ⟨q1752, bq1752, eq1752⟩ := Or.resolve_left (dyF_q d k) (by assumption)
          refine aw_eV [.int (dyF d k)] [] lX9_130 vX9_refuse mX9_refuse dX9_move_70 (bX9_refuse (sp := sp) (fa := fa) (nb := nb) (ns := ns) (nm := nm) (nv := nv) (sh := sh) (ho := ho) (ow := ow) (sl := sl) (rg := rg) (x := (dyF d k)) (q := q1752) h88 h89 bq1752 eq1752) h88 rfl rfl rfl (Nat.le_of_ble_eq_true rfl) (by decide) (by decide) rfl (fun h1755 q1754 => ?_)
          obtain ⟨rg11753, f1756, k1757⟩ := q1754
          have f1758 := rng_at k1757 (by decide) h88
          have f1759 := rng_at k1757 (by decide) h108
          have f1760 := rng_at k1757 (by decide) h109
          have f1761 := rng_at k1757 (by decide) h110
          have f1762 := rng_at k1757 (by decide) h111
          have f1763 := rng_at k1757 (by decide) h112
          have f1764 := rng_at k1757 (by decide) h113
          subst hQF
          have eS : (spMove nm t p d s k) = (dyF d k) := by unfold spMove; rw [if_neg (by omega), if_neg (by omega), if_pos (by assumption)]
          have ok9 : ¬ 0 ≤ (spMove nm t p d s k).toInt := by rw [eS]; have q := dyF_neg (d := d) (k := k) (by assumption); omega
          exact aw_iret rfl dX9_move_73 (by decide) (by decide) ⟨by rw [eS], _, by rw [spN_n ok9]; exact f1758, by rw [spUn_n ok9]; exact f1759, by rw [spUn_n ok9]; exact f1760, by rw [spUn_n ok9]; exact f1761, by rw [spUn_n ok9]; exact f1762, by rw [spUn_n ok9]; exact f1763, by rw [spUn_n ok9]; exact f1764, f1756, rg2_tr (rg2_rf 88 89 108 113 h) (rg2_w k1757 (by decide))⟩
        · have d46 := (j_eq (a := (dyF d k).toInt) (b := (0)) (rfl) (rfl)).mp c46
          refine aw_aload_n 1 dX9_move_49 rfl rfl ?_
          refine aw_get fX9_202 dX9_move_50 h88 rfl ?_
          refine aw_bipush (60) dX9_move_53 (by decide) ?_
          refine aw_icmp_ne 62 dX9_move_55 (by decide) (fun c55 => ?_) (fun c55 => ?_)
          · have d55 := mt (nv_eq (a := nm) (b := 60) (rfl) (rfl) (by omega) (by omega)).mpr c55
            refine aw_iload 0 dX9_move_62 rfl ?_
            refine aw_if_eq 74 dX9_move_64 (by decide) (fun c64 => ?_) (fun c64 => absurd (c46) c64)
            have hdd := dyF_0 c46
            obtain ⟨t0, bb_t0, ee_t0⟩ := i_nat (x := t) (N := 12) (by omega) (by omega)
            subst ee_t0
            have tt_t0 : (nI t0).toInt = (t0 : Int) := nI_toInt (by omega)
            have nn_t0 : tn (nI t0) = t0 := tn_nI (by omega)
            obtain ⟨p0, bb_p0, ee_p0⟩ := i_nat (x := p) (N := 8) (by omega) (by omega)
            subst ee_p0
            have tt_p0 : (nI p0).toInt = (p0 : Int) := nI_toInt (by omega)
            have nn_p0 : tn (nI p0) = p0 := tn_nI (by omega)
            obtain ⟨d0, bb_d0, ee_d0⟩ := i_nat (x := d) (N := 80001) (by omega) (by omega)
            subst ee_d0
            have tt_d0 : (nI d0).toInt = (d0 : Int) := nI_toInt (by omega)
            have nn_d0 : tn (nI d0) = d0 := tn_nI (by omega)
            obtain ⟨k0, bb_k0, ee_k0⟩ := i_nat (x := k) (N := 80001) (by omega) (by omega)
            subst ee_k0
            have tt_k0 : (nI k0).toInt = (k0 : Int) := nI_toInt (by omega)
            have nn_k0 : tn (nI k0) = k0 := tn_nI (by omega)
            obtain ⟨s0, bb_s0, ee_s0⟩ := i_nat (x := s) (N := 5) (by omega) (by omega)
            subst ee_s0
            have tt_s0 : (nI s0).toInt = (s0 : Int) := nI_toInt (by omega)
            have nn_s0 : tn (nI s0) = s0 := tn_nI (by omega)
            refine aw_aload_n 1 dX9_move_74 rfl rfl ?_
            refine aw_get fX9_74 dX9_move_75 h88 rfl ?_
            refine aw_aload_n 1 dX9_move_78 rfl rfl ?_
            refine aw_get fX9_202 dX9_move_79 h88 rfl ?_
            refine aw_iload_n 2 dX9_move_82 rfl rfl ?_
            refine aw_iast nm (rfl) (by omega) (by decide) dX9_move_83 h108 ?_
            rw [nA_u (f := th) (i := nm) (x := (nI t0)) (v := t0) (rfl)]
            refine aw_aload_n 1 dX9_move_84 rfl rfl ?_
            refine aw_get fX9_77 dX9_move_85 (gn (by decide) (h88)) rfl ?_
            refine aw_aload_n 1 dX9_move_88 rfl rfl ?_
            refine aw_get fX9_202 dX9_move_89 (gn (by decide) (h88)) rfl ?_
            refine aw_iload_n 3 dX9_move_92 rfl rfl ?_
            refine aw_iast nm (rfl) (by omega) (by decide) dX9_move_93 (gn (by decide) (h109)) ?_
            rw [nA_u (f := ot) (i := nm) (x := (nI p0)) (v := p0) (rfl)]
            refine aw_aload_n 1 dX9_move_94 rfl rfl ?_
            refine aw_get fX9_80 dX9_move_95 (gn (by decide) (gn (by decide) (h88))) rfl ?_
            refine aw_aload_n 1 dX9_move_98 rfl rfl ?_
            refine aw_get fX9_202 dX9_move_99 (gn (by decide) (gn (by decide) (h88))) rfl ?_
            refine aw_iload_n 4 dX9_move_102 rfl rfl ?_
            refine aw_iast nm (rfl) (by omega) (by decide) dX9_move_103 (gn (by decide) (gn (by decide) (h110))) ?_
            rw [nA_u (f := dy) (i := nm) (x := (nI d0)) (v := d0) (rfl)]
            refine aw_aload_n 1 dX9_move_104 rfl rfl ?_
            refine aw_get fX9_83 dX9_move_105 (gn (by decide) (gn (by decide) (gn (by decide) (h88)))) rfl ?_
            refine aw_aload_n 1 dX9_move_108 rfl rfl ?_
            refine aw_get fX9_202 dX9_move_109 (gn (by decide) (gn (by decide) (gn (by decide) (h88)))) rfl ?_
            refine aw_iload 5 dX9_move_112 rfl ?_
            refine aw_iast nm (rfl) (by omega) (by decide) dX9_move_114 (gn (by decide) (gn (by decide) (gn (by decide) (h111)))) ?_
            rw [nA_u (f := so) (i := nm) (x := (nI s0)) (v := s0) (rfl)]
            refine aw_aload_n 1 dX9_move_115 rfl rfl ?_
            refine aw_get fX9_86 dX9_move_116 (gn (by decide) (gn (by decide) (gn (by decide) (gn (by decide) (h88))))) rfl ?_
            refine aw_aload_n 1 dX9_move_119 rfl rfl ?_
            refine aw_get fX9_202 dX9_move_120 (gn (by decide) (gn (by decide) (gn (by decide) (gn (by decide) (h88))))) rfl ?_
            refine aw_iload 6 dX9_move_123 rfl ?_
            refine aw_iast nm (rfl) (by omega) (by decide) dX9_move_125 (gn (by decide) (gn (by decide) (gn (by decide) (gn (by decide) (h112))))) ?_
            rw [nA_u (f := kn) (i := nm) (x := (nI k0)) (v := k0) (rfl)]
            refine aw_aload_n 1 dX9_move_126 rfl rfl ?_
            refine aw_get fX9_89 dX9_move_127 (gn (by decide) (gn (by decide) (gn (by decide) (gn (by decide) (gn (by decide) (h88)))))) rfl ?_
            refine aw_aload_n 1 dX9_move_130 rfl rfl ?_
            refine aw_get fX9_202 dX9_move_131 (gn (by decide) (gn (by decide) (gn (by decide) (gn (by decide) (gn (by decide) (h88)))))) rfl ?_
            refine aw_ldc (1000000000) kX9_201 dX9_move_134 ?_
            refine aw_iast nm (rfl) (by omega) (by decide) dX9_move_136 (gn (by decide) (gn (by decide) (gn (by decide) (gn (by decide) (gn (by decide) (h113)))))) ?_
            rw [nA_u (f := (gM go)) (i := nm) (x := 1000000000) (v := 1000000000) (rfl)]
            refine aw_aload_n 1 dX9_move_137 rfl rfl ?_
            refine aw_dup dX9_move_138 rfl ?_
            refine aw_get fX9_202 dX9_move_139 (gn (by decide) (gn (by decide) (gn (by decide) (gn (by decide) (gn (by decide) (gn (by decide) (h88))))))) rfl ?_
            refine aw_iconst (1) dX9_move_142 (by decide) ?_
            refine aw_iadd dX9_move_143 ?_
            refine aw_toe (nI (nm + 1)) (nv_add (rfl) (rfl)) ?_
            refine aw_putQ fX9_202 dX9_move_144 (lM G (nI sp) (nI fa) (nI nb) (nI ns) (nI (nm + 1)) ho ow sl (nI nv) (nI sh)) (gn (by decide) (gn (by decide) (gn (by decide) (gn (by decide) (gn (by decide) (gn (by decide) (h88))))))) rfl rfl rfl (Nat.le_of_ble_eq_true rfl) rfl ?_
            refine aw_aload_n 1 dX9_move_147 rfl rfl ?_
            refine aw_get fX9_202 dX9_move_148 (gs (gn (by decide) (gn (by decide) (gn (by decide) (gn (by decide) (gn (by decide) (gn (by decide) (h88)))))))) rfl ?_
            refine aw_iconst (1) dX9_move_151 (by decide) ?_
            refine aw_isub dX9_move_152 ?_
            refine aw_toe (nI nm) (nv_p1 (rfl)) ?_
            subst hQF
            have eS : (spMove nm (nI t0) (nI p0) (nI d0) (nI s0) (nI k0)) = (nI nm) := by unfold spMove; (repeat' split) <;> first | (exfalso; omega) | rfl | contradiction
            have ok9 : 0 ≤ (spMove nm (nI t0) (nI p0) (nI d0) (nI s0) (nI k0)).toInt := by rw [eS, nI_toInt (by omega)]; omega
            exact aw_iret rfl dX9_move_153 (by decide) (by decide) ⟨by rw [eS], _, by rw [spN_y ok9]; exact (gs (gn (by decide) (gn (by decide) (gn (by decide) (gn (by decide) (gn (by decide) (gn (by decide) (h88)))))))), by rw [spUn_y ok9, nn_t0]; exact (gn (by decide) (gn (by decide) (gn (by decide) (gn (by decide) (gn (by decide) (gn (by decide) (gs h108))))))), by rw [spUn_y ok9, nn_p0]; exact (gn (by decide) (gn (by decide) (gn (by decide) (gn (by decide) (gn (by decide) (gs (gn (by decide) (h109)))))))), by rw [spUn_y ok9, nn_d0]; exact (gn (by decide) (gn (by decide) (gn (by decide) (gn (by decide) (gs (gn (by decide) (gn (by decide) (h110)))))))), by rw [spUn_y ok9, nn_s0]; exact (gn (by decide) (gn (by decide) (gn (by decide) (gs (gn (by decide) (gn (by decide) (gn (by decide) (h111)))))))), by rw [spUn_y ok9, nn_k0]; exact (gn (by decide) (gn (by decide) (gs (gn (by decide) (gn (by decide) (gn (by decide) (gn (by decide) (h112)))))))), by rw [spUn_y ok9, ← gM_n]; exact (gn (by decide) (gs (gn (by decide) (gn (by decide) (gn (by decide) (gn (by decide) (gn (by decide) (h113)))))))), (gn (by decide) (gn (by decide) (gn (by decide) (gn (by decide) (gn (by decide) (gn (by decide) (gn (by decide) (h89)))))))), rg2_set (rg2_set (rg2_set (rg2_set (rg2_set (rg2_set (rg2_set (rg2_rf 88 89 108 113 h) (by decide)) (by decide)) (by decide)) (by decide)) (by decide)) (by decide)) (by decide)⟩
          · have d55 := (nv_eq (a := nm) (b := 60) (rfl) (rfl) (by omega) (by omega)).mp c55
            refine aw_bipush (-6) dX9_move_58 (by decide) ?_
            refine aw_istore [(6, .int (-6)), (0, .ref (G.1 + 88)), (1, .int t), (2, .int p), (3, .int d), (4, .int s), (5, .int k)] dX9_move_60 (by decide) rfl ?_
            refine aw_iload 0 dX9_move_62 rfl ?_
            refine aw_if_eq 74 dX9_move_64 (by decide) (fun c64 => absurd c64 (by decide)) (fun c64 => ?_)
            refine aw_aload_n 1 dX9_move_67 rfl rfl ?_
            refine aw_iload 0 dX9_move_68 rfl ?_
            refine aw_eV [.int (-6)] [] lX9_130 vX9_refuse mX9_refuse dX9_move_70 (bX9_refuse (sp := sp) (fa := fa) (nb := nb) (ns := ns) (nm := nm) (nv := nv) (sh := sh) (ho := ho) (ow := ow) (sl := sl) (rg := rg) (x := (-6)) (q := 6) h88 h89 (by decide) (by decide)) h88 rfl rfl rfl (Nat.le_of_ble_eq_true rfl) (by decide) (by decide) rfl (fun h1767 q1766 => ?_)
            obtain ⟨rg11765, f1768, k1769⟩ := q1766
            have f1770 := rng_at k1769 (by decide) h88
            have f1771 := rng_at k1769 (by decide) h108
            have f1772 := rng_at k1769 (by decide) h109
            have f1773 := rng_at k1769 (by decide) h110
            have f1774 := rng_at k1769 (by decide) h111
            have f1775 := rng_at k1769 (by decide) h112
            have f1776 := rng_at k1769 (by decide) h113
            subst hQF
            have eS : (spMove nm t p d s k) = (-6) := by unfold spMove; (repeat' split) <;> first | (exfalso; omega) | rfl | contradiction
            have ok9 : ¬ 0 ≤ (spMove nm t p d s k).toInt := by rw [eS]; decide
            exact aw_iret rfl dX9_move_73 (by decide) (by decide) ⟨by rw [eS], _, by rw [spN_n ok9]; exact f1770, by rw [spUn_n ok9]; exact f1771, by rw [spUn_n ok9]; exact f1772, by rw [spUn_n ok9]; exact f1773, by rw [spUn_n ok9]; exact f1774, by rw [spUn_n ok9]; exact f1775, by rw [spUn_n ok9]; exact f1776, f1768, rg2_tr (rg2_rf 88 89 108 113 h) (rg2_w k1769 (by decide))⟩
      · have t28 := ite_0 c28
        refine aw_bipush (-2) dX9_move_31 (by decide) ?_
        refine aw_goto 42 dX9_move_33 (by decide) ?_
        refine aw_istore [(6, .int (-2)), (0, .ref (G.1 + 88)), (1, .int t), (2, .int p), (3, .int d), (4, .int s), (5, .int k)] dX9_move_42 (by decide) rfl ?_
        refine aw_iload 0 dX9_move_44 rfl ?_
        refine aw_if_ne 62 dX9_move_46 (by decide) (fun c46 => ?_) (fun c46 => absurd c46 (by decide))
        refine aw_iload 0 dX9_move_62 rfl ?_
        refine aw_if_eq 74 dX9_move_64 (by decide) (fun c64 => absurd c64 (by decide)) (fun c64 => ?_)
        refine aw_aload_n 1 dX9_move_67 rfl rfl ?_
        refine aw_iload 0 dX9_move_68 rfl ?_
        refine aw_eV [.int (-2)] [] lX9_130 vX9_refuse mX9_refuse dX9_move_70 (bX9_refuse (sp := sp) (fa := fa) (nb := nb) (ns := ns) (nm := nm) (nv := nv) (sh := sh) (ho := ho) (ow := ow) (sl := sl) (rg := rg) (x := (-2)) (q := 2) h88 h89 (by decide) (by decide)) h88 rfl rfl rfl (Nat.le_of_ble_eq_true rfl) (by decide) (by decide) rfl (fun h1779 q1778 => ?_)
        obtain ⟨rg11777, f1780, k1781⟩ := q1778
        have f1782 := rng_at k1781 (by decide) h88
        have f1783 := rng_at k1781 (by decide) h108
        have f1784 := rng_at k1781 (by decide) h109
        have f1785 := rng_at k1781 (by decide) h110
        have f1786 := rng_at k1781 (by decide) h111
        have f1787 := rng_at k1781 (by decide) h112
        have f1788 := rng_at k1781 (by decide) h113
        subst hQF
        have eS : (spMove nm t p d s k) = (-2) := by unfold spMove; (repeat' split) <;> first | (exfalso; omega) | rfl | contradiction
        have ok9 : ¬ 0 ≤ (spMove nm t p d s k).toInt := by rw [eS]; decide
        exact aw_iret rfl dX9_move_73 (by decide) (by decide) ⟨by rw [eS], _, by rw [spN_n ok9]; exact f1782, by rw [spUn_n ok9]; exact f1783, by rw [spUn_n ok9]; exact f1784, by rw [spUn_n ok9]; exact f1785, by rw [spUn_n ok9]; exact f1786, by rw [spUn_n ok9]; exact f1787, by rw [spUn_n ok9]; exact f1788, f1780, rg2_tr (rg2_rf 88 89 108 113 h) (rg2_w k1781 (by decide))⟩
    · have t15 := ite_0 c15
      refine aw_iconst (-1) dX9_move_18 (by decide) ?_
      refine aw_goto 42 dX9_move_19 (by decide) ?_
      refine aw_istore [(6, .int (-1)), (0, .ref (G.1 + 88)), (1, .int t), (2, .int p), (3, .int d), (4, .int s), (5, .int k)] dX9_move_42 (by decide) rfl ?_
      refine aw_iload 0 dX9_move_44 rfl ?_
      refine aw_if_ne 62 dX9_move_46 (by decide) (fun c46 => ?_) (fun c46 => absurd c46 (by decide))
      refine aw_iload 0 dX9_move_62 rfl ?_
      refine aw_if_eq 74 dX9_move_64 (by decide) (fun c64 => absurd c64 (by decide)) (fun c64 => ?_)
      refine aw_aload_n 1 dX9_move_67 rfl rfl ?_
      refine aw_iload 0 dX9_move_68 rfl ?_
      refine aw_eV [.int (-1)] [] lX9_130 vX9_refuse mX9_refuse dX9_move_70 (bX9_refuse (sp := sp) (fa := fa) (nb := nb) (ns := ns) (nm := nm) (nv := nv) (sh := sh) (ho := ho) (ow := ow) (sl := sl) (rg := rg) (x := (-1)) (q := 1) h88 h89 (by decide) (by decide)) h88 rfl rfl rfl (Nat.le_of_ble_eq_true rfl) (by decide) (by decide) rfl (fun h1791 q1790 => ?_)
      obtain ⟨rg11789, f1792, k1793⟩ := q1790
      have f1794 := rng_at k1793 (by decide) h88
      have f1795 := rng_at k1793 (by decide) h108
      have f1796 := rng_at k1793 (by decide) h109
      have f1797 := rng_at k1793 (by decide) h110
      have f1798 := rng_at k1793 (by decide) h111
      have f1799 := rng_at k1793 (by decide) h112
      have f1800 := rng_at k1793 (by decide) h113
      subst hQF
      have eS : (spMove nm t p d s k) = (-1) := by unfold spMove; (repeat' split) <;> first | (exfalso; omega) | rfl | contradiction
      have ok9 : ¬ 0 ≤ (spMove nm t p d s k).toInt := by rw [eS]; decide
      exact aw_iret rfl dX9_move_73 (by decide) (by decide) ⟨by rw [eS], _, by rw [spN_n ok9]; exact f1794, by rw [spUn_n ok9]; exact f1795, by rw [spUn_n ok9]; exact f1796, by rw [spUn_n ok9]; exact f1797, by rw [spUn_n ok9]; exact f1798, by rw [spUn_n ok9]; exact f1799, by rw [spUn_n ok9]; exact f1800, f1792, rg2_tr (rg2_rf 88 89 108 113 h) (rg2_w k1793 (by decide))⟩
