set_option maxHeartbeats 4000000 in
theorem oX9_sight {l : Launch} {G : xG} {h : List va_E} {sp fa nb ns nm nv sh : Nat} {ho ow sl : Int32} {rg : Nat → Int32} {th ot dy so kn go : Nat → Nat} {t p d k : Int32} (h88 : h[88]? = some (oB 9 (lM G (nI sp) (nI fa) (nI nb) (nI ns) (nI nm) ho ow sl (nI nv) (nI sh)))) (h89 : h[89]? = some (aI 7 rg)) (h103 : h[103]? = some (aI 60 (nA th))) (h104 : h[104]? = some (aI 60 (nA ot))) (h105 : h[105]? = some (aI 60 (nA dy))) (h106 : h[106]? = some (aI 60 (nA kn))) (h107 : h[107]? = some (aI 60 (nA (gM go)))) (hn : ns ≤ 60) : CE l G yX9_sight cX9_sight 6 (some .int) 2 0 0 [.ref (G.1 + 88), .int t, .int p, .int d, .int k] h (some (.int (spSight ns t p d k))) (fun h1 => ∃ rg1 : Nat → Int32, h1[88]? = some (oB 9 (lM G (nI sp) (nI fa) (nI nb) (nI (spN (0 ≤ (spSight ns t p d k).toInt) ns (ns + 1))) (nI nm) ho ow sl (nI nv) (nI sh))) ∧ h1[103]? = some (aI 60 (nA (spUn (0 ≤ (spSight ns t p d k).toInt) th ns (tn t)))) ∧ h1[104]? = some (aI 60 (nA (spUn (0 ≤ (spSight ns t p d k).toInt) ot ns (tn p)))) ∧ h1[105]? = some (aI 60 (nA (spUn (0 ≤ (spSight ns t p d k).toInt) dy ns (tn d)))) ∧ h1[106]? = some (aI 60 (nA (spUn (0 ≤ (spSight ns t p d k).toInt) kn ns (tn k)))) ∧ h1[107]? = some (aI 60 (nA (gM (spUn (0 ≤ (spSight ns t p d k).toInt) go ns 80001)))) ∧ h1[89]? = some (aI 7 rg1) ∧ rg2 88 89 103 107 h h1) := by
  refine cm_ofQ rfl (Nat.le_of_ble_eq_true rfl) [(0, .ref (G.1 + 88)), (1, .int t), (2, .int p), (3, .int d), (4, .int k)] rfl (fun QF hQF => ?_)
  refine aw_iload_n 1 dX9_sight_0 rfl rfl ?_
  refine aw_bipush (12) dX9_sight_1 (by decide) ?_
  refine aw_dS [.int t, .int 12] [] lX9_126 sX9_isIn mX9_isIn dX9_sight_3 (bX9_isIn (x := t) (n := 12) (by omega)) rfl (Nat.le_of_ble_eq_true rfl) (by decide) (by decide) rfl ?_
  refine aw_if_eq 27 dX9_sight_6 (by decide) (fun c6 => ?_) (fun c6 => ?_)
  · have t6 := ite_0 c6
    refine aw_iconst (-1) dX9_sight_27 (by decide) ?_
    refine aw_istore [(5, .int (-1)), (0, .ref (G.1 + 88)), (1, .int t), (2, .int p), (3, .int d), (4, .int k)] dX9_sight_28 (by decide) rfl ?_
    refine aw_iload 0 dX9_sight_30 rfl ?_
    refine aw_if_ne 48 dX9_sight_32 (by decide) (fun c32 => ?_) (fun c32 => absurd c32 (by decide))
    refine aw_iload 0 dX9_sight_48 rfl ?_
    refine aw_if_eq 60 dX9_sight_50 (by decide) (fun c50 => absurd c50 (by decide)) (fun c50 => ?_)
    refine aw_aload_n 1 dX9_sight_53 rfl rfl ?_
    refine aw_iload 0 dX9_sight_54 rfl ?_
    refine aw_eV [.int (-1)] [] lX9_130 vX9_refuse mX9_refuse dX9_sight_56 (bX9_refuse (sp := sp) (fa := fa) (nb := nb) (ns := ns) (nm := nm) (nv := nv) (sh := sh) (ho := ho) (ow := ow) (sl := sl) (rg := rg) (x := (-1)) (q := 1) h88 h89 (by decide) (by decide)) h88 rfl rfl rfl (Nat.le_of_ble_eq_true rfl) (by decide) (by decide) rfl (fun h1697 q1696 => ?_)
    obtain ⟨rg11695, f1698, k1699⟩ := q1696
    have f1700 := rng_at k1699 (by decide) h88
    have f1701 := rng_at k1699 (by decide) h103
    have f1702 := rng_at k1699 (by decide) h104
    have f1703 := rng_at k1699 (by decide) h105
    have f1704 := rng_at k1699 (by decide) h106
    have f1705 := rng_at k1699 (by decide) h107
    subst hQF
    have eS : (spSight ns t p d k) = (-1) := by unfold spSight; (repeat' split) <;> first | (exfalso; omega) | rfl | contradiction
    have ok9 : ¬ 0 ≤ (spSight ns t p d k).toInt := by rw [eS]; decide
    exact aw_iret rfl dX9_sight_59 (by decide) (by decide) ⟨by rw [eS], _, by rw [spN_n ok9]; exact f1700, by rw [spUn_n ok9]; exact f1701, by rw [spUn_n ok9]; exact f1702, by rw [spUn_n ok9]; exact f1703, by rw [spUn_n ok9]; exact f1704, by rw [spUn_n ok9]; exact f1705, f1698, rg2_tr (rg2_rf 88 89 103 107 h) (rg2_w k1699 (by decide))⟩
  · have t6 := ite_1 c6
    refine aw_iload_n 2 dX9_sight_9 rfl rfl ?_
    refine aw_bipush (8) dX9_sight_10 (by decide) ?_
    refine aw_dS [.int p, .int 8] [] lX9_126 sX9_isIn mX9_isIn dX9_sight_12 (bX9_isIn (x := p) (n := 8) (by omega)) rfl (Nat.le_of_ble_eq_true rfl) (by decide) (by decide) rfl ?_
    refine aw_if_eq 27 dX9_sight_15 (by decide) (fun c15 => ?_) (fun c15 => ?_)
    · have t15 := ite_0 c15
      refine aw_iconst (-1) dX9_sight_27 (by decide) ?_
      refine aw_istore [(5, .int (-1)), (0, .ref (G.1 + 88)), (1, .int t), (2, .int p), (3, .int d), (4, .int k)] dX9_sight_28 (by decide) rfl ?_
      refine aw_iload 0 dX9_sight_30 rfl ?_
      refine aw_if_ne 48 dX9_sight_32 (by decide) (fun c32 => ?_) (fun c32 => absurd c32 (by decide))
      refine aw_iload 0 dX9_sight_48 rfl ?_
      refine aw_if_eq 60 dX9_sight_50 (by decide) (fun c50 => absurd c50 (by decide)) (fun c50 => ?_)
      refine aw_aload_n 1 dX9_sight_53 rfl rfl ?_
      refine aw_iload 0 dX9_sight_54 rfl ?_
      refine aw_eV [.int (-1)] [] lX9_130 vX9_refuse mX9_refuse dX9_sight_56 (bX9_refuse (sp := sp) (fa := fa) (nb := nb) (ns := ns) (nm := nm) (nv := nv) (sh := sh) (ho := ho) (ow := ow) (sl := sl) (rg := rg) (x := (-1)) (q := 1) h88 h89 (by decide) (by decide)) h88 rfl rfl rfl (Nat.le_of_ble_eq_true rfl) (by decide) (by decide) rfl (fun h1708 q1707 => ?_)
      obtain ⟨rg11706, f1709, k1710⟩ := q1707
      have f1711 := rng_at k1710 (by decide) h88
      have f1712 := rng_at k1710 (by decide) h103
      have f1713 := rng_at k1710 (by decide) h104
      have f1714 := rng_at k1710 (by decide) h105
      have f1715 := rng_at k1710 (by decide) h106
      have f1716 := rng_at k1710 (by decide) h107
      subst hQF
      have eS : (spSight ns t p d k) = (-1) := by unfold spSight; (repeat' split) <;> first | (exfalso; omega) | rfl | contradiction
      have ok9 : ¬ 0 ≤ (spSight ns t p d k).toInt := by rw [eS]; decide
      exact aw_iret rfl dX9_sight_59 (by decide) (by decide) ⟨by rw [eS], _, by rw [spN_n ok9]; exact f1711, by rw [spUn_n ok9]; exact f1712, by rw [spUn_n ok9]; exact f1713, by rw [spUn_n ok9]; exact f1714, by rw [spUn_n ok9]; exact f1715, by rw [spUn_n ok9]; exact f1716, f1709, rg2_tr (rg2_rf 88 89 103 107 h) (rg2_w k1710 (by decide))⟩
    · have t15 := ite_1 c15
      refine aw_iload_n 3 dX9_sight_18 rfl rfl ?_
      refine aw_iload 4 dX9_sight_19 rfl ?_
      refine aw_dS [.int d, .int k] [] lX9_195 sX9_wrongDays mX9_wrongDays dX9_sight_21 (bX9_wrongDays (x := d) (k := k) ) rfl (Nat.le_of_ble_eq_true rfl) (by decide) (by decide) rfl ?_
      refine aw_goto 28 dX9_sight_24 (by decide) ?_
      refine aw_istore [(5, .int (dyF d k)), (0, .ref (G.1 + 88)), (1, .int t), (2, .int p), (3, .int d), (4, .int k)] dX9_sight_28 (by decide) rfl ?_
      refine aw_iload 0 dX9_sight_30 rfl ?_
      refine aw_if_ne 48 dX9_sight_32 (by decide) (fun c32 => ?_) (fun c32 => ?_)
      · have d32 := mt (j_eq (a := (dyF d k).toInt) (b := (0)) (rfl) (rfl)).mpr c32
        refine aw_iload 0 dX9_sight_48 rfl ?_
        refine aw_if_eq 60 dX9_sight_50 (by decide) (fun c50 => absurd c50 (c32)) (fun c50 => ?_)
        refine aw_aload_n 1 dX9_sight_53 rfl rfl ?_
        refine aw_iload 0 dX9_sight_54 rfl ?_
        obtain ⟨q1717, bq1717, eq1717⟩ := Or.resolve_left (dyF_q d k) (by assumption)
        refine aw_eV [.int (dyF d k)] [] lX9_130 vX9_refuse mX9_refuse dX9_sight_56 (bX9_refuse (sp := sp) (fa := fa) (nb := nb) (ns := ns) (nm := nm) (nv := nv) (sh := sh) (ho := ho) (ow := ow) (sl := sl) (rg := rg) (x := (dyF d k)) (q := q1717) h88 h89 bq1717 eq1717) h88 rfl rfl rfl (Nat.le_of_ble_eq_true rfl) (by decide) (by decide) rfl (fun h1720 q1719 => ?_)
        obtain ⟨rg11718, f1721, k1722⟩ := q1719
        have f1723 := rng_at k1722 (by decide) h88
        have f1724 := rng_at k1722 (by decide) h103
        have f1725 := rng_at k1722 (by decide) h104
        have f1726 := rng_at k1722 (by decide) h105
        have f1727 := rng_at k1722 (by decide) h106
        have f1728 := rng_at k1722 (by decide) h107
        subst hQF
        have eS : (spSight ns t p d k) = (dyF d k) := by unfold spSight; rw [if_neg (by omega), if_pos (by assumption)]
        have ok9 : ¬ 0 ≤ (spSight ns t p d k).toInt := by rw [eS]; have q := dyF_neg (d := d) (k := k) (by assumption); omega
        exact aw_iret rfl dX9_sight_59 (by decide) (by decide) ⟨by rw [eS], _, by rw [spN_n ok9]; exact f1723, by rw [spUn_n ok9]; exact f1724, by rw [spUn_n ok9]; exact f1725, by rw [spUn_n ok9]; exact f1726, by rw [spUn_n ok9]; exact f1727, by rw [spUn_n ok9]; exact f1728, f1721, rg2_tr (rg2_rf 88 89 103 107 h) (rg2_w k1722 (by decide))⟩
      · have d32 := (j_eq (a := (dyF d k).toInt) (b := (0)) (rfl) (rfl)).mp c32
        refine aw_aload_n 1 dX9_sight_35 rfl rfl ?_
        refine aw_get fX9_198 dX9_sight_36 h88 rfl ?_
        refine aw_bipush (60) dX9_sight_39 (by decide) ?_
        refine aw_icmp_ne 48 dX9_sight_41 (by decide) (fun c41 => ?_) (fun c41 => ?_)
        · have d41 := mt (nv_eq (a := ns) (b := 60) (rfl) (rfl) (by omega) (by omega)).mpr c41
          refine aw_iload 0 dX9_sight_48 rfl ?_
          refine aw_if_eq 60 dX9_sight_50 (by decide) (fun c50 => ?_) (fun c50 => absurd (c32) c50)
          have hdd := dyF_0 c32
          obtain ⟨t0, bb_t0, ee_t0⟩ := i_nat (x := t) (N := 12) (by omega) (by omega)
          subst ee_t0
          have tt_t0 : (nI t0).toInt = (t0 : Int) := nI_toInt (by omega)
          have nn_t0 : tn (nI t0) = t0 := tn_nI (by omega)
          obtain ⟨p0, bb_p0, ee_p0⟩ := i_nat (x := p) (N := 8) (by omega) (by omega)
          subst ee_p0
          have tt_p0 : (nI p0).toInt = (p0 : Int) := nI_toInt (by omega)
          have nn_p0 : tn (nI p0) = p0 := tn_nI (by omega)
          obtain ⟨d0, bb_d0, ee_d0⟩ := i_nat (x := d) (N := 80001) (by omega) (by omega)
          subst ee_d0
          have tt_d0 : (nI d0).toInt = (d0 : Int) := nI_toInt (by omega)
          have nn_d0 : tn (nI d0) = d0 := tn_nI (by omega)
          obtain ⟨k0, bb_k0, ee_k0⟩ := i_nat (x := k) (N := 80001) (by omega) (by omega)
          subst ee_k0
          have tt_k0 : (nI k0).toInt = (k0 : Int) := nI_toInt (by omega)
          have nn_k0 : tn (nI k0) = k0 := tn_nI (by omega)
          refine aw_aload_n 1 dX9_sight_60 rfl rfl ?_
          refine aw_get fX9_59 dX9_sight_61 h88 rfl ?_
          refine aw_aload_n 1 dX9_sight_64 rfl rfl ?_
          refine aw_get fX9_198 dX9_sight_65 h88 rfl ?_
          refine aw_iload_n 2 dX9_sight_68 rfl rfl ?_
          refine aw_iast ns (rfl) (by omega) (by decide) dX9_sight_69 h103 ?_
          rw [nA_u (f := th) (i := ns) (x := (nI t0)) (v := t0) (rfl)]
          refine aw_aload_n 1 dX9_sight_70 rfl rfl ?_
          refine aw_get fX9_62 dX9_sight_71 (gn (by decide) (h88)) rfl ?_
          refine aw_aload_n 1 dX9_sight_74 rfl rfl ?_
          refine aw_get fX9_198 dX9_sight_75 (gn (by decide) (h88)) rfl ?_
          refine aw_iload_n 3 dX9_sight_78 rfl rfl ?_
          refine aw_iast ns (rfl) (by omega) (by decide) dX9_sight_79 (gn (by decide) (h104)) ?_
          rw [nA_u (f := ot) (i := ns) (x := (nI p0)) (v := p0) (rfl)]
          refine aw_aload_n 1 dX9_sight_80 rfl rfl ?_
          refine aw_get fX9_65 dX9_sight_81 (gn (by decide) (gn (by decide) (h88))) rfl ?_
          refine aw_aload_n 1 dX9_sight_84 rfl rfl ?_
          refine aw_get fX9_198 dX9_sight_85 (gn (by decide) (gn (by decide) (h88))) rfl ?_
          refine aw_iload_n 4 dX9_sight_88 rfl rfl ?_
          refine aw_iast ns (rfl) (by omega) (by decide) dX9_sight_89 (gn (by decide) (gn (by decide) (h105))) ?_
          rw [nA_u (f := dy) (i := ns) (x := (nI d0)) (v := d0) (rfl)]
          refine aw_aload_n 1 dX9_sight_90 rfl rfl ?_
          refine aw_get fX9_68 dX9_sight_91 (gn (by decide) (gn (by decide) (gn (by decide) (h88)))) rfl ?_
          refine aw_aload_n 1 dX9_sight_94 rfl rfl ?_
          refine aw_get fX9_198 dX9_sight_95 (gn (by decide) (gn (by decide) (gn (by decide) (h88)))) rfl ?_
          refine aw_iload 5 dX9_sight_98 rfl ?_
          refine aw_iast ns (rfl) (by omega) (by decide) dX9_sight_100 (gn (by decide) (gn (by decide) (gn (by decide) (h106)))) ?_
          rw [nA_u (f := kn) (i := ns) (x := (nI k0)) (v := k0) (rfl)]
          refine aw_aload_n 1 dX9_sight_101 rfl rfl ?_
          refine aw_get fX9_71 dX9_sight_102 (gn (by decide) (gn (by decide) (gn (by decide) (gn (by decide) (h88))))) rfl ?_
          refine aw_aload_n 1 dX9_sight_105 rfl rfl ?_
          refine aw_get fX9_198 dX9_sight_106 (gn (by decide) (gn (by decide) (gn (by decide) (gn (by decide) (h88))))) rfl ?_
          refine aw_ldc (1000000000) kX9_201 dX9_sight_109 ?_
          refine aw_iast ns (rfl) (by omega) (by decide) dX9_sight_111 (gn (by decide) (gn (by decide) (gn (by decide) (gn (by decide) (h107))))) ?_
          rw [nA_u (f := (gM go)) (i := ns) (x := 1000000000) (v := 1000000000) (rfl)]
          refine aw_aload_n 1 dX9_sight_112 rfl rfl ?_
          refine aw_dup dX9_sight_113 rfl ?_
          refine aw_get fX9_198 dX9_sight_114 (gn (by decide) (gn (by decide) (gn (by decide) (gn (by decide) (gn (by decide) (h88)))))) rfl ?_
          refine aw_iconst (1) dX9_sight_117 (by decide) ?_
          refine aw_iadd dX9_sight_118 ?_
          refine aw_toe (nI (ns + 1)) (nv_add (rfl) (rfl)) ?_
          refine aw_putQ fX9_198 dX9_sight_119 (lM G (nI sp) (nI fa) (nI nb) (nI (ns + 1)) (nI nm) ho ow sl (nI nv) (nI sh)) (gn (by decide) (gn (by decide) (gn (by decide) (gn (by decide) (gn (by decide) (h88)))))) rfl rfl rfl (Nat.le_of_ble_eq_true rfl) rfl ?_
          refine aw_aload_n 1 dX9_sight_122 rfl rfl ?_
          refine aw_get fX9_198 dX9_sight_123 (gs (gn (by decide) (gn (by decide) (gn (by decide) (gn (by decide) (gn (by decide) (h88))))))) rfl ?_
          refine aw_iconst (1) dX9_sight_126 (by decide) ?_
          refine aw_isub dX9_sight_127 ?_
          refine aw_toe (nI ns) (nv_p1 (rfl)) ?_
          subst hQF
          have eS : (spSight ns (nI t0) (nI p0) (nI d0) (nI k0)) = (nI ns) := by unfold spSight; (repeat' split) <;> first | (exfalso; omega) | rfl | contradiction
          have ok9 : 0 ≤ (spSight ns (nI t0) (nI p0) (nI d0) (nI k0)).toInt := by rw [eS, nI_toInt (by omega)]; omega
          exact aw_iret rfl dX9_sight_128 (by decide) (by decide) ⟨by rw [eS], _, by rw [spN_y ok9]; exact (gs (gn (by decide) (gn (by decide) (gn (by decide) (gn (by decide) (gn (by decide) (h88))))))), by rw [spUn_y ok9, nn_t0]; exact (gn (by decide) (gn (by decide) (gn (by decide) (gn (by decide) (gn (by decide) (gs h103)))))), by rw [spUn_y ok9, nn_p0]; exact (gn (by decide) (gn (by decide) (gn (by decide) (gn (by decide) (gs (gn (by decide) (h104))))))), by rw [spUn_y ok9, nn_d0]; exact (gn (by decide) (gn (by decide) (gn (by decide) (gs (gn (by decide) (gn (by decide) (h105))))))), by rw [spUn_y ok9, nn_k0]; exact (gn (by decide) (gn (by decide) (gs (gn (by decide) (gn (by decide) (gn (by decide) (h106))))))), by rw [spUn_y ok9, ← gM_n]; exact (gn (by decide) (gs (gn (by decide) (gn (by decide) (gn (by decide) (gn (by decide) (h107))))))), (gn (by decide) (gn (by decide) (gn (by decide) (gn (by decide) (gn (by decide) (gn (by decide) (h89))))))), rg2_set (rg2_set (rg2_set (rg2_set (rg2_set (rg2_set (rg2_rf 88 89 103 107 h) (by decide)) (by decide)) (by decide)) (by decide)) (by decide)) (by decide)⟩
        · have d41 := (nv_eq (a := ns) (b := 60) (rfl) (rfl) (by omega) (by omega)).mp c41
          refine aw_bipush (-6) dX9_sight_44 (by decide) ?_
          refine aw_istore [(5, .int (-6)), (0, .ref (G.1 + 88)), (1, .int t), (2, .int p), (3, .int d), (4, .int k)] dX9_sight_46 (by decide) rfl ?_
          refine aw_iload 0 dX9_sight_48 rfl ?_
          refine aw_if_eq 60 dX9_sight_50 (by decide) (fun c50 => absurd c50 (by decide)) (fun c50 => ?_)
          refine aw_aload_n 1 dX9_sight_53 rfl rfl ?_
          refine aw_iload 0 dX9_sight_54 rfl ?_
          refine aw_eV [.int (-6)] [] lX9_130 vX9_refuse mX9_refuse dX9_sight_56 (bX9_refuse (sp := sp) (fa := fa) (nb := nb) (ns := ns) (nm := nm) (nv := nv) (sh := sh) (ho := ho) (ow := ow) (sl := sl) (rg := rg) (x := (-6)) (q := 6) h88 h89 (by decide) (by decide)) h88 rfl rfl rfl (Nat.le_of_ble_eq_true rfl) (by decide) (by decide) rfl (fun h1731 q1730 => ?_)
          obtain ⟨rg11729, f1732, k1733⟩ := q1730
          have f1734 := rng_at k1733 (by decide) h88
          have f1735 := rng_at k1733 (by decide) h103
          have f1736 := rng_at k1733 (by decide) h104
          have f1737 := rng_at k1733 (by decide) h105
          have f1738 := rng_at k1733 (by decide) h106
          have f1739 := rng_at k1733 (by decide) h107
          subst hQF
          have eS : (spSight ns t p d k) = (-6) := by unfold spSight; (repeat' split) <;> first | (exfalso; omega) | rfl | contradiction
          have ok9 : ¬ 0 ≤ (spSight ns t p d k).toInt := by rw [eS]; decide
          exact aw_iret rfl dX9_sight_59 (by decide) (by decide) ⟨by rw [eS], _, by rw [spN_n ok9]; exact f1734, by rw [spUn_n ok9]; exact f1735, by rw [spUn_n ok9]; exact f1736, by rw [spUn_n ok9]; exact f1737, by rw [spUn_n ok9]; exact f1738, by rw [spUn_n ok9]; exact f1739, f1732, rg2_tr (rg2_rf 88 89 103 107 h) (rg2_w k1733 (by decide))⟩
