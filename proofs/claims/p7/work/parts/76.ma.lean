set_option maxHeartbeats 4000000 in
theorem oX9_visitor {l : Launch} {G : xG} {h : List va_E} {sp fa nb ns nm nv sh : Nat} {ho ow sl : Int32} {rg : Nat → Int32} {so xx tr : Nat → Nat} {yM : Nat → Int32} {s x y t : Int32} (h88 : h[88]? = some (oB 9 (lM G (nI sp) (nI fa) (nI nb) (nI ns) (nI nm) ho ow sl (nI nv) (nI sh)))) (h89 : h[89]? = some (aI 7 rg)) (h116 : h[116]? = some (aI 40 (nA so))) (h117 : h[117]? = some (aI 40 (nA xx))) (h118 : h[118]? = some (aI 40 yM)) (h119 : h[119]? = some (aI 40 (nA tr))) (hn : nv ≤ 40) : CE l G yX9_visitor cX9_visitor 5 (some .int) 2 0 0 [.ref (G.1 + 88), .int s, .int x, .int y, .int t] h (some (.int (spVis nv s x y t))) (fun h1 => ∃ rg1 : Nat → Int32, h1[88]? = some (oB 9 (lM G (nI sp) (nI fa) (nI nb) (nI ns) (nI nm) ho ow sl (nI (spN (0 ≤ (spVis nv s x y t).toInt) nv (nv + 1))) (nI sh))) ∧ h1[116]? = some (aI 40 (nA (spUn (0 ≤ (spVis nv s x y t).toInt) so nv (tn s)))) ∧ h1[117]? = some (aI 40 (nA (spUn (0 ≤ (spVis nv s x y t).toInt) xx nv (tn x)))) ∧ h1[118]? = some (aI 40 (spUi (0 ≤ (spVis nv s x y t).toInt) yM nv y)) ∧ h1[119]? = some (aI 40 (nA (spUn (0 ≤ (spVis nv s x y t).toInt) tr nv (tn t)))) ∧ h1[89]? = some (aI 7 rg1) ∧ rg2 88 89 116 119 h h1) := by
  refine cm_ofQ rfl (Nat.le_of_ble_eq_true rfl) [(0, .ref (G.1 + 88)), (1, .int s), (2, .int x), (3, .int y), (4, .int t)] rfl (fun QF hQF => ?_)
  refine aw_iload_n 1 dX9_visitor_0 rfl rfl ?_
  refine aw_iconst (4) dX9_visitor_1 (by decide) ?_
  refine aw_dS [.int s, .int 4] [] lX9_126 sX9_isIn mX9_isIn dX9_visitor_2 (bX9_isIn (x := s) (n := 4) (by omega)) rfl (Nat.le_of_ble_eq_true rfl) (by decide) (by decide) rfl ?_
  refine aw_if_ne 15 dX9_visitor_5 (by decide) (fun c5 => ?_) (fun c5 => ?_)
  · have t5 := ite_1 c5
    refine aw_iload_n 2 dX9_visitor_15 rfl rfl ?_
    refine aw_bipush (12) dX9_visitor_16 (by decide) ?_
    refine aw_dS [.int x, .int 12] [] lX9_126 sX9_isIn mX9_isIn dX9_visitor_18 (bX9_isIn (x := x) (n := 12) (by omega)) rfl (Nat.le_of_ble_eq_true rfl) (by decide) (by decide) rfl ?_
    refine aw_if_eq 43 dX9_visitor_21 (by decide) (fun c21 => ?_) (fun c21 => ?_)
    · have t21 := ite_0 c21
      refine aw_aload_n 0 dX9_visitor_43 rfl rfl ?_
      refine aw_iconst (-1) dX9_visitor_44 (by decide) ?_
      refine aw_eV [.int (-1)] [] lX9_130 vX9_refuse mX9_refuse dX9_visitor_45 (bX9_refuse (sp := sp) (fa := fa) (nb := nb) (ns := ns) (nm := nm) (nv := nv) (sh := sh) (ho := ho) (ow := ow) (sl := sl) (rg := rg) (x := (-1)) (q := 1) h88 h89 (by decide) (by decide)) h88 rfl rfl rfl (Nat.le_of_ble_eq_true rfl) (by decide) (by decide) rfl (fun h1597 q1596 => ?_)
      obtain ⟨rg11595, f1598, k1599⟩ := q1596
      have f1600 := rng_at k1599 (by decide) h88
      have f1601 := rng_at k1599 (by decide) h116
      have f1602 := rng_at k1599 (by decide) h117
      have f1603 := rng_at k1599 (by decide) h118
      have f1604 := rng_at k1599 (by decide) h119
      subst hQF
      have eS : (spVis nv s x y t) = (-1) := by unfold spVis; (repeat' split) <;> first | (exfalso; omega) | rfl
      have ok9 : ¬ 0 ≤ (spVis nv s x y t).toInt := by rw [eS]; decide
      exact aw_iret rfl dX9_visitor_48 (by decide) (by decide) ⟨by rw [eS], _, by rw [spN_n ok9]; exact f1600, by rw [spUn_n ok9]; exact f1601, by rw [spUn_n ok9]; exact f1602, by rw [spUi_n ok9]; exact f1603, by rw [spUn_n ok9]; exact f1604, f1598, rg2_tr (rg2_rf 88 89 116 119 h) (rg2_w k1599 (by decide))⟩
    · have t21 := ite_1 c21
      refine aw_iload_n 1 dX9_visitor_24 rfl rfl ?_
      refine aw_iconst (2) dX9_visitor_25 (by decide) ?_
      refine aw_icmp_ge 49 dX9_visitor_26 (by decide) (fun c26 => ?_) (fun c26 => ?_)
      · have d26 := (j_le (a := (2)) (b := s.toInt) (rfl) (rfl)).mp c26
        refine aw_iload 4 dX9_visitor_49 rfl ?_
        refine aw_iconst (1) dX9_visitor_51 (by decide) ?_
        refine aw_icmp_ge 62 dX9_visitor_52 (by decide) (fun c52 => ?_) (fun c52 => ?_)
        · have d52 := (j_le (a := (1)) (b := t.toInt) (rfl) (rfl)).mp c52
          refine aw_iload 4 dX9_visitor_62 rfl ?_
          refine aw_bipush (9) dX9_visitor_64 (by decide) ?_
          refine aw_icmp_gt 78 dX9_visitor_66 (by decide) (fun c66 => ?_) (fun c66 => ?_)
          · have d66 := (j_lt (a := (9)) (b := t.toInt) (rfl) (rfl)).mp c66
            refine aw_aload_n 0 dX9_visitor_78 rfl rfl ?_
            refine aw_bipush (-6) dX9_visitor_79 (by decide) ?_
            refine aw_eV [.int (-6)] [] lX9_130 vX9_refuse mX9_refuse dX9_visitor_81 (bX9_refuse (sp := sp) (fa := fa) (nb := nb) (ns := ns) (nm := nm) (nv := nv) (sh := sh) (ho := ho) (ow := ow) (sl := sl) (rg := rg) (x := (-6)) (q := 6) h88 h89 (by decide) (by decide)) h88 rfl rfl rfl (Nat.le_of_ble_eq_true rfl) (by decide) (by decide) rfl (fun h1607 q1606 => ?_)
            obtain ⟨rg11605, f1608, k1609⟩ := q1606
            have f1610 := rng_at k1609 (by decide) h88
            have f1611 := rng_at k1609 (by decide) h116
            have f1612 := rng_at k1609 (by decide) h117
            have f1613 := rng_at k1609 (by decide) h118
            have f1614 := rng_at k1609 (by decide) h119
            subst hQF
            have eS : (spVis nv s x y t) = (-6) := by unfold spVis; (repeat' split) <;> first | (exfalso; omega) | rfl
            have ok9 : ¬ 0 ≤ (spVis nv s x y t).toInt := by rw [eS]; decide
            exact aw_iret rfl dX9_visitor_84 (by decide) (by decide) ⟨by rw [eS], _, by rw [spN_n ok9]; exact f1610, by rw [spUn_n ok9]; exact f1611, by rw [spUn_n ok9]; exact f1612, by rw [spUi_n ok9]; exact f1613, by rw [spUn_n ok9]; exact f1614, f1608, rg2_tr (rg2_rf 88 89 116 119 h) (rg2_w k1609 (by decide))⟩
          · have d66 := mt (j_lt (a := (9)) (b := t.toInt) (rfl) (rfl)).mpr c66
            refine aw_aload_n 0 dX9_visitor_69 rfl rfl ?_
            refine aw_get fX9_227 dX9_visitor_70 h88 rfl ?_
            refine aw_bipush (40) dX9_visitor_73 (by decide) ?_
            refine aw_icmp_ne 85 dX9_visitor_75 (by decide) (fun c75 => ?_) (fun c75 => ?_)
            · have d75 := mt (nv_eq (a := nv) (b := 40) (rfl) (rfl) (by omega) (by omega)).mpr c75
              obtain ⟨s0, bb_s0, ee_s0⟩ := i_nat (x := s) (N := 4) (by omega) (by omega)
              subst ee_s0
              have tt_s0 : (nI s0).toInt = (s0 : Int) := nI_toInt (by omega)
              have nn_s0 : tn (nI s0) = s0 := tn_nI (by omega)
              obtain ⟨x0, bb_x0, ee_x0⟩ := i_nat (x := x) (N := 12) (by omega) (by omega)
              subst ee_x0
              have tt_x0 : (nI x0).toInt = (x0 : Int) := nI_toInt (by omega)
              have nn_x0 : tn (nI x0) = x0 := tn_nI (by omega)
              obtain ⟨t0, bb_t0, ee_t0⟩ := i_nat (x := t) (N := 10) (by omega) (by omega)
              subst ee_t0
              have tt_t0 : (nI t0).toInt = (t0 : Int) := nI_toInt (by omega)
              have nn_t0 : tn (nI t0) = t0 := tn_nI (by omega)
              refine aw_aload_n 0 dX9_visitor_85 rfl rfl ?_
              refine aw_get fX9_98 dX9_visitor_86 h88 rfl ?_
              refine aw_aload_n 0 dX9_visitor_89 rfl rfl ?_
              refine aw_get fX9_227 dX9_visitor_90 h88 rfl ?_
              refine aw_iload_n 1 dX9_visitor_93 rfl rfl ?_
              refine aw_iast nv (rfl) (by omega) (by decide) dX9_visitor_94 h116 ?_
              rw [nA_u (f := so) (i := nv) (x := (nI s0)) (v := s0) (rfl)]
              refine aw_aload_n 0 dX9_visitor_95 rfl rfl ?_
              refine aw_get fX9_101 dX9_visitor_96 (gn (by decide) (h88)) rfl ?_
              refine aw_aload_n 0 dX9_visitor_99 rfl rfl ?_
              refine aw_get fX9_227 dX9_visitor_100 (gn (by decide) (h88)) rfl ?_
              refine aw_iload_n 2 dX9_visitor_103 rfl rfl ?_
              refine aw_iast nv (rfl) (by omega) (by decide) dX9_visitor_104 (gn (by decide) (h117)) ?_
              rw [nA_u (f := xx) (i := nv) (x := (nI x0)) (v := x0) (rfl)]
              refine aw_aload_n 0 dX9_visitor_105 rfl rfl ?_
              refine aw_get fX9_104 dX9_visitor_106 (gn (by decide) (gn (by decide) (h88))) rfl ?_
              refine aw_aload_n 0 dX9_visitor_109 rfl rfl ?_
              refine aw_get fX9_227 dX9_visitor_110 (gn (by decide) (gn (by decide) (h88))) rfl ?_
              refine aw_iload_n 3 dX9_visitor_113 rfl rfl ?_
              refine aw_iast nv (rfl) (by omega) (by decide) dX9_visitor_114 (gn (by decide) (gn (by decide) (h118))) ?_
              refine aw_aload_n 0 dX9_visitor_115 rfl rfl ?_
              refine aw_get fX9_107 dX9_visitor_116 (gn (by decide) (gn (by decide) (gn (by decide) (h88)))) rfl ?_
              refine aw_aload_n 0 dX9_visitor_119 rfl rfl ?_
              refine aw_get fX9_227 dX9_visitor_120 (gn (by decide) (gn (by decide) (gn (by decide) (h88)))) rfl ?_
              refine aw_iload 4 dX9_visitor_123 rfl ?_
              refine aw_iast nv (rfl) (by omega) (by decide) dX9_visitor_125 (gn (by decide) (gn (by decide) (gn (by decide) (h119)))) ?_
              rw [nA_u (f := tr) (i := nv) (x := (nI t0)) (v := t0) (rfl)]
              refine aw_aload_n 0 dX9_visitor_126 rfl rfl ?_
              refine aw_dup dX9_visitor_127 rfl ?_
              refine aw_get fX9_227 dX9_visitor_128 (gn (by decide) (gn (by decide) (gn (by decide) (gn (by decide) (h88))))) rfl ?_
              refine aw_iconst (1) dX9_visitor_131 (by decide) ?_
              refine aw_iadd dX9_visitor_132 ?_
              refine aw_toe (nI (nv + 1)) (nv_add (rfl) (rfl)) ?_
              refine aw_putQ fX9_227 dX9_visitor_133 (lM G (nI sp) (nI fa) (nI nb) (nI ns) (nI nm) ho ow sl (nI (nv + 1)) (nI sh)) (gn (by decide) (gn (by decide) (gn (by decide) (gn (by decide) (h88))))) rfl rfl rfl (Nat.le_of_ble_eq_true rfl) rfl ?_
              refine aw_aload_n 0 dX9_visitor_136 rfl rfl ?_
              refine aw_get fX9_227 dX9_visitor_137 (gs (gn (by decide) (gn (by decide) (gn (by decide) (gn (by decide) (h88)))))) rfl ?_
              refine aw_iconst (1) dX9_visitor_140 (by decide) ?_
              refine aw_isub dX9_visitor_141 ?_
              refine aw_toe (nI nv) (nv_p1 (rfl)) ?_
              subst hQF
              have eS : (spVis nv (nI s0) (nI x0) y (nI t0)) = (nI nv) := by unfold spVis; (repeat' split) <;> first | (exfalso; omega) | rfl
              have ok9 : 0 ≤ (spVis nv (nI s0) (nI x0) y (nI t0)).toInt := by rw [eS, nI_toInt (by omega)]; omega
              exact aw_iret rfl dX9_visitor_142 (by decide) (by decide) ⟨by rw [eS], _, by rw [spN_y ok9]; exact (gs (gn (by decide) (gn (by decide) (gn (by decide) (gn (by decide) (h88)))))), by rw [spUn_y ok9, nn_s0]; exact (gn (by decide) (gn (by decide) (gn (by decide) (gn (by decide) (gs h116))))), by rw [spUn_y ok9, nn_x0]; exact (gn (by decide) (gn (by decide) (gn (by decide) (gs (gn (by decide) (h117)))))), by rw [spUi_y ok9]; exact (gn (by decide) (gn (by decide) (gs (gn (by decide) (gn (by decide) (h118)))))), by rw [spUn_y ok9, nn_t0]; exact (gn (by decide) (gs (gn (by decide) (gn (by decide) (gn (by decide) (h119)))))), (gn (by decide) (gn (by decide) (gn (by decide) (gn (by decide) (gn (by decide) (h89)))))), rg2_set (rg2_set (rg2_set (rg2_set (rg2_set (rg2_rf 88 89 116 119 h) (by decide)) (by decide)) (by decide)) (by decide)) (by decide)⟩
            · have d75 := (nv_eq (a := nv) (b := 40) (rfl) (rfl) (by omega) (by omega)).mp c75
              refine aw_aload_n 0 dX9_visitor_78 rfl rfl ?_
              refine aw_bipush (-6) dX9_visitor_79 (by decide) ?_
              refine aw_eV [.int (-6)] [] lX9_130 vX9_refuse mX9_refuse dX9_visitor_81 (bX9_refuse (sp := sp) (fa := fa) (nb := nb) (ns := ns) (nm := nm) (nv := nv) (sh := sh) (ho := ho) (ow := ow) (sl := sl) (rg := rg) (x := (-6)) (q := 6) h88 h89 (by decide) (by decide)) h88 rfl rfl rfl (Nat.le_of_ble_eq_true rfl) (by decide) (by decide) rfl (fun h1617 q1616 => ?_)
              obtain ⟨rg11615, f1618, k1619⟩ := q1616
              have f1620 := rng_at k1619 (by decide) h88
              have f1621 := rng_at k1619 (by decide) h116
              have f1622 := rng_at k1619 (by decide) h117
              have f1623 := rng_at k1619 (by decide) h118
              have f1624 := rng_at k1619 (by decide) h119
              subst hQF
              have eS : (spVis nv s x y t) = (-6) := by unfold spVis; (repeat' split) <;> first | (exfalso; omega) | rfl
              have ok9 : ¬ 0 ≤ (spVis nv s x y t).toInt := by rw [eS]; decide
              exact aw_iret rfl dX9_visitor_84 (by decide) (by decide) ⟨by rw [eS], _, by rw [spN_n ok9]; exact f1620, by rw [spUn_n ok9]; exact f1621, by rw [spUn_n ok9]; exact f1622, by rw [spUi_n ok9]; exact f1623, by rw [spUn_n ok9]; exact f1624, f1618, rg2_tr (rg2_rf 88 89 116 119 h) (rg2_w k1619 (by decide))⟩
        · have d52 := mt (j_le (a := (1)) (b := t.toInt) (rfl) (rfl)).mpr c52
          refine aw_aload_n 0 dX9_visitor_55 rfl rfl ?_
          refine aw_bipush (-4) dX9_visitor_56 (by decide) ?_
          refine aw_eV [.int (-4)] [] lX9_130 vX9_refuse mX9_refuse dX9_visitor_58 (bX9_refuse (sp := sp) (fa := fa) (nb := nb) (ns := ns) (nm := nm) (nv := nv) (sh := sh) (ho := ho) (ow := ow) (sl := sl) (rg := rg) (x := (-4)) (q := 4) h88 h89 (by decide) (by decide)) h88 rfl rfl rfl (Nat.le_of_ble_eq_true rfl) (by decide) (by decide) rfl (fun h1627 q1626 => ?_)
          obtain ⟨rg11625, f1628, k1629⟩ := q1626
          have f1630 := rng_at k1629 (by decide) h88
          have f1631 := rng_at k1629 (by decide) h116
          have f1632 := rng_at k1629 (by decide) h117
          have f1633 := rng_at k1629 (by decide) h118
          have f1634 := rng_at k1629 (by decide) h119
          subst hQF
          have eS : (spVis nv s x y t) = (-4) := by unfold spVis; (repeat' split) <;> first | (exfalso; omega) | rfl
          have ok9 : ¬ 0 ≤ (spVis nv s x y t).toInt := by rw [eS]; decide
          exact aw_iret rfl dX9_visitor_61 (by decide) (by decide) ⟨by rw [eS], _, by rw [spN_n ok9]; exact f1630, by rw [spUn_n ok9]; exact f1631, by rw [spUn_n ok9]; exact f1632, by rw [spUi_n ok9]; exact f1633, by rw [spUn_n ok9]; exact f1634, f1628, rg2_tr (rg2_rf 88 89 116 119 h) (rg2_w k1629 (by decide))⟩
      · have d26 := mt (j_le (a := (2)) (b := s.toInt) (rfl) (rfl)).mpr c26
        refine aw_iload_n 3 dX9_visitor_29 rfl rfl ?_
        refine aw_bipush (12) dX9_visitor_30 (by decide) ?_
        refine aw_dS [.int y, .int 12] [] lX9_126 sX9_isIn mX9_isIn dX9_visitor_32 (bX9_isIn (x := y) (n := 12) (by omega)) rfl (Nat.le_of_ble_eq_true rfl) (by decide) (by decide) rfl ?_
        refine aw_if_eq 43 dX9_visitor_35 (by decide) (fun c35 => ?_) (fun c35 => ?_)
        · have t35 := ite_0 c35
          refine aw_aload_n 0 dX9_visitor_43 rfl rfl ?_
          refine aw_iconst (-1) dX9_visitor_44 (by decide) ?_
          refine aw_eV [.int (-1)] [] lX9_130 vX9_refuse mX9_refuse dX9_visitor_45 (bX9_refuse (sp := sp) (fa := fa) (nb := nb) (ns := ns) (nm := nm) (nv := nv) (sh := sh) (ho := ho) (ow := ow) (sl := sl) (rg := rg) (x := (-1)) (q := 1) h88 h89 (by decide) (by decide)) h88 rfl rfl rfl (Nat.le_of_ble_eq_true rfl) (by decide) (by decide) rfl (fun h1637 q1636 => ?_)
          obtain ⟨rg11635, f1638, k1639⟩ := q1636
          have f1640 := rng_at k1639 (by decide) h88
          have f1641 := rng_at k1639 (by decide) h116
          have f1642 := rng_at k1639 (by decide) h117
          have f1643 := rng_at k1639 (by decide) h118
          have f1644 := rng_at k1639 (by decide) h119
          subst hQF
          have eS : (spVis nv s x y t) = (-1) := by unfold spVis; (repeat' split) <;> first | (exfalso; omega) | rfl
          have ok9 : ¬ 0 ≤ (spVis nv s x y t).toInt := by rw [eS]; decide
          exact aw_iret rfl dX9_visitor_48 (by decide) (by decide) ⟨by rw [eS], _, by rw [spN_n ok9]; exact f1640, by rw [spUn_n ok9]; exact f1641, by rw [spUn_n ok9]; exact f1642, by rw [spUi_n ok9]; exact f1643, by rw [spUn_n ok9]; exact f1644, f1638, rg2_tr (rg2_rf 88 89 116 119 h) (rg2_w k1639 (by decide))⟩
        · have t35 := ite_1 c35
          refine aw_iload_n 2 dX9_visitor_38 rfl rfl ?_
          refine aw_iload_n 3 dX9_visitor_39 rfl rfl ?_
          refine aw_icmp_ne 49 dX9_visitor_40 (by decide) (fun c40 => ?_) (fun c40 => ?_)
          · have d40 := mt (j_eq (a := x.toInt) (b := y.toInt) (rfl) (rfl)).mpr c40
            refine aw_iload 4 dX9_visitor_49 rfl ?_
            refine aw_iconst (1) dX9_visitor_51 (by decide) ?_
            refine aw_icmp_ge 62 dX9_visitor_52 (by decide) (fun c52 => ?_) (fun c52 => ?_)
            · have d52 := (j_le (a := (1)) (b := t.toInt) (rfl) (rfl)).mp c52
              refine aw_iload 4 dX9_visitor_62 rfl ?_
              refine aw_bipush (9) dX9_visitor_64 (by decide) ?_
              refine aw_icmp_gt 78 dX9_visitor_66 (by decide) (fun c66 => ?_) (fun c66 => ?_)
              · have d66 := (j_lt (a := (9)) (b := t.toInt) (rfl) (rfl)).mp c66
                refine aw_aload_n 0 dX9_visitor_78 rfl rfl ?_
                refine aw_bipush (-6) dX9_visitor_79 (by decide) ?_
                refine aw_eV [.int (-6)] [] lX9_130 vX9_refuse mX9_refuse dX9_visitor_81 (bX9_refuse (sp := sp) (fa := fa) (nb := nb) (ns := ns) (nm := nm) (nv := nv) (sh := sh) (ho := ho) (ow := ow) (sl := sl) (rg := rg) (x := (-6)) (q := 6) h88 h89 (by decide) (by decide)) h88 rfl rfl rfl (Nat.le_of_ble_eq_true rfl) (by decide) (by decide) rfl (fun h1647 q1646 => ?_)
                obtain ⟨rg11645, f1648, k1649⟩ := q1646
                have f1650 := rng_at k1649 (by decide) h88
                have f1651 := rng_at k1649 (by decide) h116
                have f1652 := rng_at k1649 (by decide) h117
                have f1653 := rng_at k1649 (by decide) h118
                have f1654 := rng_at k1649 (by decide) h119
                subst hQF
                have eS : (spVis nv s x y t) = (-6) := by unfold spVis; (repeat' split) <;> first | (exfalso; omega) | rfl
                have ok9 : ¬ 0 ≤ (spVis nv s x y t).toInt := by rw [eS]; decide
                exact aw_iret rfl dX9_visitor_84 (by decide) (by decide) ⟨by rw [eS], _, by rw [spN_n ok9]; exact f1650, by rw [spUn_n ok9]; exact f1651, by rw [spUn_n ok9]; exact f1652, by rw [spUi_n ok9]; exact f1653, by rw [spUn_n ok9]; exact f1654, f1648, rg2_tr (rg2_rf 88 89 116 119 h) (rg2_w k1649 (by decide))⟩
              · have d66 := mt (j_lt (a := (9)) (b := t.toInt) (rfl) (rfl)).mpr c66
                refine aw_aload_n 0 dX9_visitor_69 rfl rfl ?_
                refine aw_get fX9_227 dX9_visitor_70 h88 rfl ?_
                refine aw_bipush (40) dX9_visitor_73 (by decide) ?_
                refine aw_icmp_ne 85 dX9_visitor_75 (by decide) (fun c75 => ?_) (fun c75 => ?_)
                · have d75 := mt (nv_eq (a := nv) (b := 40) (rfl) (rfl) (by omega) (by omega)).mpr c75
                  obtain ⟨s0, bb_s0, ee_s0⟩ := i_nat (x := s) (N := 4) (by omega) (by omega)
                  subst ee_s0
                  have tt_s0 : (nI s0).toInt = (s0 : Int) := nI_toInt (by omega)
                  have nn_s0 : tn (nI s0) = s0 := tn_nI (by omega)
                  obtain ⟨x0, bb_x0, ee_x0⟩ := i_nat (x := x) (N := 12) (by omega) (by omega)
                  subst ee_x0
                  have tt_x0 : (nI x0).toInt = (x0 : Int) := nI_toInt (by omega)
                  have nn_x0 : tn (nI x0) = x0 := tn_nI (by omega)
                  obtain ⟨t0, bb_t0, ee_t0⟩ := i_nat (x := t) (N := 10) (by omega) (by omega)
                  subst ee_t0
                  have tt_t0 : (nI t0).toInt = (t0 : Int) := nI_toInt (by omega)
                  have nn_t0 : tn (nI t0) = t0 := tn_nI (by omega)
                  refine aw_aload_n 0 dX9_visitor_85 rfl rfl ?_
                  refine aw_get fX9_98 dX9_visitor_86 h88 rfl ?_
                  refine aw_aload_n 0 dX9_visitor_89 rfl rfl ?_
                  refine aw_get fX9_227 dX9_visitor_90 h88 rfl ?_
                  refine aw_iload_n 1 dX9_visitor_93 rfl rfl ?_
                  refine aw_iast nv (rfl) (by omega) (by decide) dX9_visitor_94 h116 ?_
                  rw [nA_u (f := so) (i := nv) (x := (nI s0)) (v := s0) (rfl)]
                  refine aw_aload_n 0 dX9_visitor_95 rfl rfl ?_
                  refine aw_get fX9_101 dX9_visitor_96 (gn (by decide) (h88)) rfl ?_
                  refine aw_aload_n 0 dX9_visitor_99 rfl rfl ?_
                  refine aw_get fX9_227 dX9_visitor_100 (gn (by decide) (h88)) rfl ?_
                  refine aw_iload_n 2 dX9_visitor_103 rfl rfl ?_
                  refine aw_iast nv (rfl) (by omega) (by decide) dX9_visitor_104 (gn (by decide) (h117)) ?_
                  rw [nA_u (f := xx) (i := nv) (x := (nI x0)) (v := x0) (rfl)]
                  refine aw_aload_n 0 dX9_visitor_105 rfl rfl ?_
                  refine aw_get fX9_104 dX9_visitor_106 (gn (by decide) (gn (by decide) (h88))) rfl ?_
                  refine aw_aload_n 0 dX9_visitor_109 rfl rfl ?_
                  refine aw_get fX9_227 dX9_visitor_110 (gn (by decide) (gn (by decide) (h88))) rfl ?_
                  refine aw_iload_n 3 dX9_visitor_113 rfl rfl ?_
                  refine aw_iast nv (rfl) (by omega) (by decide) dX9_visitor_114 (gn (by decide) (gn (by decide) (h118))) ?_
                  refine aw_aload_n 0 dX9_visitor_115 rfl rfl ?_
                  refine aw_get fX9_107 dX9_visitor_116 (gn (by decide) (gn (by decide) (gn (by decide) (h88)))) rfl ?_
                  refine aw_aload_n 0 dX9_visitor_119 rfl rfl ?_
                  refine aw_get fX9_227 dX9_visitor_120 (gn (by decide) (gn (by decide) (gn (by decide) (h88)))) rfl ?_
                  refine aw_iload 4 dX9_visitor_123 rfl ?_
                  refine aw_iast nv (rfl) (by omega) (by decide) dX9_visitor_125 (gn (by decide) (gn (by decide) (gn (by decide) (h119)))) ?_
                  rw [nA_u (f := tr) (i := nv) (x := (nI t0)) (v := t0) (rfl)]
                  refine aw_aload_n 0 dX9_visitor_126 rfl rfl ?_
                  refine aw_dup dX9_visitor_127 rfl ?_
                  refine aw_get fX9_227 dX9_visitor_128 (gn (by decide) (gn (by decide) (gn (by decide) (gn (by decide) (h88))))) rfl ?_
                  refine aw_iconst (1) dX9_visitor_131 (by decide) ?_
                  refine aw_iadd dX9_visitor_132 ?_
                  refine aw_toe (nI (nv + 1)) (nv_add (rfl) (rfl)) ?_
                  refine aw_putQ fX9_227 dX9_visitor_133 (lM G (nI sp) (nI fa) (nI nb) (nI ns) (nI nm) ho ow sl (nI (nv + 1)) (nI sh)) (gn (by decide) (gn (by decide) (gn (by decide) (gn (by decide) (h88))))) rfl rfl rfl (Nat.le_of_ble_eq_true rfl) rfl ?_
                  refine aw_aload_n 0 dX9_visitor_136 rfl rfl ?_
                  refine aw_get fX9_227 dX9_visitor_137 (gs (gn (by decide) (gn (by decide) (gn (by decide) (gn (by decide) (h88)))))) rfl ?_
                  refine aw_iconst (1) dX9_visitor_140 (by decide) ?_
                  refine aw_isub dX9_visitor_141 ?_
                  refine aw_toe (nI nv) (nv_p1 (rfl)) ?_
                  subst hQF
                  have eS : (spVis nv (nI s0) (nI x0) y (nI t0)) = (nI nv) := by unfold spVis; (repeat' split) <;> first | (exfalso; omega) | rfl
                  have ok9 : 0 ≤ (spVis nv (nI s0) (nI x0) y (nI t0)).toInt := by rw [eS, nI_toInt (by omega)]; omega
                  exact aw_iret rfl dX9_visitor_142 (by decide) (by decide) ⟨by rw [eS], _, by rw [spN_y ok9]; exact (gs (gn (by decide) (gn (by decide) (gn (by decide) (gn (by decide) (h88)))))), by rw [spUn_y ok9, nn_s0]; exact (gn (by decide) (gn (by decide) (gn (by decide) (gn (by decide) (gs h116))))), by rw [spUn_y ok9, nn_x0]; exact (gn (by decide) (gn (by decide) (gn (by decide) (gs (gn (by decide) (h117)))))), by rw [spUi_y ok9]; exact (gn (by decide) (gn (by decide) (gs (gn (by decide) (gn (by decide) (h118)))))), by rw [spUn_y ok9, nn_t0]; exact (gn (by decide) (gs (gn (by decide) (gn (by decide) (gn (by decide) (h119)))))), (gn (by decide) (gn (by decide) (gn (by decide) (gn (by decide) (gn (by decide) (h89)))))), rg2_set (rg2_set (rg2_set (rg2_set (rg2_set (rg2_rf 88 89 116 119 h) (by decide)) (by decide)) (by decide)) (by decide)) (by decide)⟩
                · have d75 := (nv_eq (a := nv) (b := 40) (rfl) (rfl) (by omega) (by omega)).mp c75
                  refine aw_aload_n 0 dX9_visitor_78 rfl rfl ?_
                  refine aw_bipush (-6) dX9_visitor_79 (by decide) ?_
                  refine aw_eV [.int (-6)] [] lX9_130 vX9_refuse mX9_refuse dX9_visitor_81 (bX9_refuse (sp := sp) (fa := fa) (nb := nb) (ns := ns) (nm := nm) (nv := nv) (sh := sh) (ho := ho) (ow := ow) (sl := sl) (rg := rg) (x := (-6)) (q := 6) h88 h89 (by decide) (by decide)) h88 rfl rfl rfl (Nat.le_of_ble_eq_true rfl) (by decide) (by decide) rfl (fun h1657 q1656 => ?_)
                  obtain ⟨rg11655, f1658, k1659⟩ := q1656
                  have f1660 := rng_at k1659 (by decide) h88
                  have f1661 := rng_at k1659 (by decide) h116
                  have f1662 := rng_at k1659 (by decide) h117
                  have f1663 := rng_at k1659 (by decide) h118
                  have f1664 := rng_at k1659 (by decide) h119
                  subst hQF
                  have eS : (spVis nv s x y t) = (-6) := by unfold spVis; (repeat' split) <;> first | (exfalso; omega) | rfl
                  have ok9 : ¬ 0 ≤ (spVis nv s x y t).toInt := by rw [eS]; decide
                  exact aw_iret rfl dX9_visitor_84 (by decide) (by decide) ⟨by rw [eS], _, by rw [spN_n ok9]; exact f1660, by rw [spUn_n ok9]; exact f1661, by rw [spUn_n ok9]; exact f1662, by rw [spUi_n ok9]; exact f1663, by rw [spUn_n ok9]; exact f1664, f1658, rg2_tr (rg2_rf 88 89 116 119 h) (rg2_w k1659 (by decide))⟩
            · have d52 := mt (j_le (a := (1)) (b := t.toInt) (rfl) (rfl)).mpr c52
              refine aw_aload_n 0 dX9_visitor_55 rfl rfl ?_
              refine aw_bipush (-4) dX9_visitor_56 (by decide) ?_
              refine aw_eV [.int (-4)] [] lX9_130 vX9_refuse mX9_refuse dX9_visitor_58 (bX9_refuse (sp := sp) (fa := fa) (nb := nb) (ns := ns) (nm := nm) (nv := nv) (sh := sh) (ho := ho) (ow := ow) (sl := sl) (rg := rg) (x := (-4)) (q := 4) h88 h89 (by decide) (by decide)) h88 rfl rfl rfl (Nat.le_of_ble_eq_true rfl) (by decide) (by decide) rfl (fun h1667 q1666 => ?_)
              obtain ⟨rg11665, f1668, k1669⟩ := q1666
              have f1670 := rng_at k1669 (by decide) h88
              have f1671 := rng_at k1669 (by decide) h116
              have f1672 := rng_at k1669 (by decide) h117
              have f1673 := rng_at k1669 (by decide) h118
              have f1674 := rng_at k1669 (by decide) h119
              subst hQF
              have eS : (spVis nv s x y t) = (-4) := by unfold spVis; (repeat' split) <;> first | (exfalso; omega) | rfl
              have ok9 : ¬ 0 ≤ (spVis nv s x y t).toInt := by rw [eS]; decide
              exact aw_iret rfl dX9_visitor_61 (by decide) (by decide) ⟨by rw [eS], _, by rw [spN_n ok9]; exact f1670, by rw [spUn_n ok9]; exact f1671, by rw [spUn_n ok9]; exact f1672, by rw [spUi_n ok9]; exact f1673, by rw [spUn_n ok9]; exact f1674, f1668, rg2_tr (rg2_rf 88 89 116 119 h) (rg2_w k1669 (by decide))⟩
          · have d40 := (j_eq (a := x.toInt) (b := y.toInt) (rfl) (rfl)).mp c40
            refine aw_aload_n 0 dX9_visitor_43 rfl rfl ?_
            refine aw_iconst (-1) dX9_visitor_44 (by decide) ?_
            refine aw_eV [.int (-1)] [] lX9_130 vX9_refuse mX9_refuse dX9_visitor_45 (bX9_refuse (sp := sp) (fa := fa) (nb := nb) (ns := ns) (nm := nm) (nv := nv) (sh := sh) (ho := ho) (ow := ow) (sl := sl) (rg := rg) (x := (-1)) (q := 1) h88 h89 (by decide) (by decide)) h88 rfl rfl rfl (Nat.le_of_ble_eq_true rfl) (by decide) (by decide) rfl (fun h1677 q1676 => ?_)
            obtain ⟨rg11675, f1678, k1679⟩ := q1676
            have f1680 := rng_at k1679 (by decide) h88
            have f1681 := rng_at k1679 (by decide) h116
            have f1682 := rng_at k1679 (by decide) h117
            have f1683 := rng_at k1679 (by decide) h118
            have f1684 := rng_at k1679 (by decide) h119
            subst hQF
            have eS : (spVis nv s x y t) = (-1) := by unfold spVis; (repeat' split) <;> first | (exfalso; omega) | rfl
            have ok9 : ¬ 0 ≤ (spVis nv s x y t).toInt := by rw [eS]; decide
            exact aw_iret rfl dX9_visitor_48 (by decide) (by decide) ⟨by rw [eS], _, by rw [spN_n ok9]; exact f1680, by rw [spUn_n ok9]; exact f1681, by rw [spUn_n ok9]; exact f1682, by rw [spUi_n ok9]; exact f1683, by rw [spUn_n ok9]; exact f1684, f1678, rg2_tr (rg2_rf 88 89 116 119 h) (rg2_w k1679 (by decide))⟩
  · have t5 := ite_0 c5
    refine aw_aload_n 0 dX9_visitor_8 rfl rfl ?_
    refine aw_bipush (-2) dX9_visitor_9 (by decide) ?_
    refine aw_eV [.int (-2)] [] lX9_130 vX9_refuse mX9_refuse dX9_visitor_11 (bX9_refuse (sp := sp) (fa := fa) (nb := nb) (ns := ns) (nm := nm) (nv := nv) (sh := sh) (ho := ho) (ow := ow) (sl := sl) (rg := rg) (x := (-2)) (q := 2) h88 h89 (by decide) (by decide)) h88 rfl rfl rfl (Nat.le_of_ble_eq_true rfl) (by decide) (by decide) rfl (fun h1687 q1686 => ?_)
    obtain ⟨rg11685, f1688, k1689⟩ := q1686
    have f1690 := rng_at k1689 (by decide) h88
    have f1691 := rng_at k1689 (by decide) h116
    have f1692 := rng_at k1689 (by decide) h117
    have f1693 := rng_at k1689 (by decide) h118
    have f1694 := rng_at k1689 (by decide) h119
    subst hQF
    have eS : (spVis nv s x y t) = (-2) := by unfold spVis; (repeat' split) <;> first | (exfalso; omega) | rfl
    have ok9 : ¬ 0 ≤ (spVis nv s x y t).toInt := by rw [eS]; decide
    exact aw_iret rfl dX9_visitor_14 (by decide) (by decide) ⟨by rw [eS], _, by rw [spN_n ok9]; exact f1690, by rw [spUn_n ok9]; exact f1691, by rw [spUn_n ok9]; exact f1692, by rw [spUi_n ok9]; exact f1693, by rw [spUn_n ok9]; exact f1694, f1688, rg2_tr (rg2_rf 88 89 116 119 h) (rg2_w k1689 (by decide))⟩
