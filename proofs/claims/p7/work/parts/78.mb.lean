set_option maxHeartbeats 4000000 in
theorem oX9_bar {l : Launch} {G : xG} {h : List va_E} {sp fa nb ns nm nv sh : Nat} {ho ow sl : Int32} {rg : Nat → Int32} {fi b1 b2 : Nat → Nat} {a i b k : Int32} (h88 : h[88]? = some (oB 9 (lM G (nI sp) (nI fa) (nI nb) (nI ns) (nI nm) ho ow sl (nI nv) (nI sh)))) (h89 : h[89]? = some (aI 7 rg)) (h92 : h[92]? = some (aI 4 (nA fi))) (h97 : h[97]? = some (aI 30 (nA b1))) (h98 : h[98]? = some (aI 30 (nA b2))) (hfi : ∀ j, j < 4 → fi j < 11) (hnb : nb ≤ 30) (bb1 : ∀ j, j < 30 → b1 j < 40) (bb2 : ∀ j, j < 30 → b2 j < 40) : CE l G yX9_bar cX9_bar 5 (some .int) 3 0 0 [.ref (G.1 + 88), .int a, .int i, .int b, .int k] h (some (.int (spBarA fi nb (brF b1 b2 (tn a * 10 + tn i) (tn b * 10 + tn k) nb = true) a i b k))) (fun h1 => ∃ rg1 : Nat → Int32, h1[88]? = some (oB 9 (lM G (nI sp) (nI fa) (nI (spN ((spBarA fi nb (brF b1 b2 (tn a * 10 + tn i) (tn b * 10 + tn k) nb = true) a i b k) = 1) nb (nb + 1))) (nI ns) (nI nm) ho ow sl (nI nv) (nI sh))) ∧ h1[97]? = some (aI 30 (nA (spUn ((spBarA fi nb (brF b1 b2 (tn a * 10 + tn i) (tn b * 10 + tn k) nb = true) a i b k) = 1) b1 nb (tn a * 10 + tn i)))) ∧ h1[98]? = some (aI 30 (nA (spUn ((spBarA fi nb (brF b1 b2 (tn a * 10 + tn i) (tn b * 10 + tn k) nb = true) a i b k) = 1) b2 nb (tn b * 10 + tn k)))) ∧ h1[89]? = some (aI 7 rg1) ∧ rg2 88 89 97 98 h h1) := by
  refine cm_ofQ rfl (Nat.le_of_ble_eq_true rfl) [(0, .ref (G.1 + 88)), (1, .int a), (2, .int i), (3, .int b), (4, .int k)] rfl (fun QF hQF => ?_)
  refine aw_aload_n 0 dX9_bar_0 rfl rfl ?_
  refine aw_iload_n 1 dX9_bar_1 rfl rfl ?_
  refine aw_iload_n 2 dX9_bar_2 rfl rfl ?_
  refine aw_dV [.int a, .int i] [] lX9_145 vX9_isEntry mX9_isEntry dX9_bar_3 (bX9_isEntry (sp := sp) (fa := fa) (nb := nb) (ns := ns) (nm := nm) (nv := nv) (sh := sh) (ho := ho) (ow := ow) (sl := sl) (fi := fi) (c := a) (i := i) h88 h92 hfi) h88 rfl rfl rfl (Nat.le_of_ble_eq_true rfl) (by decide) (by decide) rfl ?_
  refine aw_if_eq 24 dX9_bar_6 (by decide) (fun c6 => ?_) (fun c6 => ?_)
  · have t6 := ite_0 c6
    refine aw_aload_n 0 dX9_bar_24 rfl rfl ?_
    refine aw_iconst (-1) dX9_bar_25 (by decide) ?_
    refine aw_eV [.int (-1)] [] lX9_130 vX9_refuse mX9_refuse dX9_bar_26 (bX9_refuse (sp := sp) (fa := fa) (nb := nb) (ns := ns) (nm := nm) (nv := nv) (sh := sh) (ho := ho) (ow := ow) (sl := sl) (rg := rg) (x := (-1)) (q := 1) h88 h89 (by decide) (by decide)) h88 rfl rfl rfl (Nat.le_of_ble_eq_true rfl) (by decide) (by decide) rfl (fun h1605 q1604 => ?_)
    obtain ⟨rg11603, f1606, k1607⟩ := q1604
    have f1608 := rng_at k1607 (by decide) h88
    have f1609 := rng_at k1607 (by decide) h92
    have f1610 := rng_at k1607 (by decide) h97
    have f1611 := rng_at k1607 (by decide) h98
    subst hQF
    have eS : (spBarA fi nb (brF b1 b2 (tn a * 10 + tn i) (tn b * 10 + tn k) nb = true) a i b k) = (-1) := by unfold spBarA; (repeat' split) <;> first | (exfalso; omega) | rfl | contradiction
    have ok9 : ¬ (spBarA fi nb (brF b1 b2 (tn a * 10 + tn i) (tn b * 10 + tn k) nb = true) a i b k) = 1 := by rw [eS]; decide
    exact aw_iret rfl dX9_bar_29 (by decide) (by decide) ⟨by rw [eS], _, by rw [spN_n ok9]; exact f1608, by rw [spUn_n ok9]; exact f1610, by rw [spUn_n ok9]; exact f1611, f1606, rg2_tr (rg2_rf 88 89 97 98 h) (rg2_w k1607 (by decide))⟩
  · have t6 := ite_1 c6
    refine aw_aload_n 0 dX9_bar_9 rfl rfl ?_
    refine aw_iload_n 3 dX9_bar_10 rfl rfl ?_
    refine aw_iload 4 dX9_bar_11 rfl ?_
    refine aw_dV [.int b, .int k] [] lX9_145 vX9_isEntry mX9_isEntry dX9_bar_13 (bX9_isEntry (sp := sp) (fa := fa) (nb := nb) (ns := ns) (nm := nm) (nv := nv) (sh := sh) (ho := ho) (ow := ow) (sl := sl) (fi := fi) (c := b) (i := k) h88 h92 hfi) h88 rfl rfl rfl (Nat.le_of_ble_eq_true rfl) (by decide) (by decide) rfl ?_
    refine aw_if_eq 24 dX9_bar_16 (by decide) (fun c16 => ?_) (fun c16 => ?_)
    · have t16 := ite_0 c16
      refine aw_aload_n 0 dX9_bar_24 rfl rfl ?_
      refine aw_iconst (-1) dX9_bar_25 (by decide) ?_
      refine aw_eV [.int (-1)] [] lX9_130 vX9_refuse mX9_refuse dX9_bar_26 (bX9_refuse (sp := sp) (fa := fa) (nb := nb) (ns := ns) (nm := nm) (nv := nv) (sh := sh) (ho := ho) (ow := ow) (sl := sl) (rg := rg) (x := (-1)) (q := 1) h88 h89 (by decide) (by decide)) h88 rfl rfl rfl (Nat.le_of_ble_eq_true rfl) (by decide) (by decide) rfl (fun h1614 q1613 => ?_)
      obtain ⟨rg11612, f1615, k1616⟩ := q1613
      have f1617 := rng_at k1616 (by decide) h88
      have f1618 := rng_at k1616 (by decide) h92
      have f1619 := rng_at k1616 (by decide) h97
      have f1620 := rng_at k1616 (by decide) h98
      subst hQF
      have eS : (spBarA fi nb (brF b1 b2 (tn a * 10 + tn i) (tn b * 10 + tn k) nb = true) a i b k) = (-1) := by unfold spBarA; (repeat' split) <;> first | (exfalso; omega) | rfl | contradiction
      have ok9 : ¬ (spBarA fi nb (brF b1 b2 (tn a * 10 + tn i) (tn b * 10 + tn k) nb = true) a i b k) = 1 := by rw [eS]; decide
      exact aw_iret rfl dX9_bar_29 (by decide) (by decide) ⟨by rw [eS], _, by rw [spN_n ok9]; exact f1617, by rw [spUn_n ok9]; exact f1619, by rw [spUn_n ok9]; exact f1620, f1615, rg2_tr (rg2_rf 88 89 97 98 h) (rg2_w k1616 (by decide))⟩
    · have t16 := ite_1 c16
      refine aw_iload_n 1 dX9_bar_19 rfl rfl ?_
      refine aw_iload_n 3 dX9_bar_20 rfl rfl ?_
      refine aw_icmp_ne 30 dX9_bar_21 (by decide) (fun c21 => ?_) (fun c21 => ?_)
      · have d21 := mt (j_eq (a := a.toInt) (b := b.toInt) (rfl) (rfl)).mpr c21
        have fa0 := hfi (tn a) (by unfold tn; omega)
        have fb0 := hfi (tn b) (by unfold tn; omega)
        obtain ⟨a0, bb_a0, ee_a0⟩ := i_nat (x := a) (N := 4) (by omega) (by omega)
        subst ee_a0
        have tt_a0 : (nI a0).toInt = (a0 : Int) := nI_toInt (by omega)
        have nn_a0 : tn (nI a0) = a0 := tn_nI (by omega)
        obtain ⟨b0, bb_b0, ee_b0⟩ := i_nat (x := b) (N := 4) (by omega) (by omega)
        subst ee_b0
        have tt_b0 : (nI b0).toInt = (b0 : Int) := nI_toInt (by omega)
        have nn_b0 : tn (nI b0) = b0 := tn_nI (by omega)
        rw [nn_a0] at t6 fa0
        rw [nn_b0] at t16 fb0
        obtain ⟨i0, bb_i0, ee_i0⟩ := i_nat (x := i) (N := 10) (by omega) (by omega)
        subst ee_i0
        have tt_i0 : (nI i0).toInt = (i0 : Int) := nI_toInt (by omega)
        have nn_i0 : tn (nI i0) = i0 := tn_nI (by omega)
        obtain ⟨k0, bb_k0, ee_k0⟩ := i_nat (x := k) (N := 10) (by omega) (by omega)
        subst ee_k0
        have tt_k0 : (nI k0).toInt = (k0 : Int) := nI_toInt (by omega)
        have nn_k0 : tn (nI k0) = k0 := tn_nI (by omega)
        refine aw_aload_n 0 dX9_bar_30 rfl rfl ?_
        refine aw_bipush (10) dX9_bar_31 (by decide) ?_
        refine aw_iload_n 1 dX9_bar_33 rfl rfl ?_
        refine aw_imul dX9_bar_34 ?_
        refine aw_toe (nI (a0 * 10)) (by rw [Nat.mul_comm a0 10]; exact nv_mul (rfl) (rfl)) ?_
        refine aw_iload_n 2 dX9_bar_35 rfl rfl ?_
        refine aw_iadd dX9_bar_36 ?_
        refine aw_toe (nI ((a0 * 10) + i0)) (nv_add (rfl) (rfl)) ?_
        refine aw_bipush (10) dX9_bar_37 (by decide) ?_
        refine aw_iload_n 3 dX9_bar_39 rfl rfl ?_
        refine aw_imul dX9_bar_40 ?_
        refine aw_toe (nI (b0 * 10)) (by rw [Nat.mul_comm b0 10]; exact nv_mul (rfl) (rfl)) ?_
        refine aw_iload 4 dX9_bar_41 rfl ?_
        refine aw_iadd dX9_bar_43 ?_
        refine aw_toe (nI ((b0 * 10) + k0)) (nv_add (rfl) (rfl)) ?_
        refine aw_dV [.int (nI ((a0 * 10) + i0)), .int (nI ((b0 * 10) + k0))] [] lX9_148 vX9_isBarred mX9_isBarred dX9_bar_44 (bX9_isBarred (sp := sp) (fa := fa) (nb := nb) (ns := ns) (nm := nm) (nv := nv) (sh := sh) (ho := ho) (ow := ow) (sl := sl) (b1 := b1) (b2 := b2) (x := (a0 * 10) + i0) (y := (b0 * 10) + k0) h88 h97 h98 (by omega) bb1 bb2 (by omega) (by omega)) h88 rfl rfl rfl (Nat.le_of_ble_eq_true rfl) (by decide) (by decide) rfl ?_
        refine aw_if_eq 52 dX9_bar_47 (by decide) (fun c47 => ?_) (fun c47 => ?_)
        · have t47 := ite_0 c47
          refine aw_aload_n 0 dX9_bar_52 rfl rfl ?_
          refine aw_get fX9_142 dX9_bar_53 h88 rfl ?_
          refine aw_bipush (30) dX9_bar_56 (by decide) ?_
          refine aw_icmp_ne 68 dX9_bar_58 (by decide) (fun c58 => ?_) (fun c58 => ?_)
          · have d58 := mt (nv_eq (a := nb) (b := 30) (rfl) (rfl) (by omega) (by omega)).mpr c58
            refine aw_aload_n 0 dX9_bar_68 rfl rfl ?_
            refine aw_get fX9_34 dX9_bar_69 h88 rfl ?_
            refine aw_aload_n 0 dX9_bar_72 rfl rfl ?_
            refine aw_get fX9_142 dX9_bar_73 h88 rfl ?_
            refine aw_bipush (10) dX9_bar_76 (by decide) ?_
            refine aw_iload_n 1 dX9_bar_78 rfl rfl ?_
            refine aw_imul dX9_bar_79 ?_
            refine aw_toe (nI (a0 * 10)) (by rw [Nat.mul_comm a0 10]; exact nv_mul (rfl) (rfl)) ?_
            refine aw_iload_n 2 dX9_bar_80 rfl rfl ?_
            refine aw_iadd dX9_bar_81 ?_
            refine aw_toe (nI ((a0 * 10) + i0)) (nv_add (rfl) (rfl)) ?_
            refine aw_iast nb (rfl) (by omega) (by decide) dX9_bar_82 h97 ?_
            rw [nA_u (f := b1) (i := nb) (x := (nI ((a0 * 10) + i0))) (v := (a0 * 10) + i0) (rfl)]
            refine aw_aload_n 0 dX9_bar_83 rfl rfl ?_
            refine aw_get fX9_37 dX9_bar_84 (gn (by decide) (h88)) rfl ?_
            refine aw_aload_n 0 dX9_bar_87 rfl rfl ?_
            refine aw_get fX9_142 dX9_bar_88 (gn (by decide) (h88)) rfl ?_
            refine aw_bipush (10) dX9_bar_91 (by decide) ?_
            refine aw_iload_n 3 dX9_bar_93 rfl rfl ?_
            refine aw_imul dX9_bar_94 ?_
            refine aw_toe (nI (b0 * 10)) (by rw [Nat.mul_comm b0 10]; exact nv_mul (rfl) (rfl)) ?_
            refine aw_iload 4 dX9_bar_95 rfl ?_
            refine aw_iadd dX9_bar_97 ?_
            refine aw_toe (nI ((b0 * 10) + k0)) (nv_add (rfl) (rfl)) ?_
            refine aw_iast nb (rfl) (by omega) (by decide) dX9_bar_98 (gn (by decide) (h98)) ?_
            rw [nA_u (f := b2) (i := nb) (x := (nI ((b0 * 10) + k0))) (v := (b0 * 10) + k0) (rfl)]
            refine aw_aload_n 0 dX9_bar_99 rfl rfl ?_
            refine aw_dup dX9_bar_100 rfl ?_
            refine aw_get fX9_142 dX9_bar_101 (gn (by decide) (gn (by decide) (h88))) rfl ?_
            refine aw_iconst (1) dX9_bar_104 (by decide) ?_
            refine aw_iadd dX9_bar_105 ?_
            refine aw_toe (nI (nb + 1)) (nv_add (rfl) (rfl)) ?_
            refine aw_putQ fX9_142 dX9_bar_106 (lM G (nI sp) (nI fa) (nI (nb + 1)) (nI ns) (nI nm) ho ow sl (nI nv) (nI sh)) (gn (by decide) (gn (by decide) (h88))) rfl rfl rfl (Nat.le_of_ble_eq_true rfl) rfl ?_
            refine aw_iconst (1) dX9_bar_109 (by decide) ?_
            subst hQF
            have eS : (spBarA fi nb (brF b1 b2 (tn (nI a0) * 10 + tn (nI i0)) (tn (nI b0) * 10 + tn (nI k0)) nb = true) (nI a0) (nI i0) (nI b0) (nI k0)) = 1 := by unfold spBarA; simp only [nn_a0, nn_b0, nn_i0, nn_k0]; (repeat' split) <;> first | (exfalso; omega) | rfl | contradiction
            have ok9 : (spBarA fi nb (brF b1 b2 (tn (nI a0) * 10 + tn (nI i0)) (tn (nI b0) * 10 + tn (nI k0)) nb = true) (nI a0) (nI i0) (nI b0) (nI k0)) = 1 := by rw [eS]
            exact aw_iret rfl dX9_bar_110 (by decide) (by decide) ⟨by rw [eS], _, by rw [spN_y ok9]; exact (gs (gn (by decide) (gn (by decide) (h88)))), by rw [spUn_y ok9, nn_a0, nn_i0]; exact (gn (by decide) (gn (by decide) (gs h97))), by rw [spUn_y ok9, nn_b0, nn_k0]; exact (gn (by decide) (gs (gn (by decide) (h98)))), (gn (by decide) (gn (by decide) (gn (by decide) (h89)))), rg2_set (rg2_set (rg2_set (rg2_rf 88 89 97 98 h) (by decide)) (by decide)) (by decide)⟩
          · have d58 := (nv_eq (a := nb) (b := 30) (rfl) (rfl) (by omega) (by omega)).mp c58
            refine aw_aload_n 0 dX9_bar_61 rfl rfl ?_
            refine aw_bipush (-6) dX9_bar_62 (by decide) ?_
            refine aw_eV [.int (-6)] [] lX9_130 vX9_refuse mX9_refuse dX9_bar_64 (bX9_refuse (sp := sp) (fa := fa) (nb := nb) (ns := ns) (nm := nm) (nv := nv) (sh := sh) (ho := ho) (ow := ow) (sl := sl) (rg := rg) (x := (-6)) (q := 6) h88 h89 (by decide) (by decide)) h88 rfl rfl rfl (Nat.le_of_ble_eq_true rfl) (by decide) (by decide) rfl (fun h1623 q1622 => ?_)
            obtain ⟨rg11621, f1624, k1625⟩ := q1622
            have f1626 := rng_at k1625 (by decide) h88
            have f1627 := rng_at k1625 (by decide) h92
            have f1628 := rng_at k1625 (by decide) h97
            have f1629 := rng_at k1625 (by decide) h98
            subst hQF
            have eS : (spBarA fi nb (brF b1 b2 (tn (nI a0) * 10 + tn (nI i0)) (tn (nI b0) * 10 + tn (nI k0)) nb = true) (nI a0) (nI i0) (nI b0) (nI k0)) = (-6) := by unfold spBarA; simp only [nn_a0, nn_b0, nn_i0, nn_k0]; (repeat' split) <;> first | (exfalso; omega) | rfl | contradiction
            have ok9 : ¬ (spBarA fi nb (brF b1 b2 (tn (nI a0) * 10 + tn (nI i0)) (tn (nI b0) * 10 + tn (nI k0)) nb = true) (nI a0) (nI i0) (nI b0) (nI k0)) = 1 := by rw [eS]; decide
            exact aw_iret rfl dX9_bar_67 (by decide) (by decide) ⟨by rw [eS], _, by rw [spN_n ok9]; exact f1626, by rw [spUn_n ok9]; exact f1628, by rw [spUn_n ok9]; exact f1629, f1624, rg2_tr (rg2_rf 88 89 97 98 h) (rg2_w k1625 (by decide))⟩
        · have t47 := ite_1 c47
          refine aw_iconst (0) dX9_bar_50 (by decide) ?_
          subst hQF
          have eS : (spBarA fi nb (brF b1 b2 (tn (nI a0) * 10 + tn (nI i0)) (tn (nI b0) * 10 + tn (nI k0)) nb = true) (nI a0) (nI i0) (nI b0) (nI k0)) = 0 := by unfold spBarA; simp only [nn_a0, nn_b0, nn_i0, nn_k0]; (repeat' split) <;> first | (exfalso; omega) | rfl | contradiction
          have ok9 : ¬ (spBarA fi nb (brF b1 b2 (tn (nI a0) * 10 + tn (nI i0)) (tn (nI b0) * 10 + tn (nI k0)) nb = true) (nI a0) (nI i0) (nI b0) (nI k0)) = 1 := by rw [eS]; decide
          exact aw_iret rfl dX9_bar_51 (by decide) (by decide) ⟨by rw [eS], _, by rw [spN_n ok9]; exact h88, by rw [spUn_n ok9]; exact h97, by rw [spUn_n ok9]; exact h98, h89, rg2_rf 88 89 97 98 h⟩
      · have d21 := (j_eq (a := a.toInt) (b := b.toInt) (rfl) (rfl)).mp c21
        refine aw_aload_n 0 dX9_bar_24 rfl rfl ?_
        refine aw_iconst (-1) dX9_bar_25 (by decide) ?_
        refine aw_eV [.int (-1)] [] lX9_130 vX9_refuse mX9_refuse dX9_bar_26 (bX9_refuse (sp := sp) (fa := fa) (nb := nb) (ns := ns) (nm := nm) (nv := nv) (sh := sh) (ho := ho) (ow := ow) (sl := sl) (rg := rg) (x := (-1)) (q := 1) h88 h89 (by decide) (by decide)) h88 rfl rfl rfl (Nat.le_of_ble_eq_true rfl) (by decide) (by decide) rfl (fun h1632 q1631 => ?_)
        obtain ⟨rg11630, f1633, k1634⟩ := q1631
        have f1635 := rng_at k1634 (by decide) h88
        have f1636 := rng_at k1634 (by decide) h92
        have f1637 := rng_at k1634 (by decide) h97
        have f1638 := rng_at k1634 (by decide) h98
        subst hQF
        have eS : (spBarA fi nb (brF b1 b2 (tn a * 10 + tn i) (tn b * 10 + tn k) nb = true) a i b k) = (-1) := by unfold spBarA; (repeat' split) <;> first | (exfalso; omega) | rfl | contradiction
        have ok9 : ¬ (spBarA fi nb (brF b1 b2 (tn a * 10 + tn i) (tn b * 10 + tn k) nb = true) a i b k) = 1 := by rw [eS]; decide
        exact aw_iret rfl dX9_bar_29 (by decide) (by decide) ⟨by rw [eS], _, by rw [spN_n ok9]; exact f1635, by rw [spUn_n ok9]; exact f1637, by rw [spUn_n ok9]; exact f1638, f1633, rg2_tr (rg2_rf 88 89 97 98 h) (rg2_w k1634 (by decide))⟩
