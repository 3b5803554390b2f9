set_option maxHeartbeats 4000000 in
theorem oX8_join_r {l : Launch} {G : xG} {h : List va_E} {jv bv : Value} {rf : Nat → Int32} {a b : Int32} (h0 : h[0]? = some (oB 8 (lX G (jv) (bv)))) (h87 : h[87]? = some (aI 7 rf)) (hr : ¬ ((0 ≤ a.toInt ∧ a.toInt < 4) ∧ (0 ≤ b.toInt ∧ b.toInt < 4) ∧ a.toInt ≠ b.toInt)) : CU l G yX8_join cX8_join 3 (some .int) 3 0 0 [.ref (G.1 + 0), .int a, .int b] h (fun r h1 => ∃ rf1 : Nat → Int32, h1[87]? = some (aI 7 rf1) ∧ rng 87 87 h h1 ∧ r = -1) := by
  refine cm_ofQ rfl (Nat.le_of_ble_eq_true rfl) [(0, .ref (G.1 + 0)), (1, .int a), (2, .int b)] rfl (fun QF hQF => ?_)
  refine aw_iload_n 1 dX8_join_0 rfl rfl ?_
  refine aw_iload_n 2 dX8_join_1 rfl rfl ?_
  refine aw_dS [.int a, .int b] [] lX8_104 sX8_areTwo mX8_areTwo dX8_join_2 (bX8_areTwo (a := a) (b := b) ) rfl (Nat.le_of_ble_eq_true rfl) (by decide) (by decide) rfl ?_
  refine aw_if_ne 14 dX8_join_5 (by decide) (fun c5 => ?_) (fun c5 => ?_)
  · have t5 := ite_1 c5
    exfalso
    omega
  · have t5 := ite_0 c5
    refine aw_aload_n 0 dX8_join_8 rfl rfl ?_
    refine aw_iconst (-1) dX8_join_9 (by decide) ?_
    refine aw_eV [.int (-1)] [] lX8_70 vX8_refuse mX8_refuse dX8_join_10 (bX8_refuse (jv := jv) (bv := bv) (rf := rf) (x := (-1)) (q := 1) h0 h87 (by decide) (by decide)) h0 rfl rfl rfl (Nat.le_of_ble_eq_true rfl) (by decide) (by decide) rfl (fun h4808 q4807 => ?_)
    obtain ⟨rf14806, f4809, k4810⟩ := q4807
    have f4811 := rng_at k4810 (by decide) h0
    subst hQF
    exact aw_iret rfl dX8_join_13 (by decide) (by decide) ⟨_, rfl, _, f4809, rng_tr (rng_rf 87 87 h) (rng_w k4810 (by decide) (by decide)), rfl⟩
set_option maxHeartbeats 4000000 in
theorem oX8_bests_r {l : Launch} {G : xG} {h : List va_E} {jv bv : Value} {rf : Nat → Int32} {a b : Int32} (h0 : h[0]? = some (oB 8 (lX G (jv) (bv)))) (h87 : h[87]? = some (aI 7 rf)) (hr : ¬ ((0 ≤ a.toInt ∧ a.toInt < 4) ∧ (0 ≤ b.toInt ∧ b.toInt < 4) ∧ a.toInt ≠ b.toInt)) : CU l G yX8_bests cX8_bests 3 (some .int) 3 0 0 [.ref (G.1 + 0), .int a, .int b] h (fun r h1 => ∃ rf1 : Nat → Int32, h1[87]? = some (aI 7 rf1) ∧ rng 87 87 h h1 ∧ r = -1) := by
  refine cm_ofQ rfl (Nat.le_of_ble_eq_true rfl) [(0, .ref (G.1 + 0)), (1, .int a), (2, .int b)] rfl (fun QF hQF => ?_)
  refine aw_iload_n 1 dX8_bests_0 rfl rfl ?_
  refine aw_iload_n 2 dX8_bests_1 rfl rfl ?_
  refine aw_dS [.int a, .int b] [] lX8_104 sX8_areTwo mX8_areTwo dX8_bests_2 (bX8_areTwo (a := a) (b := b) ) rfl (Nat.le_of_ble_eq_true rfl) (by decide) (by decide) rfl ?_
  refine aw_if_ne 14 dX8_bests_5 (by decide) (fun c5 => ?_) (fun c5 => ?_)
  · have t5 := ite_1 c5
    exfalso
    omega
  · have t5 := ite_0 c5
    refine aw_aload_n 0 dX8_bests_8 rfl rfl ?_
    refine aw_iconst (-1) dX8_bests_9 (by decide) ?_
    refine aw_eV [.int (-1)] [] lX8_70 vX8_refuse mX8_refuse dX8_bests_10 (bX8_refuse (jv := jv) (bv := bv) (rf := rf) (x := (-1)) (q := 1) h0 h87 (by decide) (by decide)) h0 rfl rfl rfl (Nat.le_of_ble_eq_true rfl) (by decide) (by decide) rfl (fun h4814 q4813 => ?_)
    obtain ⟨rf14812, f4815, k4816⟩ := q4813
    have f4817 := rng_at k4816 (by decide) h0
    subst hQF
    exact aw_iret rfl dX8_bests_13 (by decide) (by decide) ⟨_, rfl, _, f4815, rng_tr (rng_rf 87 87 h) (rng_w k4816 (by decide) (by decide)), rfl⟩
set_option maxHeartbeats 4000000 in
theorem oX8_joined_r {l : Launch} {G : xG} {h : List va_E} {jv bv : Value} {rf : Nat → Int32} {fi : Nat → Nat} {nb sp fa ve : Nat} {a i b : Int32} (h0 : h[0]? = some (oB 8 (lX G (jv) (bv)))) (h87 : h[87]? = some (aI 7 rf)) (h1 : h[1]? = some (oB 1 (lC G (nI nb) (nI sp) (nI fa) (nI ve)))) (h5 : h[5]? = some (aI 4 (nA fi))) (hfi : ∀ j, j < 4 → fi j < 11) (hr : ¬ (((0 ≤ a.toInt ∧ a.toInt < 4) ∧ (0 ≤ b.toInt ∧ b.toInt < 4) ∧ a.toInt ≠ b.toInt) ∧ ((0 ≤ a.toInt ∧ a.toInt < 4) ∧ 0 ≤ i.toInt ∧ i.toInt < (fi (tn a) : Int)))) : CU l G yX8_joined cX8_joined 4 (some .int) 3 0 0 [.ref (G.1 + 0), .int a, .int i, .int b] h (fun r h1 => ∃ rf1 : Nat → Int32, h1[87]? = some (aI 7 rf1) ∧ rng 87 87 h h1 ∧ r = -1) := by
  refine cm_ofQ rfl (Nat.le_of_ble_eq_true rfl) [(0, .ref (G.1 + 0)), (1, .int a), (2, .int i), (3, .int b)] rfl (fun QF hQF => ?_)
  refine aw_iload_n 1 dX8_joined_0 rfl rfl ?_
  refine aw_iload_n 3 dX8_joined_1 rfl rfl ?_
  refine aw_dS [.int a, .int b] [] lX8_104 sX8_areTwo mX8_areTwo dX8_joined_2 (bX8_areTwo (a := a) (b := b) ) rfl (Nat.le_of_ble_eq_true rfl) (by decide) (by decide) rfl ?_
  refine aw_if_eq 17 dX8_joined_5 (by decide) (fun c5 => ?_) (fun c5 => ?_)
  · have t5 := ite_0 c5
    refine aw_aload_n 0 dX8_joined_17 rfl rfl ?_
    refine aw_iconst (-1) dX8_joined_18 (by decide) ?_
    refine aw_eV [.int (-1)] [] lX8_70 vX8_refuse mX8_refuse dX8_joined_19 (bX8_refuse (jv := jv) (bv := bv) (rf := rf) (x := (-1)) (q := 1) h0 h87 (by decide) (by decide)) h0 rfl rfl rfl (Nat.le_of_ble_eq_true rfl) (by decide) (by decide) rfl (fun h4820 q4819 => ?_)
    obtain ⟨rf14818, f4821, k4822⟩ := q4819
    have f4823 := rng_at k4822 (by decide) h0
    have f4824 := rng_at k4822 (by decide) h1
    have f4825 := rng_at k4822 (by decide) h5
    subst hQF
    exact aw_iret rfl dX8_joined_22 (by decide) (by decide) ⟨_, rfl, _, f4821, rng_tr (rng_rf 87 87 h) (rng_w k4822 (by decide) (by decide)), rfl⟩
  · have t5 := ite_1 c5
    refine aw_aload_n 0 dX8_joined_8 rfl rfl ?_
    refine aw_iload_n 1 dX8_joined_9 rfl rfl ?_
    refine aw_iload_n 2 dX8_joined_10 rfl rfl ?_
    refine aw_dV [.int a, .int i] [] lX8_107 vX8_isEntry mX8_isEntry dX8_joined_11 (bX8_isEntry (jv := jv) (bv := bv) (fi := fi) (nb := nb) (sp := sp) (fa := fa) (ve := ve) (c := a) (i := i) h0 h1 h5 hfi) h0 rfl rfl rfl (Nat.le_of_ble_eq_true rfl) (by decide) (by decide) rfl ?_
    refine aw_if_ne 23 dX8_joined_14 (by decide) (fun c14 => ?_) (fun c14 => ?_)
    · have t14 := ite_1 c14
      exfalso
      omega
    · have t14 := ite_0 c14
      refine aw_aload_n 0 dX8_joined_17 rfl rfl ?_
      refine aw_iconst (-1) dX8_joined_18 (by decide) ?_
      refine aw_eV [.int (-1)] [] lX8_70 vX8_refuse mX8_refuse dX8_joined_19 (bX8_refuse (jv := jv) (bv := bv) (rf := rf) (x := (-1)) (q := 1) h0 h87 (by decide) (by decide)) h0 rfl rfl rfl (Nat.le_of_ble_eq_true rfl) (by decide) (by decide) rfl (fun h4828 q4827 => ?_)
      obtain ⟨rf14826, f4829, k4830⟩ := q4827
      have f4831 := rng_at k4830 (by decide) h0
      have f4832 := rng_at k4830 (by decide) h1
      have f4833 := rng_at k4830 (by decide) h5
      subst hQF
      exact aw_iret rfl dX8_joined_22 (by decide) (by decide) ⟨_, rfl, _, f4829, rng_tr (rng_rf 87 87 h) (rng_w k4830 (by decide) (by decide)), rfl⟩
set_option maxHeartbeats 4000000 in
theorem oX8_sure_r {l : Launch} {G : xG} {h : List va_E} {jv bv : Value} {rf : Nat → Int32} {fi : Nat → Nat} {nb sp fa ve : Nat} {a i b : Int32} (h0 : h[0]? = some (oB 8 (lX G (jv) (bv)))) (h87 : h[87]? = some (aI 7 rf)) (h1 : h[1]? = some (oB 1 (lC G (nI nb) (nI sp) (nI fa) (nI ve)))) (h5 : h[5]? = some (aI 4 (nA fi))) (hfi : ∀ j, j < 4 → fi j < 11) (hr : ¬ (((0 ≤ a.toInt ∧ a.toInt < 4) ∧ (0 ≤ b.toInt ∧ b.toInt < 4) ∧ a.toInt ≠ b.toInt) ∧ ((0 ≤ a.toInt ∧ a.toInt < 4) ∧ 0 ≤ i.toInt ∧ i.toInt < (fi (tn a) : Int)))) : CU l G yX8_sure cX8_sure 4 (some .int) 3 0 0 [.ref (G.1 + 0), .int a, .int i, .int b] h (fun r h1 => ∃ rf1 : Nat → Int32, h1[87]? = some (aI 7 rf1) ∧ rng 87 87 h h1 ∧ r = -1) := by
  refine cm_ofQ rfl (Nat.le_of_ble_eq_true rfl) [(0, .ref (G.1 + 0)), (1, .int a), (2, .int i), (3, .int b)] rfl (fun QF hQF => ?_)
  refine aw_iload_n 1 dX8_sure_0 rfl rfl ?_
  refine aw_iload_n 3 dX8_sure_1 rfl rfl ?_
  refine aw_dS [.int a, .int b] [] lX8_104 sX8_areTwo mX8_areTwo dX8_sure_2 (bX8_areTwo (a := a) (b := b) ) rfl (Nat.le_of_ble_eq_true rfl) (by decide) (by decide) rfl ?_
  refine aw_if_eq 17 dX8_sure_5 (by decide) (fun c5 => ?_) (fun c5 => ?_)
  · have t5 := ite_0 c5
    refine aw_aload_n 0 dX8_sure_17 rfl rfl ?_
    refine aw_iconst (-1) dX8_sure_18 (by decide) ?_
    refine aw_eV [.int (-1)] [] lX8_70 vX8_refuse mX8_refuse dX8_sure_19 (bX8_refuse (jv := jv) (bv := bv) (rf := rf) (x := (-1)) (q := 1) h0 h87 (by decide) (by decide)) h0 rfl rfl rfl (Nat.le_of_ble_eq_true rfl) (by decide) (by decide) rfl (fun h4836 q4835 => ?_)
    obtain ⟨rf14834, f4837, k4838⟩ := q4835
    have f4839 := rng_at k4838 (by decide) h0
    have f4840 := rng_at k4838 (by decide) h1
    have f4841 := rng_at k4838 (by decide) h5
    subst hQF
    exact aw_iret rfl dX8_sure_22 (by decide) (by decide) ⟨_, rfl, _, f4837, rng_tr (rng_rf 87 87 h) (rng_w k4838 (by decide) (by decide)), rfl⟩
  · have t5 := ite_1 c5
    refine aw_aload_n 0 dX8_sure_8 rfl rfl ?_
    refine aw_iload_n 1 dX8_sure_9 rfl rfl ?_
    refine aw_iload_n 2 dX8_sure_10 rfl rfl ?_
    refine aw_dV [.int a, .int i] [] lX8_107 vX8_isEntry mX8_isEntry dX8_sure_11 (bX8_isEntry (jv := jv) (bv := bv) (fi := fi) (nb := nb) (sp := sp) (fa := fa) (ve := ve) (c := a) (i := i) h0 h1 h5 hfi) h0 rfl rfl rfl (Nat.le_of_ble_eq_true rfl) (by decide) (by decide) rfl ?_
    refine aw_if_ne 23 dX8_sure_14 (by decide) (fun c14 => ?_) (fun c14 => ?_)
    · have t14 := ite_1 c14
      exfalso
      omega
    · have t14 := ite_0 c14
      refine aw_aload_n 0 dX8_sure_17 rfl rfl ?_
      refine aw_iconst (-1) dX8_sure_18 (by decide) ?_
      refine aw_eV [.int (-1)] [] lX8_70 vX8_refuse mX8_refuse dX8_sure_19 (bX8_refuse (jv := jv) (bv := bv) (rf := rf) (x := (-1)) (q := 1) h0 h87 (by decide) (by decide)) h0 rfl rfl rfl (Nat.le_of_ble_eq_true rfl) (by decide) (by decide) rfl (fun h4844 q4843 => ?_)
      obtain ⟨rf14842, f4845, k4846⟩ := q4843
      have f4847 := rng_at k4846 (by decide) h0
      have f4848 := rng_at k4846 (by decide) h1
      have f4849 := rng_at k4846 (by decide) h5
      subst hQF
      exact aw_iret rfl dX8_sure_22 (by decide) (by decide) ⟨_, rfl, _, f4845, rng_tr (rng_rf 87 87 h) (rng_w k4846 (by decide) (by decide)), rfl⟩
