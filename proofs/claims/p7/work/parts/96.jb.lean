set_option maxHeartbeats 4000000 in
theorem oX8_copied_r {l : Launch} {G : xG} {h : List va_E} {jv bv : Value} {rf : Nat → Int32} {fi ye : Nat → Nat} {nb sp fa ve : Nat} {a b k : Int32} (h0 : h[0]? = some (oB 8 (lX G (jv) (bv)))) (h87 : h[87]? = some (aI 7 rf)) (h1 : h[1]? = some (oB 1 (lC G (nI nb) (nI sp) (nI fa) (nI ve)))) (h4 : h[4]? = some (aI 4 (nA ye))) (h5 : h[5]? = some (aI 4 (nA fi))) (hfi : ∀ j, j < 4 → fi j < 11) (hye : ∀ j, j < 4 → ye j < 1901) (hr : ¬ ((0 ≤ a.toInt ∧ a.toInt < 4) ∧ ((0 ≤ b.toInt ∧ b.toInt < 4) ∧ 0 ≤ k.toInt ∧ k.toInt < (fi (tn b) : Int)) ∧ ye (tn a) < ye (tn b))) : CU l G yX8_copied cX8_copied 6 (some .int) 3 0 0 [.ref (G.1 + 0), .int a, .int b, .int k] h (fun r h1 => ∃ rf1 : Nat → Int32, h1[87]? = some (aI 7 rf1) ∧ rng 87 87 h h1 ∧ True) := by
  refine cm_ofQ rfl (Nat.le_of_ble_eq_true rfl) [(0, .ref (G.1 + 0)), (1, .int a), (2, .int b), (3, .int k)] rfl (fun QF hQF => ?_)
  refine aw_iload_n 1 dX8_copied_0 rfl rfl ?_
  refine aw_dS [.int a] [] lX8_81 sX8_isCatalogue mX8_isCatalogue dX8_copied_1 (bX8_isCatalogue (x := a) ) rfl (Nat.le_of_ble_eq_true rfl) (by decide) (by decide) rfl ?_
  refine aw_if_eq 16 dX8_copied_4 (by decide) (fun c4 => ?_) (fun c4 => ?_)
  · have t4 := ite_0 c4
    refine aw_aload_n 0 dX8_copied_16 rfl rfl ?_
    refine aw_iconst (-1) dX8_copied_17 (by decide) ?_
    refine aw_eV [.int (-1)] [] lX8_70 vX8_refuse mX8_refuse dX8_copied_18 (bX8_refuse (jv := jv) (bv := bv) (rf := rf) (x := (-1)) (q := 1) h0 h87 (by decide) (by decide)) h0 rfl rfl rfl (Nat.le_of_ble_eq_true rfl) (by decide) (by decide) rfl (fun h4852 q4851 => ?_)
    obtain ⟨rf14850, f4853, k4854⟩ := q4851
    have f4855 := rng_at k4854 (by decide) h0
    have f4856 := rng_at k4854 (by decide) h1
    have f4857 := rng_at k4854 (by decide) h4
    have f4858 := rng_at k4854 (by decide) h5
    subst hQF
    exact aw_iret rfl dX8_copied_21 (by decide) (by decide) ⟨_, rfl, _, f4853, rng_tr (rng_rf 87 87 h) (rng_w k4854 (by decide) (by decide)), trivial⟩
  · have t4 := ite_1 c4
    refine aw_aload_n 0 dX8_copied_7 rfl rfl ?_
    refine aw_iload_n 2 dX8_copied_8 rfl rfl ?_
    refine aw_iload_n 3 dX8_copied_9 rfl rfl ?_
    refine aw_dV [.int b, .int k] [] lX8_107 vX8_isEntry mX8_isEntry dX8_copied_10 (bX8_isEntry (jv := jv) (bv := bv) (fi := fi) (nb := nb) (sp := sp) (fa := fa) (ve := ve) (c := b) (i := k) h0 h1 h5 hfi) h0 rfl rfl rfl (Nat.le_of_ble_eq_true rfl) (by decide) (by decide) rfl ?_
    refine aw_if_ne 22 dX8_copied_13 (by decide) (fun c13 => ?_) (fun c13 => ?_)
    · have t13 := ite_1 c13
      obtain ⟨a0, bb_a0, ee_a0⟩ := i_nat (x := a) (N := 4) (by omega) (by omega)
      subst ee_a0
      have tt_a0 : (nI a0).toInt = (a0 : Int) := nI_toInt (by omega)
      have nn_a0 : tn (nI a0) = a0 := tn_nI (by omega)
      obtain ⟨b0, bb_b0, ee_b0⟩ := i_nat (x := b) (N := 4) (by omega) (by omega)
      subst ee_b0
      have tt_b0 : (nI b0).toInt = (b0 : Int) := nI_toInt (by omega)
      have nn_b0 : tn (nI b0) = b0 := tn_nI (by omega)
      simp only [nn_a0, nn_b0] at hr t13
      refine aw_aload_n 0 dX8_copied_22 rfl rfl ?_
      refine aw_get fX8_20 dX8_copied_23 h0 rfl ?_
      refine aw_get fX8_148 dX8_copied_26 h1 rfl ?_
      refine aw_iload_n 2 dX8_copied_29 rfl rfl ?_
      refine aw_iald b0 (rfl) (by omega) (by decide) dX8_copied_30 h4 ?_
      refine aw_toe (nI (ye b0)) (rfl) ?_
      have b4859 := hye b0 (by omega)
      refine aw_aload_n 0 dX8_copied_31 rfl rfl ?_
      refine aw_get fX8_20 dX8_copied_32 h0 rfl ?_
      refine aw_get fX8_148 dX8_copied_35 h1 rfl ?_
      refine aw_iload_n 1 dX8_copied_38 rfl rfl ?_
      refine aw_iald a0 (rfl) (by omega) (by decide) dX8_copied_39 h4 ?_
      refine aw_toe (nI (ye a0)) (rfl) ?_
      have b4860 := hye a0 (by omega)
      refine aw_icmp_gt 50 dX8_copied_40 (by decide) (fun c40 => ?_) (fun c40 => ?_)
      · have d40 := (nv_lt (a := ye a0) (b := ye b0) (rfl) (rfl) (by omega) (by omega)).mp c40
        exfalso
        omega
      · have d40 := mt (nv_lt (a := ye a0) (b := ye b0) (rfl) (rfl) (by omega) (by omega)).mpr c40
        refine aw_aload_n 0 dX8_copied_43 rfl rfl ?_
        refine aw_bipush (-3) dX8_copied_44 (by decide) ?_
        refine aw_eV [.int (-3)] [] lX8_70 vX8_refuse mX8_refuse dX8_copied_46 (bX8_refuse (jv := jv) (bv := bv) (rf := rf) (x := (-3)) (q := 3) h0 h87 (by decide) (by decide)) h0 rfl rfl rfl (Nat.le_of_ble_eq_true rfl) (by decide) (by decide) rfl (fun h4863 q4862 => ?_)
        obtain ⟨rf14861, f4864, k4865⟩ := q4862
        have f4866 := rng_at k4865 (by decide) h0
        have f4867 := rng_at k4865 (by decide) h1
        have f4868 := rng_at k4865 (by decide) h4
        have f4869 := rng_at k4865 (by decide) h5
        subst hQF
        exact aw_iret rfl dX8_copied_49 (by decide) (by decide) ⟨_, rfl, _, f4864, rng_tr (rng_rf 87 87 h) (rng_w k4865 (by decide) (by decide)), trivial⟩
    · have t13 := ite_0 c13
      refine aw_aload_n 0 dX8_copied_16 rfl rfl ?_
      refine aw_iconst (-1) dX8_copied_17 (by decide) ?_
      refine aw_eV [.int (-1)] [] lX8_70 vX8_refuse mX8_refuse dX8_copied_18 (bX8_refuse (jv := jv) (bv := bv) (rf := rf) (x := (-1)) (q := 1) h0 h87 (by decide) (by decide)) h0 rfl rfl rfl (Nat.le_of_ble_eq_true rfl) (by decide) (by decide) rfl (fun h4872 q4871 => ?_)
      obtain ⟨rf14870, f4873, k4874⟩ := q4871
      have f4875 := rng_at k4874 (by decide) h0
      have f4876 := rng_at k4874 (by decide) h1
      have f4877 := rng_at k4874 (by decide) h4
      have f4878 := rng_at k4874 (by decide) h5
      subst hQF
      exact aw_iret rfl dX8_copied_21 (by decide) (by decide) ⟨_, rfl, _, f4873, rng_tr (rng_rf 87 87 h) (rng_w k4874 (by decide) (by decide)), trivial⟩
