set_option maxHeartbeats 4000000 in
theorem oX8_means {l : Launch} {G : xG} {h : List va_E} {jv bv : Value} {rf : Nat → Int32} {m se ye fi : Nat → Nat} {W Sn Z Ro Co : Nat → Int32} {Ba : Nat → Int64} {nb sp fa ve : Nat} {w o : Int32} (h0 : h[0]? = some (oB 8 (lX G (jv) (bv)))) (h87 : h[87]? = some (aI 7 rf)) (h1 : h[1]? = some (oB 1 (lC G (nI nb) (nI sp) (nI fa) (nI ve)))) (h2 : h[2]? = some (aI 20 (nA m))) (h3 : h[3]? = some (aI 20 (nA se))) (h4 : h[4]? = some (aI 4 (nA ye))) (h5 : h[5]? = some (aI 4 (nA fi))) (h6 : h[6]? = some (aI 40 W)) (h7 : h[7]? = some (aI 40 Sn)) (h8 : h[8]? = some (aI 40 Z)) (h9 : h[9]? = some (aI 40 Ro)) (h10 : h[10]? = some (aI 40 Co)) (h11 : h[11]? = some (aL 40 Ba)) (hm : ∀ j, j < 20 → m j ≤ j) (hse : ∀ j, j < 20 → se j < 20) (hfi : ∀ j, j < 4 → fi j < 11) (hye : ∀ j, j < 4 → ye j < 1901) (hr : ∀ j, j < 20 → se j = root m j) (hS : ∀ j, j < 40 → Sn j = snF se (W j) 20) : CE l G yX8_means cX8_means 3 (some .int) 2 0 0 [.ref (G.1 + 0), .int w, .int o] h (some (.int ((spMeans m w o).1))) (fun h1 => ∃ se1 : Nat → Nat, ∃ Sn1 : Nat → Int32, ∃ ve1 : Nat, ∃ rf1 : Nat → Int32, h1[1]? = some (oB 1 (lC G (nI nb) (nI sp) (nI fa) (nI ve1))) ∧ h1[2]? = some (aI 20 (nA ((spMeans m w o).2))) ∧ h1[3]? = some (aI 20 (nA se1)) ∧ h1[4]? = some (aI 4 (nA ye)) ∧ h1[5]? = some (aI 4 (nA fi)) ∧ h1[6]? = some (aI 40 W) ∧ h1[7]? = some (aI 40 Sn1) ∧ h1[8]? = some (aI 40 Z) ∧ h1[9]? = some (aI 40 Ro) ∧ h1[10]? = some (aI 40 Co) ∧ h1[11]? = some (aL 40 Ba) ∧ h1[87]? = some (aI 7 rf1) ∧ rg2 1 11 87 87 h h1 ∧ (∀ j, j < 20 → se1 j = root (spMeans m w o).2 j) ∧ (∀ j, j < 40 → Sn1 j = snF se1 (W j) 20) ∧ (ve1 = ve + 1 ∨ (ve1 = ve ∧ (spMeans m w o).2 = m))) := by
  refine cm_ofQ rfl (Nat.le_of_ble_eq_true rfl) [(0, .ref (G.1 + 0)), (1, .int w), (2, .int o)] rfl (fun QF hQF => ?_)
  refine aw_iload_n 1 dX8_means_0 rfl rfl ?_
  refine aw_dS [.int w] [] lX8_66 sX8_isWord mX8_isWord dX8_means_1 (bX8_isWord (x := w) ) rfl (Nat.le_of_ble_eq_true rfl) (by decide) (by decide) rfl ?_
  refine aw_if_eq 14 dX8_means_4 (by decide) (fun c4 => ?_) (fun c4 => ?_)
  · have t4 := ite_0 c4
    refine aw_aload_n 0 dX8_means_14 rfl rfl ?_
    refine aw_iconst (-1) dX8_means_15 (by decide) ?_
    refine aw_eV [.int (-1)] [] lX8_70 vX8_refuse mX8_refuse dX8_means_16 (bX8_refuse (jv := jv) (bv := bv) (rf := rf) (x := (-1)) (q := 1) h0 h87 (by decide) (by decide)) h0 rfl rfl rfl (Nat.le_of_ble_eq_true rfl) (by decide) (by decide) rfl (fun h49 q48 => ?_)
    obtain ⟨rf147, f50, k51⟩ := q48
    have f52 := rng_at k51 (by decide) h0
    have f53 := rng_at k51 (by decide) h1
    have f54 := rng_at k51 (by decide) h2
    have f55 := rng_at k51 (by decide) h3
    have f56 := rng_at k51 (by decide) h4
    have f57 := rng_at k51 (by decide) h5
    have f58 := rng_at k51 (by decide) h6
    have f59 := rng_at k51 (by decide) h7
    have f60 := rng_at k51 (by decide) h8
    have f61 := rng_at k51 (by decide) h9
    have f62 := rng_at k51 (by decide) h10
    have f63 := rng_at k51 (by decide) h11
    subst hQF
    have eS : spMeans m w o = ((-1), m) := by unfold spMeans; (repeat' split) <;> first | (exfalso; omega) | rfl
    exact aw_iret rfl dX8_means_19 (by decide) (by decide) ⟨by rw [eS], _, _, _, _, f53, by rw [eS]; exact f54, f55, f56, f57, f58, f59, f60, f61, f62, f63, f50, rg2_tr (rg2_rf 1 11 87 87 h) (rg2_w k51 (by decide)), by rw [eS]; exact hr, hS, Or.inr ⟨rfl, by rw [eS]⟩⟩
  · have t4 := ite_1 c4
    refine aw_iload_n 2 dX8_means_7 rfl rfl ?_
    refine aw_dS [.int o] [] lX8_66 sX8_isWord mX8_isWord dX8_means_8 (bX8_isWord (x := o) ) rfl (Nat.le_of_ble_eq_true rfl) (by decide) (by decide) rfl ?_
    refine aw_if_ne 20 dX8_means_11 (by decide) (fun c11 => ?_) (fun c11 => ?_)
    · have t11 := ite_1 c11
      refine aw_iload_n 2 dX8_means_20 rfl rfl ?_
      refine aw_iload_n 1 dX8_means_21 rfl rfl ?_
      refine aw_icmp_le 32 dX8_means_22 (by decide) (fun c22 => ?_) (fun c22 => ?_)
      · have d22 := (j_le (a := o.toInt) (b := w.toInt) (rfl) (rfl)).mp c22
        obtain ⟨a, bb_a, ee_a⟩ := i_nat (x := w) (N := 20) (by omega) (by omega)
        subst ee_a
        have tt_a : (nI a).toInt = (a : Int) := nI_toInt (by omega)
        have nn_a : tn (nI a) = a := tn_nI (by omega)
        obtain ⟨b, bb_b, ee_b⟩ := i_nat (x := o) (N := 20) (by omega) (by omega)
        subst ee_b
        have tt_b : (nI b).toInt = (b : Int) := nI_toInt (by omega)
        have nn_b : tn (nI b) = b := tn_nI (by omega)
        refine aw_aload_n 0 dX8_means_32 rfl rfl ?_
        refine aw_get fX8_20 dX8_means_33 h0 rfl ?_
        refine aw_iload_n 1 dX8_means_36 rfl rfl ?_
        refine aw_iload_n 2 dX8_means_37 rfl rfl ?_
        refine aw_eV [.int (nI a), .int (nI b)] [] lX8_74 vX1_tellMeaning mX1_tellMeaning dX8_means_38 (aX1_tellMeaning (m := m) (se := se) (ye := ye) (fi := fi) (W := W) (Sn := Sn) (Z := Z) (Ro := Ro) (Co := Co) (Ba := Ba) (nb := nb) (sp := sp) (fa := fa) (ve := ve) (w := a) (o := b) h1 h2 h3 h4 h5 h6 h7 h8 h9 h10 h11 hm (by omega) (by omega)) h1 rfl rfl rfl (Nat.le_of_ble_eq_true rfl) (by decide) (by decide) rfl (fun h67 q66 => ?_)
        obtain ⟨se164, Sn165, f68, f69, f70, f71, f72, f73, f74, f75, f76, f77, f78, k79, p80, p81⟩ := q66
        have f82 := rng_at k79 (by decide) h0
        have f83 := rng_at k79 (by decide) h87
        subst hQF
        have eS : spMeans m (nI a) (nI b) = ((nI (m a)), un m a b) := by unfold spMeans; (repeat' split) <;> first | (exfalso; omega) | rfl | (simp only [nn_a, nn_b]; done)
        exact aw_iret rfl dX8_means_41 (by decide) (by decide) ⟨by rw [eS], _, _, _, _, f68, by rw [eS]; exact f69, f70, f71, f72, f73, f74, f75, f76, f77, f78, f83, rg2_tr (rg2_rf 1 11 87 87 h) (rg2_w k79 (by decide)), by rw [eS]; exact p80, p81, Or.inl rfl⟩
      · have d22 := mt (j_le (a := o.toInt) (b := w.toInt) (rfl) (rfl)).mpr c22
        refine aw_aload_n 0 dX8_means_25 rfl rfl ?_
        refine aw_bipush (-4) dX8_means_26 (by decide) ?_
        refine aw_eV [.int (-4)] [] lX8_70 vX8_refuse mX8_refuse dX8_means_28 (bX8_refuse (jv := jv) (bv := bv) (rf := rf) (x := (-4)) (q := 4) h0 h87 (by decide) (by decide)) h0 rfl rfl rfl (Nat.le_of_ble_eq_true rfl) (by decide) (by decide) rfl (fun h86 q85 => ?_)
        obtain ⟨rf184, f87, k88⟩ := q85
        have f89 := rng_at k88 (by decide) h0
        have f90 := rng_at k88 (by decide) h1
        have f91 := rng_at k88 (by decide) h2
        have f92 := rng_at k88 (by decide) h3
        have f93 := rng_at k88 (by decide) h4
        have f94 := rng_at k88 (by decide) h5
        have f95 := rng_at k88 (by decide) h6
        have f96 := rng_at k88 (by decide) h7
        have f97 := rng_at k88 (by decide) h8
        have f98 := rng_at k88 (by decide) h9
        have f99 := rng_at k88 (by decide) h10
        have f100 := rng_at k88 (by decide) h11
        subst hQF
        have eS : spMeans m w o = ((-4), m) := by unfold spMeans; (repeat' split) <;> first | (exfalso; omega) | rfl
        exact aw_iret rfl dX8_means_31 (by decide) (by decide) ⟨by rw [eS], _, _, _, _, f90, by rw [eS]; exact f91, f92, f93, f94, f95, f96, f97, f98, f99, f100, f87, rg2_tr (rg2_rf 1 11 87 87 h) (rg2_w k88 (by decide)), by rw [eS]; exact hr, hS, Or.inr ⟨rfl, by rw [eS]⟩⟩
    · have t11 := ite_0 c11
      refine aw_aload_n 0 dX8_means_14 rfl rfl ?_
      refine aw_iconst (-1) dX8_means_15 (by decide) ?_
      refine aw_eV [.int (-1)] [] lX8_70 vX8_refuse mX8_refuse dX8_means_16 (bX8_refuse (jv := jv) (bv := bv) (rf := rf) (x := (-1)) (q := 1) h0 h87 (by decide) (by decide)) h0 rfl rfl rfl (Nat.le_of_ble_eq_true rfl) (by decide) (by decide) rfl (fun h103 q102 => ?_)
      obtain ⟨rf1101, f104, k105⟩ := q102
      have f106 := rng_at k105 (by decide) h0
      have f107 := rng_at k105 (by decide) h1
      have f108 := rng_at k105 (by decide) h2
      have f109 := rng_at k105 (by decide) h3
      have f110 := rng_at k105 (by decide) h4
      have f111 := rng_at k105 (by decide) h5
      have f112 := rng_at k105 (by decide) h6
      have f113 := rng_at k105 (by decide) h7
      have f114 := rng_at k105 (by decide) h8
      have f115 := rng_at k105 (by decide) h9
      have f116 := rng_at k105 (by decide) h10
      have f117 := rng_at k105 (by decide) h11
      subst hQF
      have eS : spMeans m w o = ((-1), m) := by unfold spMeans; (repeat' split) <;> first | (exfalso; omega) | rfl
      exact aw_iret rfl dX8_means_19 (by decide) (by decide) ⟨by rw [eS], _, _, _, _, f107, by rw [eS]; exact f108, f109, f110, f111, f112, f113, f114, f115, f116, f117, f104, rg2_tr (rg2_rf 1 11 87 87 h) (rg2_w k105 (by decide)), by rw [eS]; exact hr, hS, Or.inr ⟨rfl, by rw [eS]⟩⟩
