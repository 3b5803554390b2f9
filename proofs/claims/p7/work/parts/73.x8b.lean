set_option maxHeartbeats 4000000 in
theorem oX8_sense {l : Launch} {G : xG} {h : List va_E} {jv bv : Value} {rf : Nat → Int32} {m se ye fi : Nat → Nat} {W Sn Z Ro Co : Nat → Int32} {Ba : Nat → Int64} {nb sp fa ve : Nat} {w : Int32} (h0 : h[0]? = some (oB 8 (lX G (jv) (bv)))) (h87 : h[87]? = some (aI 7 rf)) (h1 : h[1]? = some (oB 1 (lC G (nI nb) (nI sp) (nI fa) (nI ve)))) (h2 : h[2]? = some (aI 20 (nA m))) (h3 : h[3]? = some (aI 20 (nA se))) (h4 : h[4]? = some (aI 4 (nA ye))) (h5 : h[5]? = some (aI 4 (nA fi))) (h6 : h[6]? = some (aI 40 W)) (h7 : h[7]? = some (aI 40 Sn)) (h8 : h[8]? = some (aI 40 Z)) (h9 : h[9]? = some (aI 40 Ro)) (h10 : h[10]? = some (aI 40 Co)) (h11 : h[11]? = some (aL 40 Ba)) (hm : ∀ j, j < 20 → m j ≤ j) (hse : ∀ j, j < 20 → se j < 20) (hfi : ∀ j, j < 4 → fi j < 11) (hye : ∀ j, j < 4 → ye j < 1901) (hr : ∀ j, j < 20 → se j = root m j) (hS : ∀ j, j < 40 → Sn j = snF se (W j) 20) : CE l G yX8_sense cX8_sense 2 (some .int) 2 0 0 [.ref (G.1 + 0), .int w] h (some (.int (spSense m w))) (fun h1 => ∃ rf1 : Nat → Int32, h1[87]? = some (aI 7 rf1) ∧ rng 87 87 h h1) := by
  refine cm_ofQ rfl (Nat.le_of_ble_eq_true rfl) [(0, .ref (G.1 + 0)), (1, .int w)] rfl (fun QF hQF => ?_)
  refine aw_iload_n 1 dX8_sense_0 rfl rfl ?_
  refine aw_dS [.int w] [] lX8_66 sX8_isWord mX8_isWord dX8_sense_1 (bX8_isWord (x := w) ) rfl (Nat.le_of_ble_eq_true rfl) (by decide) (by decide) rfl ?_
  refine aw_if_ne 13 dX8_sense_4 (by decide) (fun c4 => ?_) (fun c4 => ?_)
  · have t4 := ite_1 c4
    obtain ⟨a, bb_a, ee_a⟩ := i_nat (x := w) (N := 20) (by omega) (by omega)
    subst ee_a
    have tt_a : (nI a).toInt = (a : Int) := nI_toInt (by omega)
    have nn_a : tn (nI a) = a := tn_nI (by omega)
    refine aw_aload_n 0 dX8_sense_13 rfl rfl ?_
    refine aw_get fX8_20 dX8_sense_14 h0 rfl ?_
    refine aw_get fX8_78 dX8_sense_17 h1 rfl ?_
    refine aw_iload_n 1 dX8_sense_20 rfl rfl ?_
    refine aw_iald a (rfl) (by omega) (by decide) dX8_sense_21 h3 ?_
    refine aw_toe (nI (se a)) (rfl) ?_
    subst hQF
    exact aw_iret rfl dX8_sense_22 (by decide) (by decide) ⟨by unfold spSense; rw [if_pos (by omega), nn_a, ← hr a (by omega)], _, h87, rng_rf 87 87 h⟩
  · have t4 := ite_0 c4
    refine aw_aload_n 0 dX8_sense_7 rfl rfl ?_
    refine aw_iconst (-1) dX8_sense_8 (by decide) ?_
    refine aw_eV [.int (-1)] [] lX8_70 vX8_refuse mX8_refuse dX8_sense_9 (bX8_refuse (jv := jv) (bv := bv) (rf := rf) (x := (-1)) (q := 1) h0 h87 (by decide) (by decide)) h0 rfl rfl rfl (Nat.le_of_ble_eq_true rfl) (by decide) (by decide) rfl (fun h120 q119 => ?_)
    obtain ⟨rf1118, f121, k122⟩ := q119
    have f123 := rng_at k122 (by decide) h0
    have f124 := rng_at k122 (by decide) h1
    have f125 := rng_at k122 (by decide) h2
    have f126 := rng_at k122 (by decide) h3
    have f127 := rng_at k122 (by decide) h4
    have f128 := rng_at k122 (by decide) h5
    have f129 := rng_at k122 (by decide) h6
    have f130 := rng_at k122 (by decide) h7
    have f131 := rng_at k122 (by decide) h8
    have f132 := rng_at k122 (by decide) h9
    have f133 := rng_at k122 (by decide) h10
    have f134 := rng_at k122 (by decide) h11
    subst hQF
    exact aw_iret rfl dX8_sense_12 (by decide) (by decide) ⟨by unfold spSense; rw [if_neg (by omega)], _, f121, rng_tr (rng_rf 87 87 h) (rng_w k122 (by decide) (by decide))⟩
set_option maxHeartbeats 4000000 in
theorem oX8_year {l : Launch} {G : xG} {h : List va_E} {jv bv : Value} {rf : Nat → Int32} {m se ye fi : Nat → Nat} {W Sn Z Ro Co : Nat → Int32} {Ba : Nat → Int64} {nb sp fa ve : Nat} {c y : Int32} (h0 : h[0]? = some (oB 8 (lX G (jv) (bv)))) (h87 : h[87]? = some (aI 7 rf)) (h1 : h[1]? = some (oB 1 (lC G (nI nb) (nI sp) (nI fa) (nI ve)))) (h2 : h[2]? = some (aI 20 (nA m))) (h3 : h[3]? = some (aI 20 (nA se))) (h4 : h[4]? = some (aI 4 (nA ye))) (h5 : h[5]? = some (aI 4 (nA fi))) (h6 : h[6]? = some (aI 40 W)) (h7 : h[7]? = some (aI 40 Sn)) (h8 : h[8]? = some (aI 40 Z)) (h9 : h[9]? = some (aI 40 Ro)) (h10 : h[10]? = some (aI 40 Co)) (h11 : h[11]? = some (aL 40 Ba)) (hm : ∀ j, j < 20 → m j ≤ j) (hse : ∀ j, j < 20 → se j < 20) (hfi : ∀ j, j < 4 → fi j < 11) (hye : ∀ j, j < 4 → ye j < 1901) : CE l G yX8_year cX8_year 3 (some .int) 2 0 0 [.ref (G.1 + 0), .int c, .int y] h (some (.int ((spYear ye c y).1))) (fun h1 => ∃ ve1 : Nat, ∃ rf1 : Nat → Int32, h1[1]? = some (oB 1 (lC G (nI nb) (nI sp) (nI fa) (nI ve1))) ∧ h1[2]? = some (aI 20 (nA m)) ∧ h1[3]? = some (aI 20 (nA se)) ∧ h1[4]? = some (aI 4 (nA ((spYear ye c y).2))) ∧ h1[5]? = some (aI 4 (nA fi)) ∧ h1[6]? = some (aI 40 W) ∧ h1[7]? = some (aI 40 Sn) ∧ h1[8]? = some (aI 40 Z) ∧ h1[9]? = some (aI 40 Ro) ∧ h1[10]? = some (aI 40 Co) ∧ h1[11]? = some (aL 40 Ba) ∧ h1[87]? = some (aI 7 rf1) ∧ rg2 1 11 87 87 h h1 ∧ (ve1 = ve + 1 ∨ (ve1 = ve ∧ (spYear ye c y).2 = ye))) := by
  refine cm_ofQ rfl (Nat.le_of_ble_eq_true rfl) [(0, .ref (G.1 + 0)), (1, .int c), (2, .int y)] rfl (fun QF hQF => ?_)
  refine aw_iload_n 1 dX8_year_0 rfl rfl ?_
  refine aw_dS [.int c] [] lX8_81 sX8_isCatalogue mX8_isCatalogue dX8_year_1 (bX8_isCatalogue (x := c) ) rfl (Nat.le_of_ble_eq_true rfl) (by decide) (by decide) rfl ?_
  refine aw_if_ne 13 dX8_year_4 (by decide) (fun c4 => ?_) (fun c4 => ?_)
  · have t4 := ite_1 c4
    refine aw_iload_n 2 dX8_year_13 rfl rfl ?_
    refine aw_sipush (1500) dX8_year_14 (by decide) ?_
    refine aw_icmp_ge 27 dX8_year_17 (by decide) (fun c17 => ?_) (fun c17 => ?_)
    · have d17 := (j_le (a := (1500)) (b := y.toInt) (rfl) (rfl)).mp c17
      refine aw_iload_n 2 dX8_year_27 rfl rfl ?_
      refine aw_sipush (1900) dX8_year_28 (by decide) ?_
      refine aw_icmp_le 41 dX8_year_31 (by decide) (fun c31 => ?_) (fun c31 => ?_)
      · have d31 := (j_le (a := y.toInt) (b := (1900)) (rfl) (rfl)).mp c31
        obtain ⟨a, bb_a, ee_a⟩ := i_nat (x := c) (N := 4) (by omega) (by omega)
        subst ee_a
        have tt_a : (nI a).toInt = (a : Int) := nI_toInt (by omega)
        have nn_a : tn (nI a) = a := tn_nI (by omega)
        obtain ⟨b, bb_b, ee_b⟩ := i_nat (x := y) (N := 1901) (by omega) (by omega)
        subst ee_b
        have tt_b : (nI b).toInt = (b : Int) := nI_toInt (by omega)
        have nn_b : tn (nI b) = b := tn_nI (by omega)
        refine aw_aload_n 0 dX8_year_41 rfl rfl ?_
        refine aw_get fX8_20 dX8_year_42 h0 rfl ?_
        refine aw_iload_n 1 dX8_year_45 rfl rfl ?_
        refine aw_iload_n 2 dX8_year_46 rfl rfl ?_
        refine aw_eV [.int (nI a), .int (nI b)] [] lX8_84 vX1_tellYear mX1_tellYear dX8_year_47 (aX1_tellYear (m := m) (se := se) (ye := ye) (fi := fi) (W := W) (Sn := Sn) (Z := Z) (Ro := Ro) (Co := Co) (Ba := Ba) (nb := nb) (sp := sp) (fa := fa) (ve := ve) (c := a) (y := b) h1 h2 h3 h4 h5 h6 h7 h8 h9 h10 h11 (by omega)) h1 rfl rfl rfl (Nat.le_of_ble_eq_true rfl) (by decide) (by decide) rfl (fun h136 q135 => ?_)
        obtain ⟨f137, f138, f139, f140, f141, f142, f143, f144, f145, f146, f147, k148⟩ := q135
        have f149 := rng_at k148 (by decide) h0
        have f150 := rng_at k148 (by decide) h87
        subst hQF
        have eS : spYear ye (nI a) (nI b) = ((nI (ye a)), un ye a b) := by unfold spYear; (repeat' split) <;> first | (exfalso; omega) | rfl | (simp only [nn_a, nn_b]; done)
        exact aw_iret rfl dX8_year_50 (by decide) (by decide) ⟨by rw [eS], _, _, f137, f138, f139, by rw [eS]; exact f140, f141, f142, f143, f144, f145, f146, f147, f150, rg2_tr (rg2_rf 1 11 87 87 h) (rg2_w k148 (by decide)), Or.inl rfl⟩
      · have d31 := mt (j_le (a := y.toInt) (b := (1900)) (rfl) (rfl)).mpr c31
        refine aw_aload_n 0 dX8_year_34 rfl rfl ?_
        refine aw_bipush (-6) dX8_year_35 (by decide) ?_
        refine aw_eV [.int (-6)] [] lX8_70 vX8_refuse mX8_refuse dX8_year_37 (bX8_refuse (jv := jv) (bv := bv) (rf := rf) (x := (-6)) (q := 6) h0 h87 (by decide) (by decide)) h0 rfl rfl rfl (Nat.le_of_ble_eq_true rfl) (by decide) (by decide) rfl (fun h153 q152 => ?_)
        obtain ⟨rf1151, f154, k155⟩ := q152
        have f156 := rng_at k155 (by decide) h0
        have f157 := rng_at k155 (by decide) h1
        have f158 := rng_at k155 (by decide) h2
        have f159 := rng_at k155 (by decide) h3
        have f160 := rng_at k155 (by decide) h4
        have f161 := rng_at k155 (by decide) h5
        have f162 := rng_at k155 (by decide) h6
        have f163 := rng_at k155 (by decide) h7
        have f164 := rng_at k155 (by decide) h8
        have f165 := rng_at k155 (by decide) h9
        have f166 := rng_at k155 (by decide) h10
        have f167 := rng_at k155 (by decide) h11
        subst hQF
        have eS : spYear ye c y = ((-6), ye) := by unfold spYear; (repeat' split) <;> first | (exfalso; omega) | rfl
        exact aw_iret rfl dX8_year_40 (by decide) (by decide) ⟨by rw [eS], _, _, f157, f158, f159, by rw [eS]; exact f160, f161, f162, f163, f164, f165, f166, f167, f154, rg2_tr (rg2_rf 1 11 87 87 h) (rg2_w k155 (by decide)), Or.inr ⟨rfl, by rw [eS]⟩⟩
    · have d17 := mt (j_le (a := (1500)) (b := y.toInt) (rfl) (rfl)).mpr c17
      refine aw_aload_n 0 dX8_year_20 rfl rfl ?_
      refine aw_bipush (-4) dX8_year_21 (by decide) ?_
      refine aw_eV [.int (-4)] [] lX8_70 vX8_refuse mX8_refuse dX8_year_23 (bX8_refuse (jv := jv) (bv := bv) (rf := rf) (x := (-4)) (q := 4) h0 h87 (by decide) (by decide)) h0 rfl rfl rfl (Nat.le_of_ble_eq_true rfl) (by decide) (by decide) rfl (fun h170 q169 => ?_)
      obtain ⟨rf1168, f171, k172⟩ := q169
      have f173 := rng_at k172 (by decide) h0
      have f174 := rng_at k172 (by decide) h1
      have f175 := rng_at k172 (by decide) h2
      have f176 := rng_at k172 (by decide) h3
      have f177 := rng_at k172 (by decide) h4
      have f178 := rng_at k172 (by decide) h5
      have f179 := rng_at k172 (by decide) h6
      have f180 := rng_at k172 (by decide) h7
      have f181 := rng_at k172 (by decide) h8
      have f182 := rng_at k172 (by decide) h9
      have f183 := rng_at k172 (by decide) h10
      have f184 := rng_at k172 (by decide) h11
      subst hQF
      have eS : spYear ye c y = ((-4), ye) := by unfold spYear; (repeat' split) <;> first | (exfalso; omega) | rfl
      exact aw_iret rfl dX8_year_26 (by decide) (by decide) ⟨by rw [eS], _, _, f174, f175, f176, by rw [eS]; exact f177, f178, f179, f180, f181, f182, f183, f184, f171, rg2_tr (rg2_rf 1 11 87 87 h) (rg2_w k172 (by decide)), Or.inr ⟨rfl, by rw [eS]⟩⟩
  · have t4 := ite_0 c4
    refine aw_aload_n 0 dX8_year_7 rfl rfl ?_
    refine aw_iconst (-1) dX8_year_8 (by decide) ?_
    refine aw_eV [.int (-1)] [] lX8_70 vX8_refuse mX8_refuse dX8_year_9 (bX8_refuse (jv := jv) (bv := bv) (rf := rf) (x := (-1)) (q := 1) h0 h87 (by decide) (by decide)) h0 rfl rfl rfl (Nat.le_of_ble_eq_true rfl) (by decide) (by decide) rfl (fun h187 q186 => ?_)
    obtain ⟨rf1185, f188, k189⟩ := q186
    have f190 := rng_at k189 (by decide) h0
    have f191 := rng_at k189 (by decide) h1
    have f192 := rng_at k189 (by decide) h2
    have f193 := rng_at k189 (by decide) h3
    have f194 := rng_at k189 (by decide) h4
    have f195 := rng_at k189 (by decide) h5
    have f196 := rng_at k189 (by decide) h6
    have f197 := rng_at k189 (by decide) h7
    have f198 := rng_at k189 (by decide) h8
    have f199 := rng_at k189 (by decide) h9
    have f200 := rng_at k189 (by decide) h10
    have f201 := rng_at k189 (by decide) h11
    subst hQF
    have eS : spYear ye c y = ((-1), ye) := by unfold spYear; (repeat' split) <;> first | (exfalso; omega) | rfl
    exact aw_iret rfl dX8_year_12 (by decide) (by decide) ⟨by rw [eS], _, _, f191, f192, f193, by rw [eS]; exact f194, f195, f196, f197, f198, f199, f200, f201, f188, rg2_tr (rg2_rf 1 11 87 87 h) (rg2_w k189 (by decide)), Or.inr ⟨rfl, by rw [eS]⟩⟩
