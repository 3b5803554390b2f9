set_option maxHeartbeats 4000000 in
theorem oX8_set {l : Launch} {G : xG} {h : List va_E} {jv bv : Value} {rf : Nat → Int32} {m se ye fi : Nat → Nat} {W Sn Z Ro Co : Nat → Int32} {Ba : Nat → Int64} {nb sp fa ve : Nat} {q v : Int32} (h0 : h[0]? = some (oB 8 (lX G (jv) (bv)))) (h87 : h[87]? = some (aI 7 rf)) (h1 : h[1]? = some (oB 1 (lC G (nI nb) (nI sp) (nI fa) (nI ve)))) (h2 : h[2]? = some (aI 20 (nA m))) (h3 : h[3]? = some (aI 20 (nA se))) (h4 : h[4]? = some (aI 4 (nA ye))) (h5 : h[5]? = some (aI 4 (nA fi))) (h6 : h[6]? = some (aI 40 W)) (h7 : h[7]? = some (aI 40 Sn)) (h8 : h[8]? = some (aI 40 Z)) (h9 : h[9]? = some (aI 40 Ro)) (h10 : h[10]? = some (aI 40 Co)) (h11 : h[11]? = some (aL 40 Ba)) (hm : ∀ j, j < 20 → m j ≤ j) (hse : ∀ j, j < 20 → se j < 20) (hfi : ∀ j, j < 4 → fi j < 11) (hye : ∀ j, j < 4 → ye j < 1901) : CE l G yX8_set cX8_set 3 (some .int) 2 0 0 [.ref (G.1 + 0), .int q, .int v] h (some (.int ((spSet sp fa q v).1))) (fun h1 => ∃ ve1 : Nat, ∃ rf1 : Nat → Int32, h1[1]? = some (oB 1 (lC G (nI nb) (nI ((spSet sp fa q v).2.1)) (nI ((spSet sp fa q v).2.2)) (nI ve1))) ∧ h1[2]? = some (aI 20 (nA m)) ∧ h1[3]? = some (aI 20 (nA se)) ∧ h1[4]? = some (aI 4 (nA ye)) ∧ h1[5]? = some (aI 4 (nA fi)) ∧ h1[6]? = some (aI 40 W) ∧ h1[7]? = some (aI 40 Sn) ∧ h1[8]? = some (aI 40 Z) ∧ h1[9]? = some (aI 40 Ro) ∧ h1[10]? = some (aI 40 Co) ∧ h1[11]? = some (aL 40 Ba) ∧ h1[87]? = some (aI 7 rf1) ∧ rg2 1 11 87 87 h h1 ∧ (ve1 = ve + 1 ∨ (ve1 = ve ∧ (spSet sp fa q v).2.1 = sp ∧ (spSet sp fa q v).2.2 = fa))) := by
  refine cm_ofQ rfl (Nat.le_of_ble_eq_true rfl) [(0, .ref (G.1 + 0)), (1, .int q), (2, .int v)] rfl (fun QF hQF => ?_)
  refine aw_iload_n 1 dX8_set_0 rfl rfl ?_
  refine aw_if_eq 16 dX8_set_1 (by decide) (fun c1 => ?_) (fun c1 => ?_)
  · have d1 := (j_eq (a := q.toInt) (b := (0)) (rfl) (rfl)).mp c1
    refine aw_iload_n 2 dX8_set_16 rfl rfl ?_
    refine aw_if_ge 27 dX8_set_17 (by decide) (fun c17 => ?_) (fun c17 => ?_)
    · have d17 := (j_le (a := (0)) (b := v.toInt) (rfl) (rfl)).mp c17
      refine aw_iload_n 2 dX8_set_27 rfl rfl ?_
      refine aw_iload_n 1 dX8_set_28 rfl rfl ?_
      refine aw_if_ne 37 dX8_set_29 (by decide) (fun c29 => ?_) (fun c29 => ?_)
      · have d29 := mt (j_eq (a := q.toInt) (b := (0)) (rfl) (rfl)).mpr c29
        refine aw_bipush (9) dX8_set_37 (by decide) ?_
        refine aw_icmp_le 49 dX8_set_39 (by decide) (fun c39 => ?_) (fun c39 => ?_)
        · have d39 := (j_le (a := v.toInt) (b := (9)) (rfl) (rfl)).mp c39
          refine aw_iload_n 1 dX8_set_49 rfl rfl ?_
          refine aw_if_ne 64 dX8_set_50 (by decide) (fun c50 => ?_) (fun c50 => ?_)
          · have d50 := mt (j_eq (a := q.toInt) (b := (0)) (rfl) (rfl)).mpr c50
            obtain ⟨a, bb_a, ee_a⟩ := i_nat (x := v) (N := 10) (by omega) (by omega)
            subst ee_a
            have tt_a : (nI a).toInt = (a : Int) := nI_toInt (by omega)
            have nn_a : tn (nI a) = a := tn_nI (by omega)
            refine aw_aload_n 0 dX8_set_64 rfl rfl ?_
            refine aw_get fX8_20 dX8_set_65 h0 rfl ?_
            refine aw_iload_n 2 dX8_set_68 rfl rfl ?_
            refine aw_eV [.int (nI a)] [] lX8_101 vX1_tellFade mX1_tellFade dX8_set_69 (aX1_tellFade (m := m) (se := se) (ye := ye) (fi := fi) (W := W) (Sn := Sn) (Z := Z) (Ro := Ro) (Co := Co) (Ba := Ba) (nb := nb) (sp := sp) (fa := fa) (ve := ve) (v := a) h1 h2 h3 h4 h5 h6 h7 h8 h9 h10 h11) h1 rfl rfl rfl (Nat.le_of_ble_eq_true rfl) (by decide) (by decide) rfl (fun h390 q389 => ?_)
            obtain ⟨f391, f392, f393, f394, f395, f396, f397, f398, f399, f400, f401, k402⟩ := q389
            have f403 := rng_at k402 (by decide) h0
            have f404 := rng_at k402 (by decide) h87
            subst hQF
            have eS : spSet sp fa q (nI a) = ((nI fa), sp, a) := by unfold spSet; (repeat' split) <;> first | (exfalso; omega) | rfl | (simp only [nn_a]; done)
            exact aw_iret rfl dX8_set_72 (by decide) (by decide) ⟨by rw [eS], _, _, by rw [eS]; exact f391, f392, f393, f394, f395, f396, f397, f398, f399, f400, f401, f404, rg2_tr (rg2_rf 1 11 87 87 h) (rg2_w k402 (by decide)), Or.inl rfl⟩
          · have d50 := (j_eq (a := q.toInt) (b := (0)) (rfl) (rfl)).mp c50
            obtain ⟨a, bb_a, ee_a⟩ := i_nat (x := v) (N := 51) (by omega) (by omega)
            subst ee_a
            have tt_a : (nI a).toInt = (a : Int) := nI_toInt (by omega)
            have nn_a : tn (nI a) = a := tn_nI (by omega)
            refine aw_aload_n 0 dX8_set_53 rfl rfl ?_
            refine aw_get fX8_20 dX8_set_54 h0 rfl ?_
            refine aw_iload_n 2 dX8_set_57 rfl rfl ?_
            refine aw_eV [.int (nI a)] [] lX8_98 vX1_tellSpare mX1_tellSpare dX8_set_58 (aX1_tellSpare (m := m) (se := se) (ye := ye) (fi := fi) (W := W) (Sn := Sn) (Z := Z) (Ro := Ro) (Co := Co) (Ba := Ba) (nb := nb) (sp := sp) (fa := fa) (ve := ve) (v := a) h1 h2 h3 h4 h5 h6 h7 h8 h9 h10 h11) h1 rfl rfl rfl (Nat.le_of_ble_eq_true rfl) (by decide) (by decide) rfl (fun h406 q405 => ?_)
            obtain ⟨f407, f408, f409, f410, f411, f412, f413, f414, f415, f416, f417, k418⟩ := q405
            have f419 := rng_at k418 (by decide) h0
            have f420 := rng_at k418 (by decide) h87
            refine aw_goto 72 dX8_set_61 (by decide) ?_
            subst hQF
            have eS : spSet sp fa q (nI a) = ((nI sp), a, fa) := by unfold spSet; (repeat' split) <;> first | (exfalso; omega) | rfl | (simp only [nn_a]; done)
            exact aw_iret rfl dX8_set_72 (by decide) (by decide) ⟨by rw [eS], _, _, by rw [eS]; exact f407, f408, f409, f410, f411, f412, f413, f414, f415, f416, f417, f420, rg2_tr (rg2_rf 1 11 87 87 h) (rg2_w k418 (by decide)), Or.inl rfl⟩
        · have d39 := mt (j_le (a := v.toInt) (b := (9)) (rfl) (rfl)).mpr c39
          refine aw_aload_n 0 dX8_set_42 rfl rfl ?_
          refine aw_bipush (-6) dX8_set_43 (by decide) ?_
          refine aw_eV [.int (-6)] [] lX8_70 vX8_refuse mX8_refuse dX8_set_45 (bX8_refuse (jv := jv) (bv := bv) (rf := rf) (x := (-6)) (q := 6) h0 h87 (by decide) (by decide)) h0 rfl rfl rfl (Nat.le_of_ble_eq_true rfl) (by decide) (by decide) rfl (fun h423 q422 => ?_)
          obtain ⟨rf1421, f424, k425⟩ := q422
          have f426 := rng_at k425 (by decide) h0
          have f427 := rng_at k425 (by decide) h1
          have f428 := rng_at k425 (by decide) h2
          have f429 := rng_at k425 (by decide) h3
          have f430 := rng_at k425 (by decide) h4
          have f431 := rng_at k425 (by decide) h5
          have f432 := rng_at k425 (by decide) h6
          have f433 := rng_at k425 (by decide) h7
          have f434 := rng_at k425 (by decide) h8
          have f435 := rng_at k425 (by decide) h9
          have f436 := rng_at k425 (by decide) h10
          have f437 := rng_at k425 (by decide) h11
          subst hQF
          have eS : spSet sp fa q v = ((-6), sp, fa) := by unfold spSet; (repeat' split) <;> first | (exfalso; omega) | rfl
          exact aw_iret rfl dX8_set_48 (by decide) (by decide) ⟨by rw [eS], _, _, by rw [eS]; exact f427, f428, f429, f430, f431, f432, f433, f434, f435, f436, f437, f424, rg2_tr (rg2_rf 1 11 87 87 h) (rg2_w k425 (by decide)), Or.inr ⟨rfl, by rw [eS]; exact ⟨rfl, rfl⟩⟩⟩
      · have d29 := (j_eq (a := q.toInt) (b := (0)) (rfl) (rfl)).mp c29
        refine aw_bipush (50) dX8_set_32 (by decide) ?_
        refine aw_goto 39 dX8_set_34 (by decide) ?_
        refine aw_icmp_le 49 dX8_set_39 (by decide) (fun c39 => ?_) (fun c39 => ?_)
        · have d39 := (j_le (a := v.toInt) (b := (50)) (rfl) (rfl)).mp c39
          refine aw_iload_n 1 dX8_set_49 rfl rfl ?_
          refine aw_if_ne 64 dX8_set_50 (by decide) (fun c50 => ?_) (fun c50 => ?_)
          · have d50 := mt (j_eq (a := q.toInt) (b := (0)) (rfl) (rfl)).mpr c50
            obtain ⟨a, bb_a, ee_a⟩ := i_nat (x := v) (N := 10) (by omega) (by omega)
            subst ee_a
            have tt_a : (nI a).toInt = (a : Int) := nI_toInt (by omega)
            have nn_a : tn (nI a) = a := tn_nI (by omega)
            refine aw_aload_n 0 dX8_set_64 rfl rfl ?_
            refine aw_get fX8_20 dX8_set_65 h0 rfl ?_
            refine aw_iload_n 2 dX8_set_68 rfl rfl ?_
            refine aw_eV [.int (nI a)] [] lX8_101 vX1_tellFade mX1_tellFade dX8_set_69 (aX1_tellFade (m := m) (se := se) (ye := ye) (fi := fi) (W := W) (Sn := Sn) (Z := Z) (Ro := Ro) (Co := Co) (Ba := Ba) (nb := nb) (sp := sp) (fa := fa) (ve := ve) (v := a) h1 h2 h3 h4 h5 h6 h7 h8 h9 h10 h11) h1 rfl rfl rfl (Nat.le_of_ble_eq_true rfl) (by decide) (by decide) rfl (fun h439 q438 => ?_)
            obtain ⟨f440, f441, f442, f443, f444, f445, f446, f447, f448, f449, f450, k451⟩ := q438
            have f452 := rng_at k451 (by decide) h0
            have f453 := rng_at k451 (by decide) h87
            subst hQF
            have eS : spSet sp fa q (nI a) = ((nI fa), sp, a) := by unfold spSet; (repeat' split) <;> first | (exfalso; omega) | rfl | (simp only [nn_a]; done)
            exact aw_iret rfl dX8_set_72 (by decide) (by decide) ⟨by rw [eS], _, _, by rw [eS]; exact f440, f441, f442, f443, f444, f445, f446, f447, f448, f449, f450, f453, rg2_tr (rg2_rf 1 11 87 87 h) (rg2_w k451 (by decide)), Or.inl rfl⟩
          · have d50 := (j_eq (a := q.toInt) (b := (0)) (rfl) (rfl)).mp c50
            obtain ⟨a, bb_a, ee_a⟩ := i_nat (x := v) (N := 51) (by omega) (by omega)
            subst ee_a
            have tt_a : (nI a).toInt = (a : Int) := nI_toInt (by omega)
            have nn_a : tn (nI a) = a := tn_nI (by omega)
            refine aw_aload_n 0 dX8_set_53 rfl rfl ?_
            refine aw_get fX8_20 dX8_set_54 h0 rfl ?_
            refine aw_iload_n 2 dX8_set_57 rfl rfl ?_
            refine aw_eV [.int (nI a)] [] lX8_98 vX1_tellSpare mX1_tellSpare dX8_set_58 (aX1_tellSpare (m := m) (se := se) (ye := ye) (fi := fi) (W := W) (Sn := Sn) (Z := Z) (Ro := Ro) (Co := Co) (Ba := Ba) (nb := nb) (sp := sp) (fa := fa) (ve := ve) (v := a) h1 h2 h3 h4 h5 h6 h7 h8 h9 h10 h11) h1 rfl rfl rfl (Nat.le_of_ble_eq_true rfl) (by decide) (by decide) rfl (fun h455 q454 => ?_)
            obtain ⟨f456, f457, f458, f459, f460, f461, f462, f463, f464, f465, f466, k467⟩ := q454
            have f468 := rng_at k467 (by decide) h0
            have f469 := rng_at k467 (by decide) h87
            refine aw_goto 72 dX8_set_61 (by decide) ?_
            subst hQF
            have eS : spSet sp fa q (nI a) = ((nI sp), a, fa) := by unfold spSet; (repeat' split) <;> first | (exfalso; omega) | rfl | (simp only [nn_a]; done)
            exact aw_iret rfl dX8_set_72 (by decide) (by decide) ⟨by rw [eS], _, _, by rw [eS]; exact f456, f457, f458, f459, f460, f461, f462, f463, f464, f465, f466, f469, rg2_tr (rg2_rf 1 11 87 87 h) (rg2_w k467 (by decide)), Or.inl rfl⟩
        · have d39 := mt (j_le (a := v.toInt) (b := (50)) (rfl) (rfl)).mpr c39
          refine aw_aload_n 0 dX8_set_42 rfl rfl ?_
          refine aw_bipush (-6) dX8_set_43 (by decide) ?_
          refine aw_eV [.int (-6)] [] lX8_70 vX8_refuse mX8_refuse dX8_set_45 (bX8_refuse (jv := jv) (bv := bv) (rf := rf) (x := (-6)) (q := 6) h0 h87 (by decide) (by decide)) h0 rfl rfl rfl (Nat.le_of_ble_eq_true rfl) (by decide) (by decide) rfl (fun h472 q471 => ?_)
          obtain ⟨rf1470, f473, k474⟩ := q471
          have f475 := rng_at k474 (by decide) h0
          have f476 := rng_at k474 (by decide) h1
          have f477 := rng_at k474 (by decide) h2
          have f478 := rng_at k474 (by decide) h3
          have f479 := rng_at k474 (by decide) h4
          have f480 := rng_at k474 (by decide) h5
          have f481 := rng_at k474 (by decide) h6
          have f482 := rng_at k474 (by decide) h7
          have f483 := rng_at k474 (by decide) h8
          have f484 := rng_at k474 (by decide) h9
          have f485 := rng_at k474 (by decide) h10
          have f486 := rng_at k474 (by decide) h11
          subst hQF
          have eS : spSet sp fa q v = ((-6), sp, fa) := by unfold spSet; (repeat' split) <;> first | (exfalso; omega) | rfl
          exact aw_iret rfl dX8_set_48 (by decide) (by decide) ⟨by rw [eS], _, _, by rw [eS]; exact f476, f477, f478, f479, f480, f481, f482, f483, f484, f485, f486, f473, rg2_tr (rg2_rf 1 11 87 87 h) (rg2_w k474 (by decide)), Or.inr ⟨rfl, by rw [eS]; exact ⟨rfl, rfl⟩⟩⟩
    · have d17 := mt (j_le (a := (0)) (b := v.toInt) (rfl) (rfl)).mpr c17
      refine aw_aload_n 0 dX8_set_20 rfl rfl ?_
      refine aw_bipush (-4) dX8_set_21 (by decide) ?_
      refine aw_eV [.int (-4)] [] lX8_70 vX8_refuse mX8_refuse dX8_set_23 (bX8_refuse (jv := jv) (bv := bv) (rf := rf) (x := (-4)) (q := 4) h0 h87 (by decide) (by decide)) h0 rfl rfl rfl (Nat.le_of_ble_eq_true rfl) (by decide) (by decide) rfl (fun h489 q488 => ?_)
      obtain ⟨rf1487, f490, k491⟩ := q488
      have f492 := rng_at k491 (by decide) h0
      have f493 := rng_at k491 (by decide) h1
      have f494 := rng_at k491 (by decide) h2
      have f495 := rng_at k491 (by decide) h3
      have f496 := rng_at k491 (by decide) h4
      have f497 := rng_at k491 (by decide) h5
      have f498 := rng_at k491 (by decide) h6
      have f499 := rng_at k491 (by decide) h7
      have f500 := rng_at k491 (by decide) h8
      have f501 := rng_at k491 (by decide) h9
      have f502 := rng_at k491 (by decide) h10
      have f503 := rng_at k491 (by decide) h11
      subst hQF
      have eS : spSet sp fa q v = ((-4), sp, fa) := by unfold spSet; (repeat' split) <;> first | (exfalso; omega) | rfl
      exact aw_iret rfl dX8_set_26 (by decide) (by decide) ⟨by rw [eS], _, _, by rw [eS]; exact f493, f494, f495, f496, f497, f498, f499, f500, f501, f502, f503, f490, rg2_tr (rg2_rf 1 11 87 87 h) (rg2_w k491 (by decide)), Or.inr ⟨rfl, by rw [eS]; exact ⟨rfl, rfl⟩⟩⟩
  · have d1 := mt (j_eq (a := q.toInt) (b := (0)) (rfl) (rfl)).mpr c1
    refine aw_iload_n 1 dX8_set_4 rfl rfl ?_
    refine aw_iconst (1) dX8_set_5 (by decide) ?_
    refine aw_icmp_eq 16 dX8_set_6 (by decide) (fun c6 => ?_) (fun c6 => ?_)
    · have d6 := (j_eq (a := q.toInt) (b := (1)) (rfl) (rfl)).mp c6
      refine aw_iload_n 2 dX8_set_16 rfl rfl ?_
      refine aw_if_ge 27 dX8_set_17 (by decide) (fun c17 => ?_) (fun c17 => ?_)
      · have d17 := (j_le (a := (0)) (b := v.toInt) (rfl) (rfl)).mp c17
        refine aw_iload_n 2 dX8_set_27 rfl rfl ?_
        refine aw_iload_n 1 dX8_set_28 rfl rfl ?_
        refine aw_if_ne 37 dX8_set_29 (by decide) (fun c29 => ?_) (fun c29 => ?_)
        · have d29 := mt (j_eq (a := q.toInt) (b := (0)) (rfl) (rfl)).mpr c29
          refine aw_bipush (9) dX8_set_37 (by decide) ?_
          refine aw_icmp_le 49 dX8_set_39 (by decide) (fun c39 => ?_) (fun c39 => ?_)
          · have d39 := (j_le (a := v.toInt) (b := (9)) (rfl) (rfl)).mp c39
            refine aw_iload_n 1 dX8_set_49 rfl rfl ?_
            refine aw_if_ne 64 dX8_set_50 (by decide) (fun c50 => ?_) (fun c50 => ?_)
            · have d50 := mt (j_eq (a := q.toInt) (b := (0)) (rfl) (rfl)).mpr c50
              obtain ⟨a, bb_a, ee_a⟩ := i_nat (x := v) (N := 10) (by omega) (by omega)
              subst ee_a
              have tt_a : (nI a).toInt = (a : Int) := nI_toInt (by omega)
              have nn_a : tn (nI a) = a := tn_nI (by omega)
              refine aw_aload_n 0 dX8_set_64 rfl rfl ?_
              refine aw_get fX8_20 dX8_set_65 h0 rfl ?_
              refine aw_iload_n 2 dX8_set_68 rfl rfl ?_
              refine aw_eV [.int (nI a)] [] lX8_101 vX1_tellFade mX1_tellFade dX8_set_69 (aX1_tellFade (m := m) (se := se) (ye := ye) (fi := fi) (W := W) (Sn := Sn) (Z := Z) (Ro := Ro) (Co := Co) (Ba := Ba) (nb := nb) (sp := sp) (fa := fa) (ve := ve) (v := a) h1 h2 h3 h4 h5 h6 h7 h8 h9 h10 h11) h1 rfl rfl rfl (Nat.le_of_ble_eq_true rfl) (by decide) (by decide) rfl (fun h505 q504 => ?_)
              obtain ⟨f506, f507, f508, f509, f510, f511, f512, f513, f514, f515, f516, k517⟩ := q504
              have f518 := rng_at k517 (by decide) h0
              have f519 := rng_at k517 (by decide) h87
              subst hQF
              have eS : spSet sp fa q (nI a) = ((nI fa), sp, a) := by unfold spSet; (repeat' split) <;> first | (exfalso; omega) | rfl | (simp only [nn_a]; done)
              exact aw_iret rfl dX8_set_72 (by decide) (by decide) ⟨by rw [eS], _, _, by rw [eS]; exact f506, f507, f508, f509, f510, f511, f512, f513, f514, f515, f516, f519, rg2_tr (rg2_rf 1 11 87 87 h) (rg2_w k517 (by decide)), Or.inl rfl⟩
            · have d50 := (j_eq (a := q.toInt) (b := (0)) (rfl) (rfl)).mp c50
              obtain ⟨a, bb_a, ee_a⟩ := i_nat (x := v) (N := 51) (by omega) (by omega)
              subst ee_a
              have tt_a : (nI a).toInt = (a : Int) := nI_toInt (by omega)
              have nn_a : tn (nI a) = a := tn_nI (by omega)
              refine aw_aload_n 0 dX8_set_53 rfl rfl ?_
              refine aw_get fX8_20 dX8_set_54 h0 rfl ?_
              refine aw_iload_n 2 dX8_set_57 rfl rfl ?_
              refine aw_eV [.int (nI a)] [] lX8_98 vX1_tellSpare mX1_tellSpare dX8_set_58 (aX1_tellSpare (m := m) (se := se) (ye := ye) (fi := fi) (W := W) (Sn := Sn) (Z := Z) (Ro := Ro) (Co := Co) (Ba := Ba) (nb := nb) (sp := sp) (fa := fa) (ve := ve) (v := a) h1 h2 h3 h4 h5 h6 h7 h8 h9 h10 h11) h1 rfl rfl rfl (Nat.le_of_ble_eq_true rfl) (by decide) (by decide) rfl (fun h521 q520 => ?_)
              obtain ⟨f522, f523, f524, f525, f526, f527, f528, f529, f530, f531, f532, k533⟩ := q520
              have f534 := rng_at k533 (by decide) h0
              have f535 := rng_at k533 (by decide) h87
              refine aw_goto 72 dX8_set_61 (by decide) ?_
              subst hQF
              have eS : spSet sp fa q (nI a) = ((nI sp), a, fa) := by unfold spSet; (repeat' split) <;> first | (exfalso; omega) | rfl | (simp only [nn_a]; done)
              exact aw_iret rfl dX8_set_72 (by decide) (by decide) ⟨by rw [eS], _, _, by rw [eS]; exact f522, f523, f524, f525, f526, f527, f528, f529, f530, f531, f532, f535, rg2_tr (rg2_rf 1 11 87 87 h) (rg2_w k533 (by decide)), Or.inl rfl⟩
          · have d39 := mt (j_le (a := v.toInt) (b := (9)) (rfl) (rfl)).mpr c39
            refine aw_aload_n 0 dX8_set_42 rfl rfl ?_
            refine aw_bipush (-6) dX8_set_43 (by decide) ?_
            refine aw_eV [.int (-6)] [] lX8_70 vX8_refuse mX8_refuse dX8_set_45 (bX8_refuse (jv := jv) (bv := bv) (rf := rf) (x := (-6)) (q := 6) h0 h87 (by decide) (by decide)) h0 rfl rfl rfl (Nat.le_of_ble_eq_true rfl) (by decide) (by decide) rfl (fun h538 q537 => ?_)
            obtain ⟨rf1536, f539, k540⟩ := q537
            have f541 := rng_at k540 (by decide) h0
            have f542 := rng_at k540 (by decide) h1
            have f543 := rng_at k540 (by decide) h2
            have f544 := rng_at k540 (by decide) h3
            have f545 := rng_at k540 (by decide) h4
            have f546 := rng_at k540 (by decide) h5
            have f547 := rng_at k540 (by decide) h6
            have f548 := rng_at k540 (by decide) h7
            have f549 := rng_at k540 (by decide) h8
            have f550 := rng_at k540 (by decide) h9
            have f551 := rng_at k540 (by decide) h10
            have f552 := rng_at k540 (by decide) h11
            subst hQF
            have eS : spSet sp fa q v = ((-6), sp, fa) := by unfold spSet; (repeat' split) <;> first | (exfalso; omega) | rfl
            exact aw_iret rfl dX8_set_48 (by decide) (by decide) ⟨by rw [eS], _, _, by rw [eS]; exact f542, f543, f544, f545, f546, f547, f548, f549, f550, f551, f552, f539, rg2_tr (rg2_rf 1 11 87 87 h) (rg2_w k540 (by decide)), Or.inr ⟨rfl, by rw [eS]; exact ⟨rfl, rfl⟩⟩⟩
        · have d29 := (j_eq (a := q.toInt) (b := (0)) (rfl) (rfl)).mp c29
          refine aw_bipush (50) dX8_set_32 (by decide) ?_
          refine aw_goto 39 dX8_set_34 (by decide) ?_
          refine aw_icmp_le 49 dX8_set_39 (by decide) (fun c39 => ?_) (fun c39 => ?_)
          · have d39 := (j_le (a := v.toInt) (b := (50)) (rfl) (rfl)).mp c39
            refine aw_iload_n 1 dX8_set_49 rfl rfl ?_
            refine aw_if_ne 64 dX8_set_50 (by decide) (fun c50 => ?_) (fun c50 => ?_)
            · have d50 := mt (j_eq (a := q.toInt) (b := (0)) (rfl) (rfl)).mpr c50
              obtain ⟨a, bb_a, ee_a⟩ := i_nat (x := v) (N := 10) (by omega) (by omega)
              subst ee_a
              have tt_a : (nI a).toInt = (a : Int) := nI_toInt (by omega)
              have nn_a : tn (nI a) = a := tn_nI (by omega)
              refine aw_aload_n 0 dX8_set_64 rfl rfl ?_
              refine aw_get fX8_20 dX8_set_65 h0 rfl ?_
              refine aw_iload_n 2 dX8_set_68 rfl rfl ?_
              refine aw_eV [.int (nI a)] [] lX8_101 vX1_tellFade mX1_tellFade dX8_set_69 (aX1_tellFade (m := m) (se := se) (ye := ye) (fi := fi) (W := W) (Sn := Sn) (Z := Z) (Ro := Ro) (Co := Co) (Ba := Ba) (nb := nb) (sp := sp) (fa := fa) (ve := ve) (v := a) h1 h2 h3 h4 h5 h6 h7 h8 h9 h10 h11) h1 rfl rfl rfl (Nat.le_of_ble_eq_true rfl) (by decide) (by decide) rfl (fun h554 q553 => ?_)
              obtain ⟨f555, f556, f557, f558, f559, f560, f561, f562, f563, f564, f565, k566⟩ := q553
              have f567 := rng_at k566 (by decide) h0
              have f568 := rng_at k566 (by decide) h87
              subst hQF
              have eS : spSet sp fa q (nI a) = ((nI fa), sp, a) := by unfold spSet; (repeat' split) <;> first | (exfalso; omega) | rfl | (simp only [nn_a]; done)
              exact aw_iret rfl dX8_set_72 (by decide) (by decide) ⟨by rw [eS], _, _, by rw [eS]; exact f555, f556, f557, f558, f559, f560, f561, f562, f563, f564, f565, f568, rg2_tr (rg2_rf 1 11 87 87 h) (rg2_w k566 (by decide)), Or.inl rfl⟩
            · have d50 := (j_eq (a := q.toInt) (b := (0)) (rfl) (rfl)).mp c50
              obtain ⟨a, bb_a, ee_a⟩ := i_nat (x := v) (N := 51) (by omega) (by omega)
              subst ee_a
              have tt_a : (nI a).toInt = (a : Int) := nI_toInt (by omega)
              have nn_a : tn (nI a) = a := tn_nI (by omega)
              refine aw_aload_n 0 dX8_set_53 rfl rfl ?_
              refine aw_get fX8_20 dX8_set_54 h0 rfl ?_
              refine aw_iload_n 2 dX8_set_57 rfl rfl ?_
              refine aw_eV [.int (nI a)] [] lX8_98 vX1_tellSpare mX1_tellSpare dX8_set_58 (aX1_tellSpare (m := m) (se := se) (ye := ye) (fi := fi) (W := W) (Sn := Sn) (Z := Z) (Ro := Ro) (Co := Co) (Ba := Ba) (nb := nb) (sp := sp) (fa := fa) (ve := ve) (v := a) h1 h2 h3 h4 h5 h6 h7 h8 h9 h10 h11) h1 rfl rfl rfl (Nat.le_of_ble_eq_true rfl) (by decide) (by decide) rfl (fun h570 q569 => ?_)
              obtain ⟨f571, f572, f573, f574, f575, f576, f577, f578, f579, f580, f581, k582⟩ := q569
              have f583 := rng_at k582 (by decide) h0
              have f584 := rng_at k582 (by decide) h87
              refine aw_goto 72 dX8_set_61 (by decide) ?_
              subst hQF
              have eS : spSet sp fa q (nI a) = ((nI sp), a, fa) := by unfold spSet; (repeat' split) <;> first | (exfalso; omega) | rfl | (simp only [nn_a]; done)
              exact aw_iret rfl dX8_set_72 (by decide) (by decide) ⟨by rw [eS], _, _, by rw [eS]; exact f571, f572, f573, f574, f575, f576, f577, f578, f579, f580, f581, f584, rg2_tr (rg2_rf 1 11 87 87 h) (rg2_w k582 (by decide)), Or.inl rfl⟩
          · have d39 := mt (j_le (a := v.toInt) (b := (50)) (rfl) (rfl)).mpr c39
            refine aw_aload_n 0 dX8_set_42 rfl rfl ?_
            refine aw_bipush (-6) dX8_set_43 (by decide) ?_
            refine aw_eV [.int (-6)] [] lX8_70 vX8_refuse mX8_refuse dX8_set_45 (bX8_refuse (jv := jv) (bv := bv) (rf := rf) (x := (-6)) (q := 6) h0 h87 (by decide) (by decide)) h0 rfl rfl rfl (Nat.le_of_ble_eq_true rfl) (by decide) (by decide) rfl (fun h587 q586 => ?_)
            obtain ⟨rf1585, f588, k589⟩ := q586
            have f590 := rng_at k589 (by decide) h0
            have f591 := rng_at k589 (by decide) h1
            have f592 := rng_at k589 (by decide) h2
            have f593 := rng_at k589 (by decide) h3
            have f594 := rng_at k589 (by decide) h4
            have f595 := rng_at k589 (by decide) h5
            have f596 := rng_at k589 (by decide) h6
            have f597 := rng_at k589 (by decide) h7
            have f598 := rng_at k589 (by decide) h8
            have f599 := rng_at k589 (by decide) h9
            have f600 := rng_at k589 (by decide) h10
            have f601 := rng_at k589 (by decide) h11
            subst hQF
            have eS : spSet sp fa q v = ((-6), sp, fa) := by unfold spSet; (repeat' split) <;> first | (exfalso; omega) | rfl
            exact aw_iret rfl dX8_set_48 (by decide) (by decide) ⟨by rw [eS], _, _, by rw [eS]; exact f591, f592, f593, f594, f595, f596, f597, f598, f599, f600, f601, f588, rg2_tr (rg2_rf 1 11 87 87 h) (rg2_w k589 (by decide)), Or.inr ⟨rfl, by rw [eS]; exact ⟨rfl, rfl⟩⟩⟩
      · have d17 := mt (j_le (a := (0)) (b := v.toInt) (rfl) (rfl)).mpr c17
        refine aw_aload_n 0 dX8_set_20 rfl rfl ?_
        refine aw_bipush (-4) dX8_set_21 (by decide) ?_
        refine aw_eV [.int (-4)] [] lX8_70 vX8_refuse mX8_refuse dX8_set_23 (bX8_refuse (jv := jv) (bv := bv) (rf := rf) (x := (-4)) (q := 4) h0 h87 (by decide) (by decide)) h0 rfl rfl rfl (Nat.le_of_ble_eq_true rfl) (by decide) (by decide) rfl (fun h604 q603 => ?_)
        obtain ⟨rf1602, f605, k606⟩ := q603
        have f607 := rng_at k606 (by decide) h0
        have f608 := rng_at k606 (by decide) h1
        have f609 := rng_at k606 (by decide) h2
        have f610 := rng_at k606 (by decide) h3
        have f611 := rng_at k606 (by decide) h4
        have f612 := rng_at k606 (by decide) h5
        have f613 := rng_at k606 (by decide) h6
        have f614 := rng_at k606 (by decide) h7
        have f615 := rng_at k606 (by decide) h8
        have f616 := rng_at k606 (by decide) h9
        have f617 := rng_at k606 (by decide) h10
        have f618 := rng_at k606 (by decide) h11
        subst hQF
        have eS : spSet sp fa q v = ((-4), sp, fa) := by unfold spSet; (repeat' split) <;> first | (exfalso; omega) | rfl
        exact aw_iret rfl dX8_set_26 (by decide) (by decide) ⟨by rw [eS], _, _, by rw [eS]; exact f608, f609, f610, f611, f612, f613, f614, f615, f616, f617, f618, f605, rg2_tr (rg2_rf 1 11 87 87 h) (rg2_w k606 (by decide)), Or.inr ⟨rfl, by rw [eS]; exact ⟨rfl, rfl⟩⟩⟩
    · have d6 := mt (j_eq (a := q.toInt) (b := (1)) (rfl) (rfl)).mpr c6
      refine aw_aload_n 0 dX8_set_9 rfl rfl ?_
      refine aw_bipush (-2) dX8_set_10 (by decide) ?_
      refine aw_eV [.int (-2)] [] lX8_70 vX8_refuse mX8_refuse dX8_set_12 (bX8_refuse (jv := jv) (bv := bv) (rf := rf) (x := (-2)) (q := 2) h0 h87 (by decide) (by decide)) h0 rfl rfl rfl (Nat.le_of_ble_eq_true rfl) (by decide) (by decide) rfl (fun h621 q620 => ?_)
      obtain ⟨rf1619, f622, k623⟩ := q620
      have f624 := rng_at k623 (by decide) h0
      have f625 := rng_at k623 (by decide) h1
      have f626 := rng_at k623 (by decide) h2
      have f627 := rng_at k623 (by decide) h3
      have f628 := rng_at k623 (by decide) h4
      have f629 := rng_at k623 (by decide) h5
      have f630 := rng_at k623 (by decide) h6
      have f631 := rng_at k623 (by decide) h7
      have f632 := rng_at k623 (by decide) h8
      have f633 := rng_at k623 (by decide) h9
      have f634 := rng_at k623 (by decide) h10
      have f635 := rng_at k623 (by decide) h11
      subst hQF
      have eS : spSet sp fa q v = ((-2), sp, fa) := by unfold spSet; (repeat' split) <;> first | (exfalso; omega) | rfl
      exact aw_iret rfl dX8_set_15 (by decide) (by decide) ⟨by rw [eS], _, _, by rw [eS]; exact f625, f626, f627, f628, f629, f630, f631, f632, f633, f634, f635, f622, rg2_tr (rg2_rf 1 11 87 87 h) (rg2_w k623 (by decide)), Or.inr ⟨rfl, by rw [eS]; exact ⟨rfl, rfl⟩⟩⟩
set_option maxHeartbeats 4000000 in
theorem oX8_part {l : Launch} {G : xG} {h : List va_E} {jv bv : Value} {rf : Nat → Int32} {kd fo : Nat → Nat} {cn : Int32} {p v : Int32} (h0 : h[0]? = some (oB 8 (lX G (jv) (bv)))) (h87 : h[87]? = some (aI 7 rf)) (h84 : h[84]? = some (oB 0 (lB G cn))) (h85 : h[85]? = some (aI 10 (nA kd))) (h86 : h[86]? = some (aI 6 (nA fo))) (bkd : ∀ j, j < 10 → kd j < 6) (bfo : ∀ j, j < 6 → fo j < 64) : CE l G yX8_part cX8_part 3 (some .int) 2 0 0 [.ref (G.1 + 0), .int p, .int v] h (some (.int ((spPart kd p v).1))) (fun h1 => ∃ rf1 : Nat → Int32, h1[84]? = some (oB 0 (lB G cn)) ∧ h1[85]? = some (aI 10 (nA ((spPart kd p v).2))) ∧ h1[86]? = some (aI 6 (nA fo)) ∧ h1[87]? = some (aI 7 rf1) ∧ rg2 84 86 87 87 h h1) := by
  refine cm_ofQ rfl (Nat.le_of_ble_eq_true rfl) [(0, .ref (G.1 + 0)), (1, .int p), (2, .int v)] rfl (fun QF hQF => ?_)
  refine aw_iload_n 1 dX8_part_0 rfl rfl ?_
  refine aw_if_lt 10 dX8_part_1 (by decide) (fun c1 => ?_) (fun c1 => ?_)
  · have d1 := (j_lt (a := p.toInt) (b := (0)) (rfl) (rfl)).mp c1
    refine aw_aload_n 0 dX8_part_10 rfl rfl ?_
    refine aw_iconst (-1) dX8_part_11 (by decide) ?_
    refine aw_eV [.int (-1)] [] lX8_70 vX8_refuse mX8_refuse dX8_part_12 (bX8_refuse (jv := jv) (bv := bv) (rf := rf) (x := (-1)) (q := 1) h0 h87 (by decide) (by decide)) h0 rfl rfl rfl (Nat.le_of_ble_eq_true rfl) (by decide) (by decide) rfl (fun h638 q637 => ?_)
    obtain ⟨rf1636, f639, k640⟩ := q637
    have f641 := rng_at k640 (by decide) h0
    have f642 := rng_at k640 (by decide) h84
    have f643 := rng_at k640 (by decide) h85
    have f644 := rng_at k640 (by decide) h86
    subst hQF
    have eS : spPart kd p v = ((-1), kd) := by unfold spPart; (repeat' split) <;> first | (exfalso; omega) | rfl
    exact aw_iret rfl dX8_part_15 (by decide) (by decide) ⟨by rw [eS], _, f642, by rw [eS]; exact f643, f644, f639, rg2_tr (rg2_rf 84 86 87 87 h) (rg2_w k640 (by decide))⟩
  · have d1 := mt (j_lt (a := p.toInt) (b := (0)) (rfl) (rfl)).mpr c1
    refine aw_iload_n 1 dX8_part_4 rfl rfl ?_
    refine aw_bipush (10) dX8_part_5 (by decide) ?_
    refine aw_icmp_lt 16 dX8_part_7 (by decide) (fun c7 => ?_) (fun c7 => ?_)
    · have d7 := (j_lt (a := p.toInt) (b := (10)) (rfl) (rfl)).mp c7
      refine aw_iload_n 2 dX8_part_16 rfl rfl ?_
      refine aw_if_ge 27 dX8_part_17 (by decide) (fun c17 => ?_) (fun c17 => ?_)
      · have d17 := (j_le (a := (0)) (b := v.toInt) (rfl) (rfl)).mp c17
        refine aw_iload_n 2 dX8_part_27 rfl rfl ?_
        refine aw_bipush (6) dX8_part_28 (by decide) ?_
        refine aw_icmp_lt 40 dX8_part_30 (by decide) (fun c30 => ?_) (fun c30 => ?_)
        · have d30 := (j_lt (a := v.toInt) (b := (6)) (rfl) (rfl)).mp c30
          obtain ⟨a, bb_a, ee_a⟩ := i_nat (x := p) (N := 10) (by omega) (by omega)
          subst ee_a
          have tt_a : (nI a).toInt = (a : Int) := nI_toInt (by omega)
          have nn_a : tn (nI a) = a := tn_nI (by omega)
          obtain ⟨b, bb_b, ee_b⟩ := i_nat (x := v) (N := 6) (by omega) (by omega)
          subst ee_b
          have tt_b : (nI b).toInt = (b : Int) := nI_toInt (by omega)
          have nn_b : tn (nI b) = b := tn_nI (by omega)
          refine aw_aload_n 0 dX8_part_40 rfl rfl ?_
          refine aw_get fX8_58 dX8_part_41 h0 rfl ?_
          refine aw_iload_n 1 dX8_part_44 rfl rfl ?_
          refine aw_iload_n 2 dX8_part_45 rfl rfl ?_
          refine aw_eV [.int (nI a), .int (nI b)] [] lX8_227 vX0_tellKind mX0_tellKind dX8_part_46 (aX0_tellKind (kd := kd) (fo := fo) (cn := cn) (p := a) (v := b) h84 h85 h86 (by omega)) h84 rfl rfl rfl (Nat.le_of_ble_eq_true rfl) (by decide) (by decide) rfl (fun h646 q645 => ?_)
          obtain ⟨f647, f648, f649, k650⟩ := q645
          have f651 := rng_at k650 (by decide) h0
          have f652 := rng_at k650 (by decide) h87
          subst hQF
          have eS : spPart kd (nI a) (nI b) = ((nI (kd a)), un kd a b) := by unfold spPart; (repeat' split) <;> first | (exfalso; omega) | rfl | (simp only [nn_a, nn_b]; done)
          exact aw_iret rfl dX8_part_49 (by decide) (by decide) ⟨by rw [eS], _, f647, by rw [eS]; exact f648, f649, f652, rg2_tr (rg2_rf 84 86 87 87 h) (rg2_w k650 (by decide))⟩
        · have d30 := mt (j_lt (a := v.toInt) (b := (6)) (rfl) (rfl)).mpr c30
          refine aw_aload_n 0 dX8_part_33 rfl rfl ?_
          refine aw_bipush (-6) dX8_part_34 (by decide) ?_
          refine aw_eV [.int (-6)] [] lX8_70 vX8_refuse mX8_refuse dX8_part_36 (bX8_refuse (jv := jv) (bv := bv) (rf := rf) (x := (-6)) (q := 6) h0 h87 (by decide) (by decide)) h0 rfl rfl rfl (Nat.le_of_ble_eq_true rfl) (by decide) (by decide) rfl (fun h655 q654 => ?_)
          obtain ⟨rf1653, f656, k657⟩ := q654
          have f658 := rng_at k657 (by decide) h0
          have f659 := rng_at k657 (by decide) h84
          have f660 := rng_at k657 (by decide) h85
          have f661 := rng_at k657 (by decide) h86
          subst hQF
          have eS : spPart kd p v = ((-6), kd) := by unfold spPart; (repeat' split) <;> first | (exfalso; omega) | rfl
          exact aw_iret rfl dX8_part_39 (by decide) (by decide) ⟨by rw [eS], _, f659, by rw [eS]; exact f660, f661, f656, rg2_tr (rg2_rf 84 86 87 87 h) (rg2_w k657 (by decide))⟩
      · have d17 := mt (j_le (a := (0)) (b := v.toInt) (rfl) (rfl)).mpr c17
        refine aw_aload_n 0 dX8_part_20 rfl rfl ?_
        refine aw_bipush (-4) dX8_part_21 (by decide) ?_
        refine aw_eV [.int (-4)] [] lX8_70 vX8_refuse mX8_refuse dX8_part_23 (bX8_refuse (jv := jv) (bv := bv) (rf := rf) (x := (-4)) (q := 4) h0 h87 (by decide) (by decide)) h0 rfl rfl rfl (Nat.le_of_ble_eq_true rfl) (by decide) (by decide) rfl (fun h664 q663 => ?_)
        obtain ⟨rf1662, f665, k666⟩ := q663
        have f667 := rng_at k666 (by decide) h0
        have f668 := rng_at k666 (by decide) h84
        have f669 := rng_at k666 (by decide) h85
        have f670 := rng_at k666 (by decide) h86
        subst hQF
        have eS : spPart kd p v = ((-4), kd) := by unfold spPart; (repeat' split) <;> first | (exfalso; omega) | rfl
        exact aw_iret rfl dX8_part_26 (by decide) (by decide) ⟨by rw [eS], _, f668, by rw [eS]; exact f669, f670, f665, rg2_tr (rg2_rf 84 86 87 87 h) (rg2_w k666 (by decide))⟩
    · have d7 := mt (j_lt (a := p.toInt) (b := (10)) (rfl) (rfl)).mpr c7
      refine aw_aload_n 0 dX8_part_10 rfl rfl ?_
      refine aw_iconst (-1) dX8_part_11 (by decide) ?_
      refine aw_eV [.int (-1)] [] lX8_70 vX8_refuse mX8_refuse dX8_part_12 (bX8_refuse (jv := jv) (bv := bv) (rf := rf) (x := (-1)) (q := 1) h0 h87 (by decide) (by decide)) h0 rfl rfl rfl (Nat.le_of_ble_eq_true rfl) (by decide) (by decide) rfl (fun h673 q672 => ?_)
      obtain ⟨rf1671, f674, k675⟩ := q672
      have f676 := rng_at k675 (by decide) h0
      have f677 := rng_at k675 (by decide) h84
      have f678 := rng_at k675 (by decide) h85
      have f679 := rng_at k675 (by decide) h86
      subst hQF
      have eS : spPart kd p v = ((-1), kd) := by unfold spPart; (repeat' split) <;> first | (exfalso; omega) | rfl
      exact aw_iret rfl dX8_part_15 (by decide) (by decide) ⟨by rw [eS], _, f677, by rw [eS]; exact f678, f679, f674, rg2_tr (rg2_rf 84 86 87 87 h) (rg2_w k675 (by decide))⟩
set_option maxHeartbeats 4000000 in
theorem oX8_clash0 {l : Launch} {G : xG} {h : List va_E} {jv bv : Value} {rf : Nat → Int32} {kd fo : Nat → Nat} {cn : Int32} {a b : Int32} (h0 : h[0]? = some (oB 8 (lX G (jv) (bv)))) (h87 : h[87]? = some (aI 7 rf)) (h84 : h[84]? = some (oB 0 (lB G cn))) (h85 : h[85]? = some (aI 10 (nA kd))) (h86 : h[86]? = some (aI 6 (nA fo))) (bkd : ∀ j, j < 10 → kd j < 6) (bfo : ∀ j, j < 6 → fo j < 64) : CE l G yX8_clash cX8_clash 4 (some .int) 2 0 0 [.ref (G.1 + 0), .int a, .int b, .int 0] h (some (.int ((spClashF fo a b false).1))) (fun h1 => ∃ cn1 : Int32, ∃ rf1 : Nat → Int32, h1[84]? = some (oB 0 (lB G cn1)) ∧ h1[85]? = some (aI 10 (nA kd)) ∧ h1[86]? = some (aI 6 (nA ((spClashF fo a b false).2))) ∧ h1[87]? = some (aI 7 rf1) ∧ rg2 84 86 87 87 h h1) := by
  refine cm_ofQ rfl (Nat.le_of_ble_eq_true rfl) [(0, .ref (G.1 + 0)), (1, .int a), (2, .int b), (3, .int 0)] rfl (fun QF hQF => ?_)
  refine aw_iload_n 1 dX8_clash_0 rfl rfl ?_
  refine aw_if_lt 8 dX8_clash_1 (by decide) (fun c1 => ?_) (fun c1 => ?_)
  · have d1 := (j_lt (a := a.toInt) (b := (0)) (rfl) (rfl)).mp c1
    refine aw_aload_n 0 dX8_clash_8 rfl rfl ?_
    refine aw_bipush (-4) dX8_clash_9 (by decide) ?_
    refine aw_eV [.int (-4)] [] lX8_70 vX8_refuse mX8_refuse dX8_clash_11 (bX8_refuse (jv := jv) (bv := bv) (rf := rf) (x := (-4)) (q := 4) h0 h87 (by decide) (by decide)) h0 rfl rfl rfl (Nat.le_of_ble_eq_true rfl) (by decide) (by decide) rfl (fun h682 q681 => ?_)
    obtain ⟨rf1680, f683, k684⟩ := q681
    have f685 := rng_at k684 (by decide) h0
    have f686 := rng_at k684 (by decide) h84
    have f687 := rng_at k684 (by decide) h85
    have f688 := rng_at k684 (by decide) h86
    subst hQF
    have eS : spClashF fo a b false = ((-4), fo) := by unfold spClashF; (repeat' split) <;> first | (exfalso; omega) | rfl | contradiction
    exact aw_iret rfl dX8_clash_14 (by decide) (by decide) ⟨by rw [eS], _, _, f686, f687, by rw [eS]; exact f688, f683, rg2_tr (rg2_rf 84 86 87 87 h) (rg2_w k684 (by decide))⟩
  · have d1 := mt (j_lt (a := a.toInt) (b := (0)) (rfl) (rfl)).mpr c1
    refine aw_iload_n 2 dX8_clash_4 rfl rfl ?_
    refine aw_if_ge 15 dX8_clash_5 (by decide) (fun c5 => ?_) (fun c5 => ?_)
    · have d5 := (j_le (a := (0)) (b := b.toInt) (rfl) (rfl)).mp c5
      refine aw_iload_n 1 dX8_clash_15 rfl rfl ?_
      refine aw_bipush (6) dX8_clash_16 (by decide) ?_
      refine aw_icmp_ge 27 dX8_clash_18 (by decide) (fun c18 => ?_) (fun c18 => ?_)
      · have d18 := (j_le (a := (6)) (b := a.toInt) (rfl) (rfl)).mp c18
        refine aw_aload_n 0 dX8_clash_27 rfl rfl ?_
        refine aw_bipush (-6) dX8_clash_28 (by decide) ?_
        refine aw_eV [.int (-6)] [] lX8_70 vX8_refuse mX8_refuse dX8_clash_30 (bX8_refuse (jv := jv) (bv := bv) (rf := rf) (x := (-6)) (q := 6) h0 h87 (by decide) (by decide)) h0 rfl rfl rfl (Nat.le_of_ble_eq_true rfl) (by decide) (by decide) rfl (fun h691 q690 => ?_)
        obtain ⟨rf1689, f692, k693⟩ := q690
        have f694 := rng_at k693 (by decide) h0
        have f695 := rng_at k693 (by decide) h84
        have f696 := rng_at k693 (by decide) h85
        have f697 := rng_at k693 (by decide) h86
        subst hQF
        have eS : spClashF fo a b false = ((-6), fo) := by unfold spClashF; (repeat' split) <;> first | (exfalso; omega) | rfl | contradiction
        exact aw_iret rfl dX8_clash_33 (by decide) (by decide) ⟨by rw [eS], _, _, f695, f696, by rw [eS]; exact f697, f692, rg2_tr (rg2_rf 84 86 87 87 h) (rg2_w k693 (by decide))⟩
      · have d18 := mt (j_le (a := (6)) (b := a.toInt) (rfl) (rfl)).mpr c18
        refine aw_iload_n 2 dX8_clash_21 rfl rfl ?_
        refine aw_bipush (6) dX8_clash_22 (by decide) ?_
        refine aw_icmp_lt 34 dX8_clash_24 (by decide) (fun c24 => ?_) (fun c24 => ?_)
        · have d24 := (j_lt (a := b.toInt) (b := (6)) (rfl) (rfl)).mp c24
          refine aw_iload_n 1 dX8_clash_34 rfl rfl ?_
          refine aw_iload_n 2 dX8_clash_35 rfl rfl ?_
          refine aw_icmp_ne 46 dX8_clash_36 (by decide) (fun c36 => ?_) (fun c36 => ?_)
          · have d36 := mt (j_eq (a := a.toInt) (b := b.toInt) (rfl) (rfl)).mpr c36
            obtain ⟨x, bb_x, ee_x⟩ := i_nat (x := a) (N := 6) (by omega) (by omega)
            subst ee_x
            have tt_x : (nI x).toInt = (x : Int) := nI_toInt (by omega)
            have nn_x : tn (nI x) = x := tn_nI (by omega)
            obtain ⟨y, bb_y, ee_y⟩ := i_nat (x := b) (N := 6) (by omega) (by omega)
            subst ee_y
            have tt_y : (nI y).toInt = (y : Int) := nI_toInt (by omega)
            have nn_y : tn (nI y) = y := tn_nI (by omega)
            cases hw : (fo x).testBit y
            · refine aw_aload_n 0 dX8_clash_46 rfl rfl ?_
              refine aw_get fX8_58 dX8_clash_47 h0 rfl ?_
              refine aw_iload_n 1 dX8_clash_50 rfl rfl ?_
              refine aw_iload_n 2 dX8_clash_51 rfl rfl ?_
              refine aw_iload_n 3 dX8_clash_52 rfl rfl ?_
              refine aw_dV [.int (nI x), .int (nI y), .int 0] [] lX8_230 vX0_tellClash mX0_tellClash dX8_clash_53 (aX0_tellClash_s0 (kd := kd) (fo := fo) (cn := cn) (a := x) (b := y) h84 h85 h86 bkd bfo (by omega) (by omega) hw) h84 rfl rfl rfl (Nat.le_of_ble_eq_true rfl) (by decide) (by decide) rfl ?_
              refine aw_if_eq 63 dX8_clash_56 (by decide) (fun c56 => ?_) (fun c56 => absurd (by decide) c56)
              refine aw_iconst (0) dX8_clash_63 (by decide) ?_
              subst hQF
              have eS : spClashF fo (nI x) (nI y) false = (0, fo) := by unfold spClashF; simp only [nn_x, nn_y, hw]; (repeat' split) <;> first | (exfalso; omega) | rfl | contradiction
              exact aw_iret rfl dX8_clash_64 (by decide) (by decide) ⟨by rw [eS], _, _, h84, h85, by rw [eS]; exact h86, h87, rg2_rf 84 86 87 87 h⟩
            · refine aw_aload_n 0 dX8_clash_46 rfl rfl ?_
              refine aw_get fX8_58 dX8_clash_47 h0 rfl ?_
              refine aw_iload_n 1 dX8_clash_50 rfl rfl ?_
              refine aw_iload_n 2 dX8_clash_51 rfl rfl ?_
              refine aw_iload_n 3 dX8_clash_52 rfl rfl ?_
              refine aw_eV [.int (nI x), .int (nI y), .int 0] [] lX8_230 vX0_tellClash mX0_tellClash dX8_clash_53 (aX0_tellClash_c0 (kd := kd) (fo := fo) (cn := cn) (a := x) (b := y) h84 h85 h86 bkd bfo (by omega) (by omega) hw) h84 rfl rfl rfl (Nat.le_of_ble_eq_true rfl) (by decide) (by decide) rfl (fun h699 q698 => ?_)
              obtain ⟨f700, f701, f702, k703⟩ := q698
              have f704 := rng_at k703 (by decide) h0
              have f705 := rng_at k703 (by decide) h87
              refine aw_if_eq 63 dX8_clash_56 (by decide) (fun c56 => absurd c56 (by decide)) (fun c56 => ?_)
              refine aw_iconst (1) dX8_clash_59 (by decide) ?_
              refine aw_goto 64 dX8_clash_60 (by decide) ?_
              subst hQF
              have eS : spClashF fo (nI x) (nI y) false = (1, un (un fo x (fo x ^^^ 2 ^ y)) y (un fo x (fo x ^^^ 2 ^ y) y ^^^ 2 ^ x)) := by unfold spClashF; simp only [nn_x, nn_y, hw]; (repeat' split) <;> first | (exfalso; omega) | rfl | contradiction
              exact aw_iret rfl dX8_clash_64 (by decide) (by decide) ⟨by rw [eS], _, _, f700, f701, by rw [eS]; exact f702, f705, rg2_tr (rg2_rf 84 86 87 87 h) (rg2_w k703 (by decide))⟩
          · have d36 := (j_eq (a := a.toInt) (b := b.toInt) (rfl) (rfl)).mp c36
            refine aw_aload_n 0 dX8_clash_39 rfl rfl ?_
            refine aw_bipush (-3) dX8_clash_40 (by decide) ?_
            refine aw_eV [.int (-3)] [] lX8_70 vX8_refuse mX8_refuse dX8_clash_42 (bX8_refuse (jv := jv) (bv := bv) (rf := rf) (x := (-3)) (q := 3) h0 h87 (by decide) (by decide)) h0 rfl rfl rfl (Nat.le_of_ble_eq_true rfl) (by decide) (by decide) rfl (fun h708 q707 => ?_)
            obtain ⟨rf1706, f709, k710⟩ := q707
            have f711 := rng_at k710 (by decide) h0
            have f712 := rng_at k710 (by decide) h84
            have f713 := rng_at k710 (by decide) h85
            have f714 := rng_at k710 (by decide) h86
            subst hQF
            have eS : spClashF fo a b false = ((-3), fo) := by unfold spClashF; (repeat' split) <;> first | (exfalso; omega) | rfl | contradiction
            exact aw_iret rfl dX8_clash_45 (by decide) (by decide) ⟨by rw [eS], _, _, f712, f713, by rw [eS]; exact f714, f709, rg2_tr (rg2_rf 84 86 87 87 h) (rg2_w k710 (by decide))⟩
        · have d24 := mt (j_lt (a := b.toInt) (b := (6)) (rfl) (rfl)).mpr c24
          refine aw_aload_n 0 dX8_clash_27 rfl rfl ?_
          refine aw_bipush (-6) dX8_clash_28 (by decide) ?_
          refine aw_eV [.int (-6)] [] lX8_70 vX8_refuse mX8_refuse dX8_clash_30 (bX8_refuse (jv := jv) (bv := bv) (rf := rf) (x := (-6)) (q := 6) h0 h87 (by decide) (by decide)) h0 rfl rfl rfl (Nat.le_of_ble_eq_true rfl) (by decide) (by decide) rfl (fun h717 q716 => ?_)
          obtain ⟨rf1715, f718, k719⟩ := q716
          have f720 := rng_at k719 (by decide) h0
          have f721 := rng_at k719 (by decide) h84
          have f722 := rng_at k719 (by decide) h85
          have f723 := rng_at k719 (by decide) h86
          subst hQF
          have eS : spClashF fo a b false = ((-6), fo) := by unfold spClashF; (repeat' split) <;> first | (exfalso; omega) | rfl | contradiction
          exact aw_iret rfl dX8_clash_33 (by decide) (by decide) ⟨by rw [eS], _, _, f721, f722, by rw [eS]; exact f723, f718, rg2_tr (rg2_rf 84 86 87 87 h) (rg2_w k719 (by decide))⟩
    · have d5 := mt (j_le (a := (0)) (b := b.toInt) (rfl) (rfl)).mpr c5
      refine aw_aload_n 0 dX8_clash_8 rfl rfl ?_
      refine aw_bipush (-4) dX8_clash_9 (by decide) ?_
      refine aw_eV [.int (-4)] [] lX8_70 vX8_refuse mX8_refuse dX8_clash_11 (bX8_refuse (jv := jv) (bv := bv) (rf := rf) (x := (-4)) (q := 4) h0 h87 (by decide) (by decide)) h0 rfl rfl rfl (Nat.le_of_ble_eq_true rfl) (by decide) (by decide) rfl (fun h726 q725 => ?_)
      obtain ⟨rf1724, f727, k728⟩ := q725
      have f729 := rng_at k728 (by decide) h0
      have f730 := rng_at k728 (by decide) h84
      have f731 := rng_at k728 (by decide) h85
      have f732 := rng_at k728 (by decide) h86
      subst hQF
      have eS : spClashF fo a b false = ((-4), fo) := by unfold spClashF; (repeat' split) <;> first | (exfalso; omega) | rfl | contradiction
      exact aw_iret rfl dX8_clash_14 (by decide) (by decide) ⟨by rw [eS], _, _, f730, f731, by rw [eS]; exact f732, f727, rg2_tr (rg2_rf 84 86 87 87 h) (rg2_w k728 (by decide))⟩
set_option maxHeartbeats 4000000 in
theorem oX8_clash1 {l : Launch} {G : xG} {h : List va_E} {jv bv : Value} {rf : Nat → Int32} {kd fo : Nat → Nat} {cn : Int32} {a b : Int32} (h0 : h[0]? = some (oB 8 (lX G (jv) (bv)))) (h87 : h[87]? = some (aI 7 rf)) (h84 : h[84]? = some (oB 0 (lB G cn))) (h85 : h[85]? = some (aI 10 (nA kd))) (h86 : h[86]? = some (aI 6 (nA fo))) (bkd : ∀ j, j < 10 → kd j < 6) (bfo : ∀ j, j < 6 → fo j < 64) : CE l G yX8_clash cX8_clash 4 (some .int) 2 0 0 [.ref (G.1 + 0), .int a, .int b, .int 1] h (some (.int ((spClashF fo a b true).1))) (fun h1 => ∃ cn1 : Int32, ∃ rf1 : Nat → Int32, h1[84]? = some (oB 0 (lB G cn1)) ∧ h1[85]? = some (aI 10 (nA kd)) ∧ h1[86]? = some (aI 6 (nA ((spClashF fo a b true).2))) ∧ h1[87]? = some (aI 7 rf1) ∧ rg2 84 86 87 87 h h1) := by
  refine cm_ofQ rfl (Nat.le_of_ble_eq_true rfl) [(0, .ref (G.1 + 0)), (1, .int a), (2, .int b), (3, .int 1)] rfl (fun QF hQF => ?_)
  refine aw_iload_n 1 dX8_clash_0 rfl rfl ?_
  refine aw_if_lt 8 dX8_clash_1 (by decide) (fun c1 => ?_) (fun c1 => ?_)
  · have d1 := (j_lt (a := a.toInt) (b := (0)) (rfl) (rfl)).mp c1
    refine aw_aload_n 0 dX8_clash_8 rfl rfl ?_
    refine aw_bipush (-4) dX8_clash_9 (by decide) ?_
    refine aw_eV [.int (-4)] [] lX8_70 vX8_refuse mX8_refuse dX8_clash_11 (bX8_refuse (jv := jv) (bv := bv) (rf := rf) (x := (-4)) (q := 4) h0 h87 (by decide) (by decide)) h0 rfl rfl rfl (Nat.le_of_ble_eq_true rfl) (by decide) (by decide) rfl (fun h735 q734 => ?_)
    obtain ⟨rf1733, f736, k737⟩ := q734
    have f738 := rng_at k737 (by decide) h0
    have f739 := rng_at k737 (by decide) h84
    have f740 := rng_at k737 (by decide) h85
    have f741 := rng_at k737 (by decide) h86
    subst hQF
    have eS : spClashF fo a b true = ((-4), fo) := by unfold spClashF; (repeat' split) <;> first | (exfalso; omega) | rfl | contradiction
    exact aw_iret rfl dX8_clash_14 (by decide) (by decide) ⟨by rw [eS], _, _, f739, f740, by rw [eS]; exact f741, f736, rg2_tr (rg2_rf 84 86 87 87 h) (rg2_w k737 (by decide))⟩
  · have d1 := mt (j_lt (a := a.toInt) (b := (0)) (rfl) (rfl)).mpr c1
    refine aw_iload_n 2 dX8_clash_4 rfl rfl ?_
    refine aw_if_ge 15 dX8_clash_5 (by decide) (fun c5 => ?_) (fun c5 => ?_)
    · have d5 := (j_le (a := (0)) (b := b.toInt) (rfl) (rfl)).mp c5
      refine aw_iload_n 1 dX8_clash_15 rfl rfl ?_
      refine aw_bipush (6) dX8_clash_16 (by decide) ?_
      refine aw_icmp_ge 27 dX8_clash_18 (by decide) (fun c18 => ?_) (fun c18 => ?_)
      · have d18 := (j_le (a := (6)) (b := a.toInt) (rfl) (rfl)).mp c18
        refine aw_aload_n 0 dX8_clash_27 rfl rfl ?_
        refine aw_bipush (-6) dX8_clash_28 (by decide) ?_
        refine aw_eV [.int (-6)] [] lX8_70 vX8_refuse mX8_refuse dX8_clash_30 (bX8_refuse (jv := jv) (bv := bv) (rf := rf) (x := (-6)) (q := 6) h0 h87 (by decide) (by decide)) h0 rfl rfl rfl (Nat.le_of_ble_eq_true rfl) (by decide) (by decide) rfl (fun h744 q743 => ?_)
        obtain ⟨rf1742, f745, k746⟩ := q743
        have f747 := rng_at k746 (by decide) h0
        have f748 := rng_at k746 (by decide) h84
        have f749 := rng_at k746 (by decide) h85
        have f750 := rng_at k746 (by decide) h86
        subst hQF
        have eS : spClashF fo a b true = ((-6), fo) := by unfold spClashF; (repeat' split) <;> first | (exfalso; omega) | rfl | contradiction
        exact aw_iret rfl dX8_clash_33 (by decide) (by decide) ⟨by rw [eS], _, _, f748, f749, by rw [eS]; exact f750, f745, rg2_tr (rg2_rf 84 86 87 87 h) (rg2_w k746 (by decide))⟩
      · have d18 := mt (j_le (a := (6)) (b := a.toInt) (rfl) (rfl)).mpr c18
        refine aw_iload_n 2 dX8_clash_21 rfl rfl ?_
        refine aw_bipush (6) dX8_clash_22 (by decide) ?_
        refine aw_icmp_lt 34 dX8_clash_24 (by decide) (fun c24 => ?_) (fun c24 => ?_)
        · have d24 := (j_lt (a := b.toInt) (b := (6)) (rfl) (rfl)).mp c24
          refine aw_iload_n 1 dX8_clash_34 rfl rfl ?_
          refine aw_iload_n 2 dX8_clash_35 rfl rfl ?_
          refine aw_icmp_ne 46 dX8_clash_36 (by decide) (fun c36 => ?_) (fun c36 => ?_)
          · have d36 := mt (j_eq (a := a.toInt) (b := b.toInt) (rfl) (rfl)).mpr c36
            obtain ⟨x, bb_x, ee_x⟩ := i_nat (x := a) (N := 6) (by omega) (by omega)
            subst ee_x
            have tt_x : (nI x).toInt = (x : Int) := nI_toInt (by omega)
            have nn_x : tn (nI x) = x := tn_nI (by omega)
            obtain ⟨y, bb_y, ee_y⟩ := i_nat (x := b) (N := 6) (by omega) (by omega)
            subst ee_y
            have tt_y : (nI y).toInt = (y : Int) := nI_toInt (by omega)
            have nn_y : tn (nI y) = y := tn_nI (by omega)
            cases hw : (fo x).testBit y
            · refine aw_aload_n 0 dX8_clash_46 rfl rfl ?_
              refine aw_get fX8_58 dX8_clash_47 h0 rfl ?_
              refine aw_iload_n 1 dX8_clash_50 rfl rfl ?_
              refine aw_iload_n 2 dX8_clash_51 rfl rfl ?_
              refine aw_iload_n 3 dX8_clash_52 rfl rfl ?_
              refine aw_eV [.int (nI x), .int (nI y), .int 1] [] lX8_230 vX0_tellClash mX0_tellClash dX8_clash_53 (aX0_tellClash_c1 (kd := kd) (fo := fo) (cn := cn) (a := x) (b := y) h84 h85 h86 bkd bfo (by omega) (by omega) hw) h84 rfl rfl rfl (Nat.le_of_ble_eq_true rfl) (by decide) (by decide) rfl (fun h752 q751 => ?_)
              obtain ⟨f753, f754, f755, k756⟩ := q751
              have f757 := rng_at k756 (by decide) h0
              have f758 := rng_at k756 (by decide) h87
              refine aw_if_eq 63 dX8_clash_56 (by decide) (fun c56 => absurd c56 (by decide)) (fun c56 => ?_)
              refine aw_iconst (1) dX8_clash_59 (by decide) ?_
              refine aw_goto 64 dX8_clash_60 (by decide) ?_
              subst hQF
              have eS : spClashF fo (nI x) (nI y) true = (1, un (un fo x (fo x ^^^ 2 ^ y)) y (un fo x (fo x ^^^ 2 ^ y) y ^^^ 2 ^ x)) := by unfold spClashF; simp only [nn_x, nn_y, hw]; (repeat' split) <;> first | (exfalso; omega) | rfl | contradiction
              exact aw_iret rfl dX8_clash_64 (by decide) (by decide) ⟨by rw [eS], _, _, f753, f754, by rw [eS]; exact f755, f758, rg2_tr (rg2_rf 84 86 87 87 h) (rg2_w k756 (by decide))⟩
            · refine aw_aload_n 0 dX8_clash_46 rfl rfl ?_
              refine aw_get fX8_58 dX8_clash_47 h0 rfl ?_
              refine aw_iload_n 1 dX8_clash_50 rfl rfl ?_
              refine aw_iload_n 2 dX8_clash_51 rfl rfl ?_
              refine aw_iload_n 3 dX8_clash_52 rfl rfl ?_
              refine aw_dV [.int (nI x), .int (nI y), .int 1] [] lX8_230 vX0_tellClash mX0_tellClash dX8_clash_53 (aX0_tellClash_s1 (kd := kd) (fo := fo) (cn := cn) (a := x) (b := y) h84 h85 h86 bkd bfo (by omega) (by omega) hw) h84 rfl rfl rfl (Nat.le_of_ble_eq_true rfl) (by decide) (by decide) rfl ?_
              refine aw_if_eq 63 dX8_clash_56 (by decide) (fun c56 => ?_) (fun c56 => absurd (by decide) c56)
              refine aw_iconst (0) dX8_clash_63 (by decide) ?_
              subst hQF
              have eS : spClashF fo (nI x) (nI y) true = (0, fo) := by unfold spClashF; simp only [nn_x, nn_y, hw]; (repeat' split) <;> first | (exfalso; omega) | rfl | contradiction
              exact aw_iret rfl dX8_clash_64 (by decide) (by decide) ⟨by rw [eS], _, _, h84, h85, by rw [eS]; exact h86, h87, rg2_rf 84 86 87 87 h⟩
          · have d36 := (j_eq (a := a.toInt) (b := b.toInt) (rfl) (rfl)).mp c36
            refine aw_aload_n 0 dX8_clash_39 rfl rfl ?_
            refine aw_bipush (-3) dX8_clash_40 (by decide) ?_
            refine aw_eV [.int (-3)] [] lX8_70 vX8_refuse mX8_refuse dX8_clash_42 (bX8_refuse (jv := jv) (bv := bv) (rf := rf) (x := (-3)) (q := 3) h0 h87 (by decide) (by decide)) h0 rfl rfl rfl (Nat.le_of_ble_eq_true rfl) (by decide) (by decide) rfl (fun h761 q760 => ?_)
            obtain ⟨rf1759, f762, k763⟩ := q760
            have f764 := rng_at k763 (by decide) h0
            have f765 := rng_at k763 (by decide) h84
            have f766 := rng_at k763 (by decide) h85
            have f767 := rng_at k763 (by decide) h86
            subst hQF
            have eS : spClashF fo a b true = ((-3), fo) := by unfold spClashF; (repeat' split) <;> first | (exfalso; omega) | rfl | contradiction
            exact aw_iret rfl dX8_clash_45 (by decide) (by decide) ⟨by rw [eS], _, _, f765, f766, by rw [eS]; exact f767, f762, rg2_tr (rg2_rf 84 86 87 87 h) (rg2_w k763 (by decide))⟩
        · have d24 := mt (j_lt (a := b.toInt) (b := (6)) (rfl) (rfl)).mpr c24
          refine aw_aload_n 0 dX8_clash_27 rfl rfl ?_
          refine aw_bipush (-6) dX8_clash_28 (by decide) ?_
          refine aw_eV [.int (-6)] [] lX8_70 vX8_refuse mX8_refuse dX8_clash_30 (bX8_refuse (jv := jv) (bv := bv) (rf := rf) (x := (-6)) (q := 6) h0 h87 (by decide) (by decide)) h0 rfl rfl rfl (Nat.le_of_ble_eq_true rfl) (by decide) (by decide) rfl (fun h770 q769 => ?_)
          obtain ⟨rf1768, f771, k772⟩ := q769
          have f773 := rng_at k772 (by decide) h0
          have f774 := rng_at k772 (by decide) h84
          have f775 := rng_at k772 (by decide) h85
          have f776 := rng_at k772 (by decide) h86
          subst hQF
          have eS : spClashF fo a b true = ((-6), fo) := by unfold spClashF; (repeat' split) <;> first | (exfalso; omega) | rfl | contradiction
          exact aw_iret rfl dX8_clash_33 (by decide) (by decide) ⟨by rw [eS], _, _, f774, f775, by rw [eS]; exact f776, f771, rg2_tr (rg2_rf 84 86 87 87 h) (rg2_w k772 (by decide))⟩
    · have d5 := mt (j_le (a := (0)) (b := b.toInt) (rfl) (rfl)).mpr c5
      refine aw_aload_n 0 dX8_clash_8 rfl rfl ?_
      refine aw_bipush (-4) dX8_clash_9 (by decide) ?_
      refine aw_eV [.int (-4)] [] lX8_70 vX8_refuse mX8_refuse dX8_clash_11 (bX8_refuse (jv := jv) (bv := bv) (rf := rf) (x := (-4)) (q := 4) h0 h87 (by decide) (by decide)) h0 rfl rfl rfl (Nat.le_of_ble_eq_true rfl) (by decide) (by decide) rfl (fun h779 q778 => ?_)
      obtain ⟨rf1777, f780, k781⟩ := q778
      have f782 := rng_at k781 (by decide) h0
      have f783 := rng_at k781 (by decide) h84
      have f784 := rng_at k781 (by decide) h85
      have f785 := rng_at k781 (by decide) h86
      subst hQF
      have eS : spClashF fo a b true = ((-4), fo) := by unfold spClashF; (repeat' split) <;> first | (exfalso; omega) | rfl | contradiction
      exact aw_iret rfl dX8_clash_14 (by decide) (by decide) ⟨by rw [eS], _, _, f783, f784, by rw [eS]; exact f785, f780, rg2_tr (rg2_rf 84 86 87 87 h) (rg2_w k781 (by decide))⟩
set_option maxHeartbeats 4000000 in
theorem oX8_visitor {l : Launch} {G : xG} {h : List va_E} {jv bv : Value} {rf : Nat → Int32} {so xx yy tr : Nat → Nat} {n : Nat} {s x y t : Int32} (h0 : h[0]? = some (oB 8 (lX G (jv) (bv)))) (h87 : h[87]? = some (aI 7 rf)) (h79 : h[79]? = some (oB 6 (lS G (nI n)))) (h80 : h[80]? = some (aI 40 (nA so))) (h81 : h[81]? = some (aI 40 (nA xx))) (h82 : h[82]? = some (aI 40 (nA yy))) (h83 : h[83]? = some (aI 40 (nA tr))) (hn : n ≤ 40) : CE l G yX8_visitor cX8_visitor 5 (some .int) 2 0 0 [.ref (G.1 + 0), .int s, .int x, .int y, .int t] h (some (.int (spVis n s x y t))) (fun h1 => ∃ rf1 : Nat → Int32, h1[79]? = some (oB 6 (lS G (nI (spN (0 ≤ (spVis n s x y t).toInt) n (n + 1))))) ∧ h1[80]? = some (aI 40 (nA (spUn (0 ≤ (spVis n s x y t).toInt) so n (tn s)))) ∧ h1[81]? = some (aI 40 (nA (spUn (0 ≤ (spVis n s x y t).toInt) xx n (tn x)))) ∧ h1[82]? = some (aI 40 (nA (spUn (0 ≤ (spVis n s x y t).toInt) yy n (if s.toInt < 2 then tn y else tn x)))) ∧ h1[83]? = some (aI 40 (nA (spUn (0 ≤ (spVis n s x y t).toInt) tr n (tn t)))) ∧ h1[87]? = some (aI 7 rf1) ∧ rg2 79 83 87 87 h h1) := by
  refine cm_ofQ rfl (Nat.le_of_ble_eq_true rfl) [(0, .ref (G.1 + 0)), (1, .int s), (2, .int x), (3, .int y), (4, .int t)] rfl (fun QF hQF => ?_)
  refine aw_iload_n 1 dX8_visitor_0 rfl rfl ?_
  refine aw_if_lt 9 dX8_visitor_1 (by decide) (fun c1 => ?_) (fun c1 => ?_)
  · have d1 := (j_lt (a := s.toInt) (b := (0)) (rfl) (rfl)).mp c1
    refine aw_aload_n 0 dX8_visitor_9 rfl rfl ?_
    refine aw_bipush (-2) dX8_visitor_10 (by decide) ?_
    refine aw_eV [.int (-2)] [] lX8_70 vX8_refuse mX8_refuse dX8_visitor_12 (bX8_refuse (jv := jv) (bv := bv) (rf := rf) (x := (-2)) (q := 2) h0 h87 (by decide) (by decide)) h0 rfl rfl rfl (Nat.le_of_ble_eq_true rfl) (by decide) (by decide) rfl (fun h788 q787 => ?_)
    obtain ⟨rf1786, f789, k790⟩ := q787
    have f791 := rng_at k790 (by decide) h0
    have f792 := rng_at k790 (by decide) h79
    have f793 := rng_at k790 (by decide) h80
    have f794 := rng_at k790 (by decide) h81
    have f795 := rng_at k790 (by decide) h82
    have f796 := rng_at k790 (by decide) h83
    subst hQF
    have eS : (spVis n s x y t) = (-2) := by unfold spVis; (repeat' split) <;> first | (exfalso; omega) | rfl
    have ok9 : ¬ 0 ≤ (spVis n s x y t).toInt := by rw [eS]; decide
    exact aw_iret rfl dX8_visitor_15 (by decide) (by decide) ⟨by rw [eS], _, by rw [spN_n ok9]; exact f792, by rw [spUn_n ok9]; exact f793, by rw [spUn_n ok9]; exact f794, by rw [spUn_n ok9]; exact f795, by rw [spUn_n ok9]; exact f796, f789, rg2_tr (rg2_rf 79 83 87 87 h) (rg2_w k790 (by decide))⟩
  · have d1 := mt (j_lt (a := s.toInt) (b := (0)) (rfl) (rfl)).mpr c1
    refine aw_iload_n 1 dX8_visitor_4 rfl rfl ?_
    refine aw_iconst (3) dX8_visitor_5 (by decide) ?_
    refine aw_icmp_le 16 dX8_visitor_6 (by decide) (fun c6 => ?_) (fun c6 => ?_)
    · have d6 := (j_le (a := s.toInt) (b := (3)) (rfl) (rfl)).mp c6
      refine aw_iload_n 2 dX8_visitor_16 rfl rfl ?_
      refine aw_dS [.int x] [] lX8_154 sX8_isThing mX8_isThing dX8_visitor_17 (bX8_isThing (x := x) ) rfl (Nat.le_of_ble_eq_true rfl) (by decide) (by decide) rfl ?_
      refine aw_if_eq 42 dX8_visitor_20 (by decide) (fun c20 => ?_) (fun c20 => ?_)
      · have t20 := ite_0 c20
        refine aw_aload_n 0 dX8_visitor_42 rfl rfl ?_
        refine aw_iconst (-1) dX8_visitor_43 (by decide) ?_
        refine aw_eV [.int (-1)] [] lX8_70 vX8_refuse mX8_refuse dX8_visitor_44 (bX8_refuse (jv := jv) (bv := bv) (rf := rf) (x := (-1)) (q := 1) h0 h87 (by decide) (by decide)) h0 rfl rfl rfl (Nat.le_of_ble_eq_true rfl) (by decide) (by decide) rfl (fun h799 q798 => ?_)
        obtain ⟨rf1797, f800, k801⟩ := q798
        have f802 := rng_at k801 (by decide) h0
        have f803 := rng_at k801 (by decide) h79
        have f804 := rng_at k801 (by decide) h80
        have f805 := rng_at k801 (by decide) h81
        have f806 := rng_at k801 (by decide) h82
        have f807 := rng_at k801 (by decide) h83
        subst hQF
        have eS : (spVis n s x y t) = (-1) := by unfold spVis; (repeat' split) <;> first | (exfalso; omega) | rfl
        have ok9 : ¬ 0 ≤ (spVis n s x y t).toInt := by rw [eS]; decide
        exact aw_iret rfl dX8_visitor_47 (by decide) (by decide) ⟨by rw [eS], _, by rw [spN_n ok9]; exact f803, by rw [spUn_n ok9]; exact f804, by rw [spUn_n ok9]; exact f805, by rw [spUn_n ok9]; exact f806, by rw [spUn_n ok9]; exact f807, f800, rg2_tr (rg2_rf 79 83 87 87 h) (rg2_w k801 (by decide))⟩
      · have t20 := ite_1 c20
        refine aw_iload_n 1 dX8_visitor_23 rfl rfl ?_
        refine aw_dS [.int s] [] lX8_201 sX8_needsTwo mX8_needsTwo dX8_visitor_24 (bX8_needsTwo (x := s) ) rfl (Nat.le_of_ble_eq_true rfl) (by decide) (by decide) rfl ?_
        refine aw_if_eq 48 dX8_visitor_27 (by decide) (fun c27 => ?_) (fun c27 => ?_)
        · have t27 := ite_0 c27
          refine aw_iload 4 dX8_visitor_48 rfl ?_
          refine aw_iconst (1) dX8_visitor_50 (by decide) ?_
          refine aw_icmp_ge 61 dX8_visitor_51 (by decide) (fun c51 => ?_) (fun c51 => ?_)
          · have d51 := (j_le (a := (1)) (b := t.toInt) (rfl) (rfl)).mp c51
            refine aw_iload 4 dX8_visitor_61 rfl ?_
            refine aw_bipush (9) dX8_visitor_63 (by decide) ?_
            refine aw_icmp_gt 80 dX8_visitor_65 (by decide) (fun c65 => ?_) (fun c65 => ?_)
            · have d65 := (j_lt (a := (9)) (b := t.toInt) (rfl) (rfl)).mp c65
              refine aw_aload_n 0 dX8_visitor_80 rfl rfl ?_
              refine aw_bipush (-6) dX8_visitor_81 (by decide) ?_
              refine aw_eV [.int (-6)] [] lX8_70 vX8_refuse mX8_refuse dX8_visitor_83 (bX8_refuse (jv := jv) (bv := bv) (rf := rf) (x := (-6)) (q := 6) h0 h87 (by decide) (by decide)) h0 rfl rfl rfl (Nat.le_of_ble_eq_true rfl) (by decide) (by decide) rfl (fun h810 q809 => ?_)
              obtain ⟨rf1808, f811, k812⟩ := q809
              have f813 := rng_at k812 (by decide) h0
              have f814 := rng_at k812 (by decide) h79
              have f815 := rng_at k812 (by decide) h80
              have f816 := rng_at k812 (by decide) h81
              have f817 := rng_at k812 (by decide) h82
              have f818 := rng_at k812 (by decide) h83
              subst hQF
              have eS : (spVis n s x y t) = (-6) := by unfold spVis; (repeat' split) <;> first | (exfalso; omega) | rfl
              have ok9 : ¬ 0 ≤ (spVis n s x y t).toInt := by rw [eS]; decide
              exact aw_iret rfl dX8_visitor_86 (by decide) (by decide) ⟨by rw [eS], _, by rw [spN_n ok9]; exact f814, by rw [spUn_n ok9]; exact f815, by rw [spUn_n ok9]; exact f816, by rw [spUn_n ok9]; exact f817, by rw [spUn_n ok9]; exact f818, f811, rg2_tr (rg2_rf 79 83 87 87 h) (rg2_w k812 (by decide))⟩
            · have d65 := mt (j_lt (a := (9)) (b := t.toInt) (rfl) (rfl)).mpr c65
              refine aw_aload_n 0 dX8_visitor_68 rfl rfl ?_
              refine aw_get fX8_51 dX8_visitor_69 h0 rfl ?_
              refine aw_get fX8_204 dX8_visitor_72 h79 rfl ?_
              refine aw_bipush (40) dX8_visitor_75 (by decide) ?_
              refine aw_icmp_lt 87 dX8_visitor_77 (by decide) (fun c77 => ?_) (fun c77 => ?_)
              · have d77 := (nv_lt (a := n) (b := 40) (rfl) (rfl) (by omega) (by omega)).mp c77
                obtain ⟨s0, bb_s0, ee_s0⟩ := i_nat (x := s) (N := 4) (by omega) (by omega)
                subst ee_s0
                have tt_s0 : (nI s0).toInt = (s0 : Int) := nI_toInt (by omega)
                have nn_s0 : tn (nI s0) = s0 := tn_nI (by omega)
                obtain ⟨x0, bb_x0, ee_x0⟩ := i_nat (x := x) (N := 12) (by omega) (by omega)
                subst ee_x0
                have tt_x0 : (nI x0).toInt = (x0 : Int) := nI_toInt (by omega)
                have nn_x0 : tn (nI x0) = x0 := tn_nI (by omega)
                obtain ⟨t0, bb_t0, ee_t0⟩ := i_nat (x := t) (N := 10) (by omega) (by omega)
                subst ee_t0
                have tt_t0 : (nI t0).toInt = (t0 : Int) := nI_toInt (by omega)
                have nn_t0 : tn (nI t0) = t0 := tn_nI (by omega)
                refine aw_aload_n 0 dX8_visitor_87 rfl rfl ?_
                refine aw_get fX8_51 dX8_visitor_88 h0 rfl ?_
                refine aw_iload_n 1 dX8_visitor_91 rfl rfl ?_
                refine aw_iload_n 2 dX8_visitor_92 rfl rfl ?_
                refine aw_iload_n 1 dX8_visitor_93 rfl rfl ?_
                refine aw_dS [.int (nI s0)] [.int (nI x0), .int (nI s0), .ref (G.1 + 79)] lX8_201 sX8_needsTwo mX8_needsTwo dX8_visitor_94 (bX8_needsTwo (x := (nI s0)) ) rfl (Nat.le_of_ble_eq_true rfl) (by decide) (by decide) rfl ?_
                refine aw_if_eq 104 dX8_visitor_97 (by decide) (fun c97 => ?_) (fun c97 => ?_)
                · have t97 := ite_0 c97
                  refine aw_iload_n 2 dX8_visitor_104 rfl rfl ?_
                  refine aw_iload 4 dX8_visitor_105 rfl ?_
                  refine aw_eV [.int (nI s0), .int (nI x0), .int (nI x0), .int (nI t0)] [] lX8_205 vX6_addSaying mX6_addSaying dX8_visitor_107 (aX6_addSaying (so := so) (x := xx) (y := yy) (tr := tr) (n := n) (s0 := s0) (x0 := x0) (y0 := x0) (v0 := t0) h79 h80 h81 h82 h83 (by omega)) h79 rfl rfl rfl (Nat.le_of_ble_eq_true rfl) (by decide) (by decide) rfl (fun h820 q819 => ?_)
                  obtain ⟨f821, f822, f823, f824, f825, k826⟩ := q819
                  have f827 := rng_at k826 (by decide) h0
                  have f828 := rng_at k826 (by decide) h87
                  subst hQF
                  have eS : (spVis n (nI s0) (nI x0) y (nI t0)) = (nI n) := by unfold spVis; (repeat' split) <;> first | (exfalso; omega) | rfl
                  have ok9 : 0 ≤ (spVis n (nI s0) (nI x0) y (nI t0)).toInt := by rw [eS, nI_toInt (by omega)]; omega
                  exact aw_iret rfl dX8_visitor_110 (by decide) (by decide) ⟨by rw [eS], _, by rw [spN_y ok9]; exact f821, by rw [spUn_y ok9, nn_s0]; exact f822, by rw [spUn_y ok9, nn_x0]; exact f823, by rw [spUn_y ok9, if_neg (by omega), nn_x0]; exact f824, by rw [spUn_y ok9, nn_t0]; exact f825, f828, rg2_tr (rg2_rf 79 83 87 87 h) (rg2_w k826 (by decide))⟩
                · have t97 := ite_1 c97
                  obtain ⟨y0, bb_y0, ee_y0⟩ := i_nat (x := y) (N := 12) (by omega) (by omega)
                  subst ee_y0
                  have tt_y0 : (nI y0).toInt = (y0 : Int) := nI_toInt (by omega)
                  have nn_y0 : tn (nI y0) = y0 := tn_nI (by omega)
                  refine aw_iload_n 3 dX8_visitor_100 rfl rfl ?_
                  refine aw_goto 105 dX8_visitor_101 (by decide) ?_
                  refine aw_iload 4 dX8_visitor_105 rfl ?_
                  refine aw_eV [.int (nI s0), .int (nI x0), .int (nI y0), .int (nI t0)] [] lX8_205 vX6_addSaying mX6_addSaying dX8_visitor_107 (aX6_addSaying (so := so) (x := xx) (y := yy) (tr := tr) (n := n) (s0 := s0) (x0 := x0) (y0 := y0) (v0 := t0) h79 h80 h81 h82 h83 (by omega)) h79 rfl rfl rfl (Nat.le_of_ble_eq_true rfl) (by decide) (by decide) rfl (fun h830 q829 => ?_)
                  obtain ⟨f831, f832, f833, f834, f835, k836⟩ := q829
                  have f837 := rng_at k836 (by decide) h0
                  have f838 := rng_at k836 (by decide) h87
                  subst hQF
                  have eS : (spVis n (nI s0) (nI x0) (nI y0) (nI t0)) = (nI n) := by unfold spVis; (repeat' split) <;> first | (exfalso; omega) | rfl
                  have ok9 : 0 ≤ (spVis n (nI s0) (nI x0) (nI y0) (nI t0)).toInt := by rw [eS, nI_toInt (by omega)]; omega
                  exact aw_iret rfl dX8_visitor_110 (by decide) (by decide) ⟨by rw [eS], _, by rw [spN_y ok9]; exact f831, by rw [spUn_y ok9, nn_s0]; exact f832, by rw [spUn_y ok9, nn_x0]; exact f833, by rw [spUn_y ok9, if_pos (by omega), nn_y0]; exact f834, by rw [spUn_y ok9, nn_t0]; exact f835, f838, rg2_tr (rg2_rf 79 83 87 87 h) (rg2_w k836 (by decide))⟩
              · have d77 := mt (nv_lt (a := n) (b := 40) (rfl) (rfl) (by omega) (by omega)).mpr c77
                refine aw_aload_n 0 dX8_visitor_80 rfl rfl ?_
                refine aw_bipush (-6) dX8_visitor_81 (by decide) ?_
                refine aw_eV [.int (-6)] [] lX8_70 vX8_refuse mX8_refuse dX8_visitor_83 (bX8_refuse (jv := jv) (bv := bv) (rf := rf) (x := (-6)) (q := 6) h0 h87 (by decide) (by decide)) h0 rfl rfl rfl (Nat.le_of_ble_eq_true rfl) (by decide) (by decide) rfl (fun h841 q840 => ?_)
                obtain ⟨rf1839, f842, k843⟩ := q840
                have f844 := rng_at k843 (by decide) h0
                have f845 := rng_at k843 (by decide) h79
                have f846 := rng_at k843 (by decide) h80
                have f847 := rng_at k843 (by decide) h81
                have f848 := rng_at k843 (by decide) h82
                have f849 := rng_at k843 (by decide) h83
                subst hQF
                have eS : (spVis n s x y t) = (-6) := by unfold spVis; (repeat' split) <;> first | (exfalso; omega) | rfl
                have ok9 : ¬ 0 ≤ (spVis n s x y t).toInt := by rw [eS]; decide
                exact aw_iret rfl dX8_visitor_86 (by decide) (by decide) ⟨by rw [eS], _, by rw [spN_n ok9]; exact f845, by rw [spUn_n ok9]; exact f846, by rw [spUn_n ok9]; exact f847, by rw [spUn_n ok9]; exact f848, by rw [spUn_n ok9]; exact f849, f842, rg2_tr (rg2_rf 79 83 87 87 h) (rg2_w k843 (by decide))⟩
          · have d51 := mt (j_le (a := (1)) (b := t.toInt) (rfl) (rfl)).mpr c51
            refine aw_aload_n 0 dX8_visitor_54 rfl rfl ?_
            refine aw_bipush (-4) dX8_visitor_55 (by decide) ?_
            refine aw_eV [.int (-4)] [] lX8_70 vX8_refuse mX8_refuse dX8_visitor_57 (bX8_refuse (jv := jv) (bv := bv) (rf := rf) (x := (-4)) (q := 4) h0 h87 (by decide) (by decide)) h0 rfl rfl rfl (Nat.le_of_ble_eq_true rfl) (by decide) (by decide) rfl (fun h852 q851 => ?_)
            obtain ⟨rf1850, f853, k854⟩ := q851
            have f855 := rng_at k854 (by decide) h0
            have f856 := rng_at k854 (by decide) h79
            have f857 := rng_at k854 (by decide) h80
            have f858 := rng_at k854 (by decide) h81
            have f859 := rng_at k854 (by decide) h82
            have f860 := rng_at k854 (by decide) h83
            subst hQF
            have eS : (spVis n s x y t) = (-4) := by unfold spVis; (repeat' split) <;> first | (exfalso; omega) | rfl
            have ok9 : ¬ 0 ≤ (spVis n s x y t).toInt := by rw [eS]; decide
            exact aw_iret rfl dX8_visitor_60 (by decide) (by decide) ⟨by rw [eS], _, by rw [spN_n ok9]; exact f856, by rw [spUn_n ok9]; exact f857, by rw [spUn_n ok9]; exact f858, by rw [spUn_n ok9]; exact f859, by rw [spUn_n ok9]; exact f860, f853, rg2_tr (rg2_rf 79 83 87 87 h) (rg2_w k854 (by decide))⟩
        · have t27 := ite_1 c27
          refine aw_iload_n 3 dX8_visitor_30 rfl rfl ?_
          refine aw_dS [.int y] [] lX8_154 sX8_isThing mX8_isThing dX8_visitor_31 (bX8_isThing (x := y) ) rfl (Nat.le_of_ble_eq_true rfl) (by decide) (by decide) rfl ?_
          refine aw_if_eq 42 dX8_visitor_34 (by decide) (fun c34 => ?_) (fun c34 => ?_)
          · have t34 := ite_0 c34
            refine aw_aload_n 0 dX8_visitor_42 rfl rfl ?_
            refine aw_iconst (-1) dX8_visitor_43 (by decide) ?_
            refine aw_eV [.int (-1)] [] lX8_70 vX8_refuse mX8_refuse dX8_visitor_44 (bX8_refuse (jv := jv) (bv := bv) (rf := rf) (x := (-1)) (q := 1) h0 h87 (by decide) (by decide)) h0 rfl rfl rfl (Nat.le_of_ble_eq_true rfl) (by decide) (by decide) rfl (fun h863 q862 => ?_)
            obtain ⟨rf1861, f864, k865⟩ := q862
            have f866 := rng_at k865 (by decide) h0
            have f867 := rng_at k865 (by decide) h79
            have f868 := rng_at k865 (by decide) h80
            have f869 := rng_at k865 (by decide) h81
            have f870 := rng_at k865 (by decide) h82
            have f871 := rng_at k865 (by decide) h83
            subst hQF
            have eS : (spVis n s x y t) = (-1) := by unfold spVis; (repeat' split) <;> first | (exfalso; omega) | rfl
            have ok9 : ¬ 0 ≤ (spVis n s x y t).toInt := by rw [eS]; decide
            exact aw_iret rfl dX8_visitor_47 (by decide) (by decide) ⟨by rw [eS], _, by rw [spN_n ok9]; exact f867, by rw [spUn_n ok9]; exact f868, by rw [spUn_n ok9]; exact f869, by rw [spUn_n ok9]; exact f870, by rw [spUn_n ok9]; exact f871, f864, rg2_tr (rg2_rf 79 83 87 87 h) (rg2_w k865 (by decide))⟩
          · have t34 := ite_1 c34
            refine aw_iload_n 2 dX8_visitor_37 rfl rfl ?_
            refine aw_iload_n 3 dX8_visitor_38 rfl rfl ?_
            refine aw_icmp_ne 48 dX8_visitor_39 (by decide) (fun c39 => ?_) (fun c39 => ?_)
            · have d39 := mt (j_eq (a := x.toInt) (b := y.toInt) (rfl) (rfl)).mpr c39
              refine aw_iload 4 dX8_visitor_48 rfl ?_
              refine aw_iconst (1) dX8_visitor_50 (by decide) ?_
              refine aw_icmp_ge 61 dX8_visitor_51 (by decide) (fun c51 => ?_) (fun c51 => ?_)
              · have d51 := (j_le (a := (1)) (b := t.toInt) (rfl) (rfl)).mp c51
                refine aw_iload 4 dX8_visitor_61 rfl ?_
                refine aw_bipush (9) dX8_visitor_63 (by decide) ?_
                refine aw_icmp_gt 80 dX8_visitor_65 (by decide) (fun c65 => ?_) (fun c65 => ?_)
                · have d65 := (j_lt (a := (9)) (b := t.toInt) (rfl) (rfl)).mp c65
                  refine aw_aload_n 0 dX8_visitor_80 rfl rfl ?_
                  refine aw_bipush (-6) dX8_visitor_81 (by decide) ?_
                  refine aw_eV [.int (-6)] [] lX8_70 vX8_refuse mX8_refuse dX8_visitor_83 (bX8_refuse (jv := jv) (bv := bv) (rf := rf) (x := (-6)) (q := 6) h0 h87 (by decide) (by decide)) h0 rfl rfl rfl (Nat.le_of_ble_eq_true rfl) (by decide) (by decide) rfl (fun h874 q873 => ?_)
                  obtain ⟨rf1872, f875, k876⟩ := q873
                  have f877 := rng_at k876 (by decide) h0
                  have f878 := rng_at k876 (by decide) h79
                  have f879 := rng_at k876 (by decide) h80
                  have f880 := rng_at k876 (by decide) h81
                  have f881 := rng_at k876 (by decide) h82
                  have f882 := rng_at k876 (by decide) h83
                  subst hQF
                  have eS : (spVis n s x y t) = (-6) := by unfold spVis; (repeat' split) <;> first | (exfalso; omega) | rfl
                  have ok9 : ¬ 0 ≤ (spVis n s x y t).toInt := by rw [eS]; decide
                  exact aw_iret rfl dX8_visitor_86 (by decide) (by decide) ⟨by rw [eS], _, by rw [spN_n ok9]; exact f878, by rw [spUn_n ok9]; exact f879, by rw [spUn_n ok9]; exact f880, by rw [spUn_n ok9]; exact f881, by rw [spUn_n ok9]; exact f882, f875, rg2_tr (rg2_rf 79 83 87 87 h) (rg2_w k876 (by decide))⟩
                · have d65 := mt (j_lt (a := (9)) (b := t.toInt) (rfl) (rfl)).mpr c65
                  refine aw_aload_n 0 dX8_visitor_68 rfl rfl ?_
                  refine aw_get fX8_51 dX8_visitor_69 h0 rfl ?_
                  refine aw_get fX8_204 dX8_visitor_72 h79 rfl ?_
                  refine aw_bipush (40) dX8_visitor_75 (by decide) ?_
                  refine aw_icmp_lt 87 dX8_visitor_77 (by decide) (fun c77 => ?_) (fun c77 => ?_)
                  · have d77 := (nv_lt (a := n) (b := 40) (rfl) (rfl) (by omega) (by omega)).mp c77
                    obtain ⟨s0, bb_s0, ee_s0⟩ := i_nat (x := s) (N := 4) (by omega) (by omega)
                    subst ee_s0
                    have tt_s0 : (nI s0).toInt = (s0 : Int) := nI_toInt (by omega)
                    have nn_s0 : tn (nI s0) = s0 := tn_nI (by omega)
                    obtain ⟨x0, bb_x0, ee_x0⟩ := i_nat (x := x) (N := 12) (by omega) (by omega)
                    subst ee_x0
                    have tt_x0 : (nI x0).toInt = (x0 : Int) := nI_toInt (by omega)
                    have nn_x0 : tn (nI x0) = x0 := tn_nI (by omega)
                    obtain ⟨t0, bb_t0, ee_t0⟩ := i_nat (x := t) (N := 10) (by omega) (by omega)
                    subst ee_t0
                    have tt_t0 : (nI t0).toInt = (t0 : Int) := nI_toInt (by omega)
                    have nn_t0 : tn (nI t0) = t0 := tn_nI (by omega)
                    refine aw_aload_n 0 dX8_visitor_87 rfl rfl ?_
                    refine aw_get fX8_51 dX8_visitor_88 h0 rfl ?_
                    refine aw_iload_n 1 dX8_visitor_91 rfl rfl ?_
                    refine aw_iload_n 2 dX8_visitor_92 rfl rfl ?_
                    refine aw_iload_n 1 dX8_visitor_93 rfl rfl ?_
                    refine aw_dS [.int (nI s0)] [.int (nI x0), .int (nI s0), .ref (G.1 + 79)] lX8_201 sX8_needsTwo mX8_needsTwo dX8_visitor_94 (bX8_needsTwo (x := (nI s0)) ) rfl (Nat.le_of_ble_eq_true rfl) (by decide) (by decide) rfl ?_
                    refine aw_if_eq 104 dX8_visitor_97 (by decide) (fun c97 => ?_) (fun c97 => ?_)
                    · have t97 := ite_0 c97
                      refine aw_iload_n 2 dX8_visitor_104 rfl rfl ?_
                      refine aw_iload 4 dX8_visitor_105 rfl ?_
                      refine aw_eV [.int (nI s0), .int (nI x0), .int (nI x0), .int (nI t0)] [] lX8_205 vX6_addSaying mX6_addSaying dX8_visitor_107 (aX6_addSaying (so := so) (x := xx) (y := yy) (tr := tr) (n := n) (s0 := s0) (x0 := x0) (y0 := x0) (v0 := t0) h79 h80 h81 h82 h83 (by omega)) h79 rfl rfl rfl (Nat.le_of_ble_eq_true rfl) (by decide) (by decide) rfl (fun h884 q883 => ?_)
                      obtain ⟨f885, f886, f887, f888, f889, k890⟩ := q883
                      have f891 := rng_at k890 (by decide) h0
                      have f892 := rng_at k890 (by decide) h87
                      subst hQF
                      have eS : (spVis n (nI s0) (nI x0) y (nI t0)) = (nI n) := by unfold spVis; (repeat' split) <;> first | (exfalso; omega) | rfl
                      have ok9 : 0 ≤ (spVis n (nI s0) (nI x0) y (nI t0)).toInt := by rw [eS, nI_toInt (by omega)]; omega
                      exact aw_iret rfl dX8_visitor_110 (by decide) (by decide) ⟨by rw [eS], _, by rw [spN_y ok9]; exact f885, by rw [spUn_y ok9, nn_s0]; exact f886, by rw [spUn_y ok9, nn_x0]; exact f887, by rw [spUn_y ok9, if_neg (by omega), nn_x0]; exact f888, by rw [spUn_y ok9, nn_t0]; exact f889, f892, rg2_tr (rg2_rf 79 83 87 87 h) (rg2_w k890 (by decide))⟩
                    · have t97 := ite_1 c97
                      obtain ⟨y0, bb_y0, ee_y0⟩ := i_nat (x := y) (N := 12) (by omega) (by omega)
                      subst ee_y0
                      have tt_y0 : (nI y0).toInt = (y0 : Int) := nI_toInt (by omega)
                      have nn_y0 : tn (nI y0) = y0 := tn_nI (by omega)
                      refine aw_iload_n 3 dX8_visitor_100 rfl rfl ?_
                      refine aw_goto 105 dX8_visitor_101 (by decide) ?_
                      refine aw_iload 4 dX8_visitor_105 rfl ?_
                      refine aw_eV [.int (nI s0), .int (nI x0), .int (nI y0), .int (nI t0)] [] lX8_205 vX6_addSaying mX6_addSaying dX8_visitor_107 (aX6_addSaying (so := so) (x := xx) (y := yy) (tr := tr) (n := n) (s0 := s0) (x0 := x0) (y0 := y0) (v0 := t0) h79 h80 h81 h82 h83 (by omega)) h79 rfl rfl rfl (Nat.le_of_ble_eq_true rfl) (by decide) (by decide) rfl (fun h894 q893 => ?_)
                      obtain ⟨f895, f896, f897, f898, f899, k900⟩ := q893
                      have f901 := rng_at k900 (by decide) h0
                      have f902 := rng_at k900 (by decide) h87
                      subst hQF
                      have eS : (spVis n (nI s0) (nI x0) (nI y0) (nI t0)) = (nI n) := by unfold spVis; (repeat' split) <;> first | (exfalso; omega) | rfl
                      have ok9 : 0 ≤ (spVis n (nI s0) (nI x0) (nI y0) (nI t0)).toInt := by rw [eS, nI_toInt (by omega)]; omega
                      exact aw_iret rfl dX8_visitor_110 (by decide) (by decide) ⟨by rw [eS], _, by rw [spN_y ok9]; exact f895, by rw [spUn_y ok9, nn_s0]; exact f896, by rw [spUn_y ok9, nn_x0]; exact f897, by rw [spUn_y ok9, if_pos (by omega), nn_y0]; exact f898, by rw [spUn_y ok9, nn_t0]; exact f899, f902, rg2_tr (rg2_rf 79 83 87 87 h) (rg2_w k900 (by decide))⟩
                  · have d77 := mt (nv_lt (a := n) (b := 40) (rfl) (rfl) (by omega) (by omega)).mpr c77
                    refine aw_aload_n 0 dX8_visitor_80 rfl rfl ?_
                    refine aw_bipush (-6) dX8_visitor_81 (by decide) ?_
                    refine aw_eV [.int (-6)] [] lX8_70 vX8_refuse mX8_refuse dX8_visitor_83 (bX8_refuse (jv := jv) (bv := bv) (rf := rf) (x := (-6)) (q := 6) h0 h87 (by decide) (by decide)) h0 rfl rfl rfl (Nat.le_of_ble_eq_true rfl) (by decide) (by decide) rfl (fun h905 q904 => ?_)
                    obtain ⟨rf1903, f906, k907⟩ := q904
                    have f908 := rng_at k907 (by decide) h0
                    have f909 := rng_at k907 (by decide) h79
                    have f910 := rng_at k907 (by decide) h80
                    have f911 := rng_at k907 (by decide) h81
                    have f912 := rng_at k907 (by decide) h82
                    have f913 := rng_at k907 (by decide) h83
                    subst hQF
                    have eS : (spVis n s x y t) = (-6) := by unfold spVis; (repeat' split) <;> first | (exfalso; omega) | rfl
                    have ok9 : ¬ 0 ≤ (spVis n s x y t).toInt := by rw [eS]; decide
                    exact aw_iret rfl dX8_visitor_86 (by decide) (by decide) ⟨by rw [eS], _, by rw [spN_n ok9]; exact f909, by rw [spUn_n ok9]; exact f910, by rw [spUn_n ok9]; exact f911, by rw [spUn_n ok9]; exact f912, by rw [spUn_n ok9]; exact f913, f906, rg2_tr (rg2_rf 79 83 87 87 h) (rg2_w k907 (by decide))⟩
              · have d51 := mt (j_le (a := (1)) (b := t.toInt) (rfl) (rfl)).mpr c51
                refine aw_aload_n 0 dX8_visitor_54 rfl rfl ?_
                refine aw_bipush (-4) dX8_visitor_55 (by decide) ?_
                refine aw_eV [.int (-4)] [] lX8_70 vX8_refuse mX8_refuse dX8_visitor_57 (bX8_refuse (jv := jv) (bv := bv) (rf := rf) (x := (-4)) (q := 4) h0 h87 (by decide) (by decide)) h0 rfl rfl rfl (Nat.le_of_ble_eq_true rfl) (by decide) (by decide) rfl (fun h916 q915 => ?_)
                obtain ⟨rf1914, f917, k918⟩ := q915
                have f919 := rng_at k918 (by decide) h0
                have f920 := rng_at k918 (by decide) h79
                have f921 := rng_at k918 (by decide) h80
                have f922 := rng_at k918 (by decide) h81
                have f923 := rng_at k918 (by decide) h82
                have f924 := rng_at k918 (by decide) h83
                subst hQF
                have eS : (spVis n s x y t) = (-4) := by unfold spVis; (repeat' split) <;> first | (exfalso; omega) | rfl
                have ok9 : ¬ 0 ≤ (spVis n s x y t).toInt := by rw [eS]; decide
                exact aw_iret rfl dX8_visitor_60 (by decide) (by decide) ⟨by rw [eS], _, by rw [spN_n ok9]; exact f920, by rw [spUn_n ok9]; exact f921, by rw [spUn_n ok9]; exact f922, by rw [spUn_n ok9]; exact f923, by rw [spUn_n ok9]; exact f924, f917, rg2_tr (rg2_rf 79 83 87 87 h) (rg2_w k918 (by decide))⟩
            · have d39 := (j_eq (a := x.toInt) (b := y.toInt) (rfl) (rfl)).mp c39
              refine aw_aload_n 0 dX8_visitor_42 rfl rfl ?_
              refine aw_iconst (-1) dX8_visitor_43 (by decide) ?_
              refine aw_eV [.int (-1)] [] lX8_70 vX8_refuse mX8_refuse dX8_visitor_44 (bX8_refuse (jv := jv) (bv := bv) (rf := rf) (x := (-1)) (q := 1) h0 h87 (by decide) (by decide)) h0 rfl rfl rfl (Nat.le_of_ble_eq_true rfl) (by decide) (by decide) rfl (fun h927 q926 => ?_)
              obtain ⟨rf1925, f928, k929⟩ := q926
              have f930 := rng_at k929 (by decide) h0
              have f931 := rng_at k929 (by decide) h79
              have f932 := rng_at k929 (by decide) h80
              have f933 := rng_at k929 (by decide) h81
              have f934 := rng_at k929 (by decide) h82
              have f935 := rng_at k929 (by decide) h83
              subst hQF
              have eS : (spVis n s x y t) = (-1) := by unfold spVis; (repeat' split) <;> first | (exfalso; omega) | rfl
              have ok9 : ¬ 0 ≤ (spVis n s x y t).toInt := by rw [eS]; decide
              exact aw_iret rfl dX8_visitor_47 (by decide) (by decide) ⟨by rw [eS], _, by rw [spN_n ok9]; exact f931, by rw [spUn_n ok9]; exact f932, by rw [spUn_n ok9]; exact f933, by rw [spUn_n ok9]; exact f934, by rw [spUn_n ok9]; exact f935, f928, rg2_tr (rg2_rf 79 83 87 87 h) (rg2_w k929 (by decide))⟩
    · have d6 := mt (j_le (a := s.toInt) (b := (3)) (rfl) (rfl)).mpr c6
      refine aw_aload_n 0 dX8_visitor_9 rfl rfl ?_
      refine aw_bipush (-2) dX8_visitor_10 (by decide) ?_
      refine aw_eV [.int (-2)] [] lX8_70 vX8_refuse mX8_refuse dX8_visitor_12 (bX8_refuse (jv := jv) (bv := bv) (rf := rf) (x := (-2)) (q := 2) h0 h87 (by decide) (by decide)) h0 rfl rfl rfl (Nat.le_of_ble_eq_true rfl) (by decide) (by decide) rfl (fun h938 q937 => ?_)
      obtain ⟨rf1936, f939, k940⟩ := q937
      have f941 := rng_at k940 (by decide) h0
      have f942 := rng_at k940 (by decide) h79
      have f943 := rng_at k940 (by decide) h80
      have f944 := rng_at k940 (by decide) h81
      have f945 := rng_at k940 (by decide) h82
      have f946 := rng_at k940 (by decide) h83
      subst hQF
      have eS : (spVis n s x y t) = (-2) := by unfold spVis; (repeat' split) <;> first | (exfalso; omega) | rfl
      have ok9 : ¬ 0 ≤ (spVis n s x y t).toInt := by rw [eS]; decide
      exact aw_iret rfl dX8_visitor_15 (by decide) (by decide) ⟨by rw [eS], _, by rw [spN_n ok9]; exact f942, by rw [spUn_n ok9]; exact f943, by rw [spUn_n ok9]; exact f944, by rw [spUn_n ok9]; exact f945, by rw [spUn_n ok9]; exact f946, f939, rg2_tr (rg2_rf 79 83 87 87 h) (rg2_w k940 (by decide))⟩
theorem aX5_addRecord {l : Launch} {G : xG} {h : List va_E} {th ot dy so kn go od : Nat → Nat} {n : Nat} {wd : Int32} {r : Nat} {t0 p0 d0 s0 k0 : Nat} (hr : h[r]? = some (oB 5 (lR G r (nI n) wd))) (hr_1 : h[r + 1]? = some (aI 60 (nA th))) (hr_2 : h[r + 2]? = some (aI 60 (nA ot))) (hr_3 : h[r + 3]? = some (aI 60 (nA dy))) (hr_4 : h[r + 4]? = some (aI 60 (nA so))) (hr_5 : h[r + 5]? = some (aI 60 (nA kn))) (hr_6 : h[r + 6]? = some (aI 60 (nA go))) (hr_7 : h[r + 7]? = some (aI 60 (nA od))) (hn : n < 60) (hod : srt dy od n) (bdy : ∀ j, j < 60 → dy j ≤ 80000) (bd : d0 ≤ 80000) : CE l G yX5_addRecord cX5_addRecord 8 (some .int) 0 0 0 [.ref (G.1 + r), .int (nI t0), .int (nI p0), .int (nI d0), .int (nI s0), .int (nI k0)] h (some (.int (nI n))) (fun h1 => ∃ od1 : Nat → Nat, h1[r]? = some (oB 5 (lR G r (nI (n + 1)) wd)) ∧ h1[r + 1]? = some (aI 60 (nA (un th n t0))) ∧ h1[r + 2]? = some (aI 60 (nA (un ot n p0))) ∧ h1[r + 3]? = some (aI 60 (nA (un dy n d0))) ∧ h1[r + 4]? = some (aI 60 (nA (un so n s0))) ∧ h1[r + 5]? = some (aI 60 (nA (un kn n k0))) ∧ h1[r + 6]? = some (aI 60 (nA (un go n 80001))) ∧ h1[r + 7]? = some (aI 60 (nA od1)) ∧ rng r (r + 7) h h1 ∧ srt (un dy n d0) od1 (n + 1)) :=
  CE.mono (gX5_addRecord ⟨hr, hr_1, hr_2, hr_3, hr_4, hr_5, hr_6, hr_7⟩ hn hod bdy rfl rfl rfl bd rfl rfl) (fun h1 ⟨od1, ⟨c0, c1, c2, c3, c4, c5, c6, c7⟩, hs, hk⟩ => ⟨od1, c0, c1, c2, c3, c4, c5, c6, c7, hk, hs⟩)
theorem aX5_takeBack {l : Launch} {G : xG} {h : List va_E} {th ot dy so kn go od : Nat → Nat} {n : Nat} {wd : Int32} {r : Nat} {q k : Nat} (hr : h[r]? = some (oB 5 (lR G r (nI n) wd))) (hr_1 : h[r + 1]? = some (aI 60 (nA th))) (hr_2 : h[r + 2]? = some (aI 60 (nA ot))) (hr_3 : h[r + 3]? = some (aI 60 (nA dy))) (hr_4 : h[r + 4]? = some (aI 60 (nA so))) (hr_5 : h[r + 5]? = some (aI 60 (nA kn))) (hr_6 : h[r + 6]? = some (aI 60 (nA go))) (hr_7 : h[r + 7]? = some (aI 60 (nA od))) (hn : n ≤ 60) (hod : srt dy od n) (bq : q < 60) : CE l G yX5_takeBack cX5_takeBack 3 none 0 0 0 [.ref (G.1 + r), .int (nI q), .int (nI k)] h none (fun h1 => ∃ wd1 : Int32, h1[r]? = some (oB 5 (lR G r (nI n) wd1)) ∧ h1[r + 1]? = some (aI 60 (nA th)) ∧ h1[r + 2]? = some (aI 60 (nA ot)) ∧ h1[r + 3]? = some (aI 60 (nA dy)) ∧ h1[r + 4]? = some (aI 60 (nA so)) ∧ h1[r + 5]? = some (aI 60 (nA kn)) ∧ h1[r + 6]? = some (aI 60 (nA (un go q k))) ∧ h1[r + 7]? = some (aI 60 (nA od)) ∧ rng r (r + 7) h h1) :=
  CE.mono (gX5_takeBack ⟨hr, hr_1, hr_2, hr_3, hr_4, hr_5, hr_6, hr_7⟩ hn hod rfl bq rfl) (fun h1 ⟨wd1, ⟨c0, c1, c2, c3, c4, c5, c6, c7⟩, hk⟩ => ⟨wd1, c0, c1, c2, c3, c4, c5, c6, c7, hk⟩)
set_option maxHeartbeats 4000000 in
theorem oX8_sight {l : Launch} {G : xG} {h : List va_E} {jv bv : Value} {rf : Nat → Int32} {th ot dy so kn go od : Nat → Nat} {n : Nat} {wd : Int32} {t p d k : Int32} (h0 : h[0]? = some (oB 8 (lX G (jv) (bv)))) (h87 : h[87]? = some (aI 7 rf)) (h61 : h[61]? = some (oB 5 (lR G 61 (nI n) wd))) (h62 : h[62]? = some (aI 60 (nA th))) (h63 : h[63]? = some (aI 60 (nA ot))) (h64 : h[64]? = some (aI 60 (nA dy))) (h65 : h[65]? = some (aI 60 (nA so))) (h66 : h[66]? = some (aI 60 (nA kn))) (h67 : h[67]? = some (aI 60 (nA go))) (h68 : h[68]? = some (aI 60 (nA od))) (hn : n ≤ 60) (hod : srt dy od n) (bdy : ∀ j, j < 60 → dy j ≤ 80000) : CE l G yX8_sight cX8_sight 6 (some .int) 2 0 0 [.ref (G.1 + 0), .int t, .int p, .int d, .int k] h (some (.int (spSight n t p d k))) (fun h1 => ∃ od1 : Nat → Nat, ∃ rf1 : Nat → Int32, h1[61]? = some (oB 5 (lR G 61 (nI (spN (0 ≤ (spSight n t p d k).toInt) n (n + 1))) wd)) ∧ h1[62]? = some (aI 60 (nA (spUn (0 ≤ (spSight n t p d k).toInt) th n (tn t)))) ∧ h1[63]? = some (aI 60 (nA (spUn (0 ≤ (spSight n t p d k).toInt) ot n (tn p)))) ∧ h1[64]? = some (aI 60 (nA (spUn (0 ≤ (spSight n t p d k).toInt) dy n (tn d)))) ∧ h1[65]? = some (aI 60 (nA (spUn (0 ≤ (spSight n t p d k).toInt) so n 0))) ∧ h1[66]? = some (aI 60 (nA (spUn (0 ≤ (spSight n t p d k).toInt) kn n (tn k)))) ∧ h1[67]? = some (aI 60 (nA (spUn (0 ≤ (spSight n t p d k).toInt) go n 80001))) ∧ h1[68]? = some (aI 60 (nA od1)) ∧ h1[87]? = some (aI 7 rf1) ∧ rg2 61 68 87 87 h h1 ∧ srt (spUn (0 ≤ (spSight n t p d k).toInt) dy n (tn d)) od1 (spN (0 ≤ (spSight n t p d k).toInt) n (n + 1))) := by
  refine cm_ofQ rfl (Nat.le_of_ble_eq_true rfl) [(0, .ref (G.1 + 0)), (1, .int t), (2, .int p), (3, .int d), (4, .int k)] rfl (fun QF hQF => ?_)
  refine aw_iload_n 1 dX8_sight_0 rfl rfl ?_
  refine aw_dS [.int t] [] lX8_154 sX8_isThing mX8_isThing dX8_sight_1 (bX8_isThing (x := t) ) rfl (Nat.le_of_ble_eq_true rfl) (by decide) (by decide) rfl ?_
  refine aw_if_eq 17 dX8_sight_4 (by decide) (fun c4 => ?_) (fun c4 => ?_)
  · have t4 := ite_0 c4
    refine aw_aload_n 0 dX8_sight_17 rfl rfl ?_
    refine aw_iconst (-1) dX8_sight_18 (by decide) ?_
    refine aw_eV [.int (-1)] [] lX8_70 vX8_refuse mX8_refuse dX8_sight_19 (bX8_refuse (jv := jv) (bv := bv) (rf := rf) (x := (-1)) (q := 1) h0 h87 (by decide) (by decide)) h0 rfl rfl rfl (Nat.le_of_ble_eq_true rfl) (by decide) (by decide) rfl (fun h949 q948 => ?_)
    obtain ⟨rf1947, f950, k951⟩ := q948
    have f952 := rng_at k951 (by decide) h0
    have f953 := rng_at k951 (by decide) h61
    have f954 := rng_at k951 (by decide) h62
    have f955 := rng_at k951 (by decide) h63
    have f956 := rng_at k951 (by decide) h64
    have f957 := rng_at k951 (by decide) h65
    have f958 := rng_at k951 (by decide) h66
    have f959 := rng_at k951 (by decide) h67
    have f960 := rng_at k951 (by decide) h68
    subst hQF
    have eS : (spSight n t p d k) = (-1) := by unfold spSight; (repeat' split) <;> first | (exfalso; omega) | rfl | contradiction
    have ok9 : ¬ 0 ≤ (spSight n t p d k).toInt := by rw [eS]; decide
    exact aw_iret rfl dX8_sight_22 (by decide) (by decide) ⟨by rw [eS], _, _, by rw [spN_n ok9]; exact f953, by rw [spUn_n ok9]; exact f954, by rw [spUn_n ok9]; exact f955, by rw [spUn_n ok9]; exact f956, by rw [spUn_n ok9]; exact f957, by rw [spUn_n ok9]; exact f958, by rw [spUn_n ok9]; exact f959, f960, f950, rg2_tr (rg2_rf 61 68 87 87 h) (rg2_w k951 (by decide)), by rw [spUn_n ok9, spN_n ok9]; exact hod⟩
  · have t4 := ite_1 c4
    refine aw_iload_n 2 dX8_sight_7 rfl rfl ?_
    refine aw_if_lt 17 dX8_sight_8 (by decide) (fun c8 => ?_) (fun c8 => ?_)
    · have d8 := (j_lt (a := p.toInt) (b := (0)) (rfl) (rfl)).mp c8
      refine aw_aload_n 0 dX8_sight_17 rfl rfl ?_
      refine aw_iconst (-1) dX8_sight_18 (by decide) ?_
      refine aw_eV [.int (-1)] [] lX8_70 vX8_refuse mX8_refuse dX8_sight_19 (bX8_refuse (jv := jv) (bv := bv) (rf := rf) (x := (-1)) (q := 1) h0 h87 (by decide) (by decide)) h0 rfl rfl rfl (Nat.le_of_ble_eq_true rfl) (by decide) (by decide) rfl (fun h963 q962 => ?_)
      obtain ⟨rf1961, f964, k965⟩ := q962
      have f966 := rng_at k965 (by decide) h0
      have f967 := rng_at k965 (by decide) h61
      have f968 := rng_at k965 (by decide) h62
      have f969 := rng_at k965 (by decide) h63
      have f970 := rng_at k965 (by decide) h64
      have f971 := rng_at k965 (by decide) h65
      have f972 := rng_at k965 (by decide) h66
      have f973 := rng_at k965 (by decide) h67
      have f974 := rng_at k965 (by decide) h68
      subst hQF
      have eS : (spSight n t p d k) = (-1) := by unfold spSight; (repeat' split) <;> first | (exfalso; omega) | rfl | contradiction
      have ok9 : ¬ 0 ≤ (spSight n t p d k).toInt := by rw [eS]; decide
      exact aw_iret rfl dX8_sight_22 (by decide) (by decide) ⟨by rw [eS], _, _, by rw [spN_n ok9]; exact f967, by rw [spUn_n ok9]; exact f968, by rw [spUn_n ok9]; exact f969, by rw [spUn_n ok9]; exact f970, by rw [spUn_n ok9]; exact f971, by rw [spUn_n ok9]; exact f972, by rw [spUn_n ok9]; exact f973, f974, f964, rg2_tr (rg2_rf 61 68 87 87 h) (rg2_w k965 (by decide)), by rw [spUn_n ok9, spN_n ok9]; exact hod⟩
    · have d8 := mt (j_lt (a := p.toInt) (b := (0)) (rfl) (rfl)).mpr c8
      refine aw_iload_n 2 dX8_sight_11 rfl rfl ?_
      refine aw_bipush (8) dX8_sight_12 (by decide) ?_
      refine aw_icmp_lt 23 dX8_sight_14 (by decide) (fun c14 => ?_) (fun c14 => ?_)
      · have d14 := (j_lt (a := p.toInt) (b := (8)) (rfl) (rfl)).mp c14
        refine aw_iload_n 3 dX8_sight_23 rfl rfl ?_
        refine aw_iload 4 dX8_sight_24 rfl ?_
        refine aw_dS [.int d, .int k] [] lX8_157 sX8_daysRefusal mX8_daysRefusal dX8_sight_26 (bX8_daysRefusal (x := d) (k := k) ) rfl (Nat.le_of_ble_eq_true rfl) (by decide) (by decide) rfl ?_
        refine aw_istore [(5, .int (dyF d k)), (0, .ref (G.1 + 0)), (1, .int t), (2, .int p), (3, .int d), (4, .int k)] dX8_sight_29 (by decide) rfl ?_
        refine aw_iload 0 dX8_sight_31 rfl ?_
        refine aw_if_eq 43 dX8_sight_33 (by decide) (fun c33 => ?_) (fun c33 => ?_)
        · have d33 := (j_eq (a := (dyF d k).toInt) (b := (0)) (rfl) (rfl)).mp c33
          have hdd := dyF_0 (d := d) (k := k) (by assumption)
          refine aw_aload_n 1 dX8_sight_43 rfl rfl ?_
          refine aw_get fX8_34 dX8_sight_44 h0 rfl ?_
          refine aw_get fX8_160 dX8_sight_47 h61 rfl ?_
          refine aw_bipush (60) dX8_sight_50 (by decide) ?_
          refine aw_icmp_lt 62 dX8_sight_52 (by decide) (fun c52 => ?_) (fun c52 => ?_)
          · have d52 := (nv_lt (a := n) (b := 60) (rfl) (rfl) (by omega) (by omega)).mp c52
            obtain ⟨t0, bb_t0, ee_t0⟩ := i_nat (x := t) (N := 12) (by omega) (by omega)
            subst ee_t0
            have tt_t0 : (nI t0).toInt = (t0 : Int) := nI_toInt (by omega)
            have nn_t0 : tn (nI t0) = t0 := tn_nI (by omega)
            obtain ⟨p0, bb_p0, ee_p0⟩ := i_nat (x := p) (N := 8) (by omega) (by omega)
            subst ee_p0
            have tt_p0 : (nI p0).toInt = (p0 : Int) := nI_toInt (by omega)
            have nn_p0 : tn (nI p0) = p0 := tn_nI (by omega)
            obtain ⟨d0, bb_d0, ee_d0⟩ := i_nat (x := d) (N := 80001) (by omega) (by omega)
            subst ee_d0
            have tt_d0 : (nI d0).toInt = (d0 : Int) := nI_toInt (by omega)
            have nn_d0 : tn (nI d0) = d0 := tn_nI (by omega)
            obtain ⟨k0, bb_k0, ee_k0⟩ := i_nat (x := k) (N := 80001) (by omega) (by omega)
            subst ee_k0
            have tt_k0 : (nI k0).toInt = (k0 : Int) := nI_toInt (by omega)
            have nn_k0 : tn (nI k0) = k0 := tn_nI (by omega)
            refine aw_aload_n 1 dX8_sight_62 rfl rfl ?_
            refine aw_get fX8_34 dX8_sight_63 h0 rfl ?_
            refine aw_iload_n 2 dX8_sight_66 rfl rfl ?_
            refine aw_iload_n 3 dX8_sight_67 rfl rfl ?_
            refine aw_iload_n 4 dX8_sight_68 rfl rfl ?_
            refine aw_iconst (0) dX8_sight_69 (by decide) ?_
            refine aw_iload 5 dX8_sight_70 rfl ?_
            refine aw_eV [.int (nI t0), .int (nI p0), .int (nI d0), .int 0, .int (nI k0)] [] lX8_162 vX5_addRecord mX5_addRecord dX8_sight_72 (aX5_addRecord (th := th) (ot := ot) (dy := dy) (so := so) (kn := kn) (go := go) (od := od) (n := n) (wd := wd) (r := 61) (t0 := t0) (p0 := p0) (d0 := d0) (s0 := 0) (k0 := k0) h61 h62 h63 h64 h65 h66 h67 h68 (by omega) hod bdy (by omega)) h61 rfl rfl rfl (Nat.le_of_ble_eq_true rfl) (by decide) (by decide) rfl (fun h977 q976 => ?_)
            obtain ⟨od1975, f978, f979, f980, f981, f982, f983, f984, f985, k986, p987⟩ := q976
            have f988 := rng_at k986 (by decide) h0
            have f989 := rng_at k986 (by decide) h87
            subst hQF
            have eS : (spSight n (nI t0) (nI p0) (nI d0) (nI k0)) = (nI n) := by unfold spSight; (repeat' split) <;> first | (exfalso; omega) | rfl | contradiction
            have ok9 : 0 ≤ (spSight n (nI t0) (nI p0) (nI d0) (nI k0)).toInt := by rw [eS, nI_toInt (by omega)]; omega
            exact aw_iret rfl dX8_sight_75 (by decide) (by decide) ⟨by rw [eS], _, _, by rw [spN_y ok9]; exact f978, by rw [spUn_y ok9, nn_t0]; exact f979, by rw [spUn_y ok9, nn_p0]; exact f980, by rw [spUn_y ok9, nn_d0]; exact f981, by rw [spUn_y ok9]; exact f982, by rw [spUn_y ok9, nn_k0]; exact f983, by rw [spUn_y ok9]; exact f984, f985, f989, rg2_tr (rg2_rf 61 68 87 87 h) (rg2_w k986 (by decide)), by rw [spUn_y ok9, spN_y ok9, nn_d0]; exact p987⟩
          · have d52 := mt (nv_lt (a := n) (b := 60) (rfl) (rfl) (by omega) (by omega)).mpr c52
            refine aw_aload_n 1 dX8_sight_55 rfl rfl ?_
            refine aw_bipush (-6) dX8_sight_56 (by decide) ?_
            refine aw_eV [.int (-6)] [] lX8_70 vX8_refuse mX8_refuse dX8_sight_58 (bX8_refuse (jv := jv) (bv := bv) (rf := rf) (x := (-6)) (q := 6) h0 h87 (by decide) (by decide)) h0 rfl rfl rfl (Nat.le_of_ble_eq_true rfl) (by decide) (by decide) rfl (fun h992 q991 => ?_)
            obtain ⟨rf1990, f993, k994⟩ := q991
            have f995 := rng_at k994 (by decide) h0
            have f996 := rng_at k994 (by decide) h61
            have f997 := rng_at k994 (by decide) h62
            have f998 := rng_at k994 (by decide) h63
            have f999 := rng_at k994 (by decide) h64
            have f1000 := rng_at k994 (by decide) h65
            have f1001 := rng_at k994 (by decide) h66
            have f1002 := rng_at k994 (by decide) h67
            have f1003 := rng_at k994 (by decide) h68
            subst hQF
            have eS : (spSight n t p d k) = (-6) := by unfold spSight; (repeat' split) <;> first | (exfalso; omega) | rfl | contradiction
            have ok9 : ¬ 0 ≤ (spSight n t p d k).toInt := by rw [eS]; decide
            exact aw_iret rfl dX8_sight_61 (by decide) (by decide) ⟨by rw [eS], _, _, by rw [spN_n ok9]; exact f996, by rw [spUn_n ok9]; exact f997, by rw [spUn_n ok9]; exact f998, by rw [spUn_n ok9]; exact f999, by rw [spUn_n ok9]; exact f1000, by rw [spUn_n ok9]; exact f1001, by rw [spUn_n ok9]; exact f1002, f1003, f993, rg2_tr (rg2_rf 61 68 87 87 h) (rg2_w k994 (by decide)), by rw [spUn_n ok9, spN_n ok9]; exact hod⟩
        · have d33 := mt (j_eq (a := (dyF d k).toInt) (b := (0)) (rfl) (rfl)).mpr c33
          refine aw_aload_n 1 dX8_sight_36 rfl rfl ?_
          refine aw_iload 0 dX8_sight_37 rfl ?_
          obtain ⟨q1004, bq1004, eq1004⟩ := Or.resolve_left (dyF_q d k) (by assumption)
          refine aw_eV [.int (dyF d k)] [] lX8_70 vX8_refuse mX8_refuse dX8_sight_39 (bX8_refuse (jv := jv) (bv := bv) (rf := rf) (x := (dyF d k)) (q := q1004) h0 h87 bq1004 eq1004) h0 rfl rfl rfl (Nat.le_of_ble_eq_true rfl) (by decide) (by decide) rfl (fun h1007 q1006 => ?_)
          obtain ⟨rf11005, f1008, k1009⟩ := q1006
          have f1010 := rng_at k1009 (by decide) h0
          have f1011 := rng_at k1009 (by decide) h61
          have f1012 := rng_at k1009 (by decide) h62
          have f1013 := rng_at k1009 (by decide) h63
          have f1014 := rng_at k1009 (by decide) h64
          have f1015 := rng_at k1009 (by decide) h65
          have f1016 := rng_at k1009 (by decide) h66
          have f1017 := rng_at k1009 (by decide) h67
          have f1018 := rng_at k1009 (by decide) h68
          subst hQF
          have eS : (spSight n t p d k) = (dyF d k) := by unfold spSight; rw [if_neg (by omega), if_pos (by assumption)]
          have ok9 : ¬ 0 ≤ (spSight n t p d k).toInt := by rw [eS]; have q := dyF_neg (d := d) (k := k) (by assumption); omega
          exact aw_iret rfl dX8_sight_42 (by decide) (by decide) ⟨by rw [eS], _, _, by rw [spN_n ok9]; exact f1011, by rw [spUn_n ok9]; exact f1012, by rw [spUn_n ok9]; exact f1013, by rw [spUn_n ok9]; exact f1014, by rw [spUn_n ok9]; exact f1015, by rw [spUn_n ok9]; exact f1016, by rw [spUn_n ok9]; exact f1017, f1018, f1008, rg2_tr (rg2_rf 61 68 87 87 h) (rg2_w k1009 (by decide)), by rw [spUn_n ok9, spN_n ok9]; exact hod⟩
      · have d14 := mt (j_lt (a := p.toInt) (b := (8)) (rfl) (rfl)).mpr c14
        refine aw_aload_n 0 dX8_sight_17 rfl rfl ?_
        refine aw_iconst (-1) dX8_sight_18 (by decide) ?_
        refine aw_eV [.int (-1)] [] lX8_70 vX8_refuse mX8_refuse dX8_sight_19 (bX8_refuse (jv := jv) (bv := bv) (rf := rf) (x := (-1)) (q := 1) h0 h87 (by decide) (by decide)) h0 rfl rfl rfl (Nat.le_of_ble_eq_true rfl) (by decide) (by decide) rfl (fun h1021 q1020 => ?_)
        obtain ⟨rf11019, f1022, k1023⟩ := q1020
        have f1024 := rng_at k1023 (by decide) h0
        have f1025 := rng_at k1023 (by decide) h61
        have f1026 := rng_at k1023 (by decide) h62
        have f1027 := rng_at k1023 (by decide) h63
        have f1028 := rng_at k1023 (by decide) h64
        have f1029 := rng_at k1023 (by decide) h65
        have f1030 := rng_at k1023 (by decide) h66
        have f1031 := rng_at k1023 (by decide) h67
        have f1032 := rng_at k1023 (by decide) h68
        subst hQF
        have eS : (spSight n t p d k) = (-1) := by unfold spSight; (repeat' split) <;> first | (exfalso; omega) | rfl | contradiction
        have ok9 : ¬ 0 ≤ (spSight n t p d k).toInt := by rw [eS]; decide
        exact aw_iret rfl dX8_sight_22 (by decide) (by decide) ⟨by rw [eS], _, _, by rw [spN_n ok9]; exact f1025, by rw [spUn_n ok9]; exact f1026, by rw [spUn_n ok9]; exact f1027, by rw [spUn_n ok9]; exact f1028, by rw [spUn_n ok9]; exact f1029, by rw [spUn_n ok9]; exact f1030, by rw [spUn_n ok9]; exact f1031, f1032, f1022, rg2_tr (rg2_rf 61 68 87 87 h) (rg2_w k1023 (by decide)), by rw [spUn_n ok9, spN_n ok9]; exact hod⟩
set_option maxHeartbeats 4000000 in
theorem oX8_move {l : Launch} {G : xG} {h : List va_E} {jv bv : Value} {rf : Nat → Int32} {th ot dy so kn go od : Nat → Nat} {n : Nat} {wd : Int32} {t p d s k : Int32} (h0 : h[0]? = some (oB 8 (lX G (jv) (bv)))) (h87 : h[87]? = some (aI 7 rf)) (h69 : h[69]? = some (oB 5 (lR G 69 (nI n) wd))) (h70 : h[70]? = some (aI 60 (nA th))) (h71 : h[71]? = some (aI 60 (nA ot))) (h72 : h[72]? = some (aI 60 (nA dy))) (h73 : h[73]? = some (aI 60 (nA so))) (h74 : h[74]? = some (aI 60 (nA kn))) (h75 : h[75]? = some (aI 60 (nA go))) (h76 : h[76]? = some (aI 60 (nA od))) (hn : n ≤ 60) (hod : srt dy od n) (bdy : ∀ j, j < 60 → dy j ≤ 80000) : CE l G yX8_move cX8_move 7 (some .int) 2 0 0 [.ref (G.1 + 0), .int t, .int p, .int d, .int s, .int k] h (some (.int (spMove n t p d s k))) (fun h1 => ∃ od1 : Nat → Nat, ∃ rf1 : Nat → Int32, h1[69]? = some (oB 5 (lR G 69 (nI (spN (0 ≤ (spMove n t p d s k).toInt) n (n + 1))) wd)) ∧ h1[70]? = some (aI 60 (nA (spUn (0 ≤ (spMove n t p d s k).toInt) th n (tn t)))) ∧ h1[71]? = some (aI 60 (nA (spUn (0 ≤ (spMove n t p d s k).toInt) ot n (tn p)))) ∧ h1[72]? = some (aI 60 (nA (spUn (0 ≤ (spMove n t p d s k).toInt) dy n (tn d)))) ∧ h1[73]? = some (aI 60 (nA (spUn (0 ≤ (spMove n t p d s k).toInt) so n (tn s)))) ∧ h1[74]? = some (aI 60 (nA (spUn (0 ≤ (spMove n t p d s k).toInt) kn n (tn k)))) ∧ h1[75]? = some (aI 60 (nA (spUn (0 ≤ (spMove n t p d s k).toInt) go n 80001))) ∧ h1[76]? = some (aI 60 (nA od1)) ∧ h1[87]? = some (aI 7 rf1) ∧ rg2 69 76 87 87 h h1 ∧ srt (spUn (0 ≤ (spMove n t p d s k).toInt) dy n (tn d)) od1 (spN (0 ≤ (spMove n t p d s k).toInt) n (n + 1))) := by
  refine cm_ofQ rfl (Nat.le_of_ble_eq_true rfl) [(0, .ref (G.1 + 0)), (1, .int t), (2, .int p), (3, .int d), (4, .int s), (5, .int k)] rfl (fun QF hQF => ?_)
  refine aw_iload_n 1 dX8_move_0 rfl rfl ?_
  refine aw_dS [.int t] [] lX8_154 sX8_isThing mX8_isThing dX8_move_1 (bX8_isThing (x := t) ) rfl (Nat.le_of_ble_eq_true rfl) (by decide) (by decide) rfl ?_
  refine aw_if_eq 17 dX8_move_4 (by decide) (fun c4 => ?_) (fun c4 => ?_)
  · have t4 := ite_0 c4
    refine aw_aload_n 0 dX8_move_17 rfl rfl ?_
    refine aw_iconst (-1) dX8_move_18 (by decide) ?_
    refine aw_eV [.int (-1)] [] lX8_70 vX8_refuse mX8_refuse dX8_move_19 (bX8_refuse (jv := jv) (bv := bv) (rf := rf) (x := (-1)) (q := 1) h0 h87 (by decide) (by decide)) h0 rfl rfl rfl (Nat.le_of_ble_eq_true rfl) (by decide) (by decide) rfl (fun h1035 q1034 => ?_)
    obtain ⟨rf11033, f1036, k1037⟩ := q1034
    have f1038 := rng_at k1037 (by decide) h0
    have f1039 := rng_at k1037 (by decide) h69
    have f1040 := rng_at k1037 (by decide) h70
    have f1041 := rng_at k1037 (by decide) h71
    have f1042 := rng_at k1037 (by decide) h72
    have f1043 := rng_at k1037 (by decide) h73
    have f1044 := rng_at k1037 (by decide) h74
    have f1045 := rng_at k1037 (by decide) h75
    have f1046 := rng_at k1037 (by decide) h76
    subst hQF
    have eS : (spMove n t p d s k) = (-1) := by unfold spMove; (repeat' split) <;> first | (exfalso; omega) | rfl | contradiction
    have ok9 : ¬ 0 ≤ (spMove n t p d s k).toInt := by rw [eS]; decide
    exact aw_iret rfl dX8_move_22 (by decide) (by decide) ⟨by rw [eS], _, _, by rw [spN_n ok9]; exact f1039, by rw [spUn_n ok9]; exact f1040, by rw [spUn_n ok9]; exact f1041, by rw [spUn_n ok9]; exact f1042, by rw [spUn_n ok9]; exact f1043, by rw [spUn_n ok9]; exact f1044, by rw [spUn_n ok9]; exact f1045, f1046, f1036, rg2_tr (rg2_rf 69 76 87 87 h) (rg2_w k1037 (by decide)), by rw [spUn_n ok9, spN_n ok9]; exact hod⟩
  · have t4 := ite_1 c4
    refine aw_iload_n 2 dX8_move_7 rfl rfl ?_
    refine aw_if_lt 17 dX8_move_8 (by decide) (fun c8 => ?_) (fun c8 => ?_)
    · have d8 := (j_lt (a := p.toInt) (b := (0)) (rfl) (rfl)).mp c8
      refine aw_aload_n 0 dX8_move_17 rfl rfl ?_
      refine aw_iconst (-1) dX8_move_18 (by decide) ?_
      refine aw_eV [.int (-1)] [] lX8_70 vX8_refuse mX8_refuse dX8_move_19 (bX8_refuse (jv := jv) (bv := bv) (rf := rf) (x := (-1)) (q := 1) h0 h87 (by decide) (by decide)) h0 rfl rfl rfl (Nat.le_of_ble_eq_true rfl) (by decide) (by decide) rfl (fun h1049 q1048 => ?_)
      obtain ⟨rf11047, f1050, k1051⟩ := q1048
      have f1052 := rng_at k1051 (by decide) h0
      have f1053 := rng_at k1051 (by decide) h69
      have f1054 := rng_at k1051 (by decide) h70
      have f1055 := rng_at k1051 (by decide) h71
      have f1056 := rng_at k1051 (by decide) h72
      have f1057 := rng_at k1051 (by decide) h73
      have f1058 := rng_at k1051 (by decide) h74
      have f1059 := rng_at k1051 (by decide) h75
      have f1060 := rng_at k1051 (by decide) h76
      subst hQF
      have eS : (spMove n t p d s k) = (-1) := by unfold spMove; (repeat' split) <;> first | (exfalso; omega) | rfl | contradiction
      have ok9 : ¬ 0 ≤ (spMove n t p d s k).toInt := by rw [eS]; decide
      exact aw_iret rfl dX8_move_22 (by decide) (by decide) ⟨by rw [eS], _, _, by rw [spN_n ok9]; exact f1053, by rw [spUn_n ok9]; exact f1054, by rw [spUn_n ok9]; exact f1055, by rw [spUn_n ok9]; exact f1056, by rw [spUn_n ok9]; exact f1057, by rw [spUn_n ok9]; exact f1058, by rw [spUn_n ok9]; exact f1059, f1060, f1050, rg2_tr (rg2_rf 69 76 87 87 h) (rg2_w k1051 (by decide)), by rw [spUn_n ok9, spN_n ok9]; exact hod⟩
    · have d8 := mt (j_lt (a := p.toInt) (b := (0)) (rfl) (rfl)).mpr c8
      refine aw_iload_n 2 dX8_move_11 rfl rfl ?_
      refine aw_bipush (8) dX8_move_12 (by decide) ?_
      refine aw_icmp_lt 23 dX8_move_14 (by decide) (fun c14 => ?_) (fun c14 => ?_)
      · have d14 := (j_lt (a := p.toInt) (b := (8)) (rfl) (rfl)).mp c14
        refine aw_iload 4 dX8_move_23 rfl ?_
        refine aw_if_lt 34 dX8_move_25 (by decide) (fun c25 => ?_) (fun c25 => ?_)
        · have d25 := (j_lt (a := s.toInt) (b := (0)) (rfl) (rfl)).mp c25
          refine aw_aload_n 0 dX8_move_34 rfl rfl ?_
          refine aw_bipush (-2) dX8_move_35 (by decide) ?_
          refine aw_eV [.int (-2)] [] lX8_70 vX8_refuse mX8_refuse dX8_move_37 (bX8_refuse (jv := jv) (bv := bv) (rf := rf) (x := (-2)) (q := 2) h0 h87 (by decide) (by decide)) h0 rfl rfl rfl (Nat.le_of_ble_eq_true rfl) (by decide) (by decide) rfl (fun h1063 q1062 => ?_)
          obtain ⟨rf11061, f1064, k1065⟩ := q1062
          have f1066 := rng_at k1065 (by decide) h0
          have f1067 := rng_at k1065 (by decide) h69
          have f1068 := rng_at k1065 (by decide) h70
          have f1069 := rng_at k1065 (by decide) h71
          have f1070 := rng_at k1065 (by decide) h72
          have f1071 := rng_at k1065 (by decide) h73
          have f1072 := rng_at k1065 (by decide) h74
          have f1073 := rng_at k1065 (by decide) h75
          have f1074 := rng_at k1065 (by decide) h76
          subst hQF
          have eS : (spMove n t p d s k) = (-2) := by unfold spMove; (repeat' split) <;> first | (exfalso; omega) | rfl | contradiction
          have ok9 : ¬ 0 ≤ (spMove n t p d s k).toInt := by rw [eS]; decide
          exact aw_iret rfl dX8_move_40 (by decide) (by decide) ⟨by rw [eS], _, _, by rw [spN_n ok9]; exact f1067, by rw [spUn_n ok9]; exact f1068, by rw [spUn_n ok9]; exact f1069, by rw [spUn_n ok9]; exact f1070, by rw [spUn_n ok9]; exact f1071, by rw [spUn_n ok9]; exact f1072, by rw [spUn_n ok9]; exact f1073, f1074, f1064, rg2_tr (rg2_rf 69 76 87 87 h) (rg2_w k1065 (by decide)), by rw [spUn_n ok9, spN_n ok9]; exact hod⟩
        · have d25 := mt (j_lt (a := s.toInt) (b := (0)) (rfl) (rfl)).mpr c25
          refine aw_iload 4 dX8_move_28 rfl ?_
          refine aw_iconst (4) dX8_move_30 (by decide) ?_
          refine aw_icmp_le 41 dX8_move_31 (by decide) (fun c31 => ?_) (fun c31 => ?_)
          · have d31 := (j_le (a := s.toInt) (b := (4)) (rfl) (rfl)).mp c31
            refine aw_iload_n 3 dX8_move_41 rfl rfl ?_
            refine aw_iload 5 dX8_move_42 rfl ?_
            refine aw_dS [.int d, .int k] [] lX8_157 sX8_daysRefusal mX8_daysRefusal dX8_move_44 (bX8_daysRefusal (x := d) (k := k) ) rfl (Nat.le_of_ble_eq_true rfl) (by decide) (by decide) rfl ?_
            refine aw_istore [(6, .int (dyF d k)), (0, .ref (G.1 + 0)), (1, .int t), (2, .int p), (3, .int d), (4, .int s), (5, .int k)] dX8_move_47 (by decide) rfl ?_
            refine aw_iload 0 dX8_move_49 rfl ?_
            refine aw_if_eq 61 dX8_move_51 (by decide) (fun c51 => ?_) (fun c51 => ?_)
            · have d51 := (j_eq (a := (dyF d k).toInt) (b := (0)) (rfl) (rfl)).mp c51
              have hdd := dyF_0 (d := d) (k := k) (by assumption)
              refine aw_aload_n 1 dX8_move_61 rfl rfl ?_
              refine aw_get fX8_38 dX8_move_62 h0 rfl ?_
              refine aw_get fX8_160 dX8_move_65 h69 rfl ?_
              refine aw_bipush (60) dX8_move_68 (by decide) ?_
              refine aw_icmp_lt 80 dX8_move_70 (by decide) (fun c70 => ?_) (fun c70 => ?_)
              · have d70 := (nv_lt (a := n) (b := 60) (rfl) (rfl) (by omega) (by omega)).mp c70
                obtain ⟨t0, bb_t0, ee_t0⟩ := i_nat (x := t) (N := 12) (by omega) (by omega)
                subst ee_t0
                have tt_t0 : (nI t0).toInt = (t0 : Int) := nI_toInt (by omega)
                have nn_t0 : tn (nI t0) = t0 := tn_nI (by omega)
                obtain ⟨p0, bb_p0, ee_p0⟩ := i_nat (x := p) (N := 8) (by omega) (by omega)
                subst ee_p0
                have tt_p0 : (nI p0).toInt = (p0 : Int) := nI_toInt (by omega)
                have nn_p0 : tn (nI p0) = p0 := tn_nI (by omega)
                obtain ⟨d0, bb_d0, ee_d0⟩ := i_nat (x := d) (N := 80001) (by omega) (by omega)
                subst ee_d0
                have tt_d0 : (nI d0).toInt = (d0 : Int) := nI_toInt (by omega)
                have nn_d0 : tn (nI d0) = d0 := tn_nI (by omega)
                obtain ⟨s0, bb_s0, ee_s0⟩ := i_nat (x := s) (N := 5) (by omega) (by omega)
                subst ee_s0
                have tt_s0 : (nI s0).toInt = (s0 : Int) := nI_toInt (by omega)
                have nn_s0 : tn (nI s0) = s0 := tn_nI (by omega)
                obtain ⟨k0, bb_k0, ee_k0⟩ := i_nat (x := k) (N := 80001) (by omega) (by omega)
                subst ee_k0
                have tt_k0 : (nI k0).toInt = (k0 : Int) := nI_toInt (by omega)
                have nn_k0 : tn (nI k0) = k0 := tn_nI (by omega)
                refine aw_aload_n 1 dX8_move_80 rfl rfl ?_
                refine aw_get fX8_38 dX8_move_81 h0 rfl ?_
                refine aw_iload_n 2 dX8_move_84 rfl rfl ?_
                refine aw_iload_n 3 dX8_move_85 rfl rfl ?_
                refine aw_iload_n 4 dX8_move_86 rfl rfl ?_
                refine aw_iload 5 dX8_move_87 rfl ?_
                refine aw_iload 6 dX8_move_89 rfl ?_
                refine aw_eV [.int (nI t0), .int (nI p0), .int (nI d0), .int (nI s0), .int (nI k0)] [] lX8_162 vX5_addRecord mX5_addRecord dX8_move_91 (aX5_addRecord (th := th) (ot := ot) (dy := dy) (so := so) (kn := kn) (go := go) (od := od) (n := n) (wd := wd) (r := 69) (t0 := t0) (p0 := p0) (d0 := d0) (s0 := s0) (k0 := k0) h69 h70 h71 h72 h73 h74 h75 h76 (by omega) hod bdy (by omega)) h69 rfl rfl rfl (Nat.le_of_ble_eq_true rfl) (by decide) (by decide) rfl (fun h1077 q1076 => ?_)
                obtain ⟨od11075, f1078, f1079, f1080, f1081, f1082, f1083, f1084, f1085, k1086, p1087⟩ := q1076
                have f1088 := rng_at k1086 (by decide) h0
                have f1089 := rng_at k1086 (by decide) h87
                subst hQF
                have eS : (spMove n (nI t0) (nI p0) (nI d0) (nI s0) (nI k0)) = (nI n) := by unfold spMove; (repeat' split) <;> first | (exfalso; omega) | rfl | contradiction
                have ok9 : 0 ≤ (spMove n (nI t0) (nI p0) (nI d0) (nI s0) (nI k0)).toInt := by rw [eS, nI_toInt (by omega)]; omega
                exact aw_iret rfl dX8_move_94 (by decide) (by decide) ⟨by rw [eS], _, _, by rw [spN_y ok9]; exact f1078, by rw [spUn_y ok9, nn_t0]; exact f1079, by rw [spUn_y ok9, nn_p0]; exact f1080, by rw [spUn_y ok9, nn_d0]; exact f1081, by rw [spUn_y ok9, nn_s0]; exact f1082, by rw [spUn_y ok9, nn_k0]; exact f1083, by rw [spUn_y ok9]; exact f1084, f1085, f1089, rg2_tr (rg2_rf 69 76 87 87 h) (rg2_w k1086 (by decide)), by rw [spUn_y ok9, spN_y ok9, nn_d0]; exact p1087⟩
              · have d70 := mt (nv_lt (a := n) (b := 60) (rfl) (rfl) (by omega) (by omega)).mpr c70
                refine aw_aload_n 1 dX8_move_73 rfl rfl ?_
                refine aw_bipush (-6) dX8_move_74 (by decide) ?_
                refine aw_eV [.int (-6)] [] lX8_70 vX8_refuse mX8_refuse dX8_move_76 (bX8_refuse (jv := jv) (bv := bv) (rf := rf) (x := (-6)) (q := 6) h0 h87 (by decide) (by decide)) h0 rfl rfl rfl (Nat.le_of_ble_eq_true rfl) (by decide) (by decide) rfl (fun h1092 q1091 => ?_)
                obtain ⟨rf11090, f1093, k1094⟩ := q1091
                have f1095 := rng_at k1094 (by decide) h0
                have f1096 := rng_at k1094 (by decide) h69
                have f1097 := rng_at k1094 (by decide) h70
                have f1098 := rng_at k1094 (by decide) h71
                have f1099 := rng_at k1094 (by decide) h72
                have f1100 := rng_at k1094 (by decide) h73
                have f1101 := rng_at k1094 (by decide) h74
                have f1102 := rng_at k1094 (by decide) h75
                have f1103 := rng_at k1094 (by decide) h76
                subst hQF
                have eS : (spMove n t p d s k) = (-6) := by unfold spMove; (repeat' split) <;> first | (exfalso; omega) | rfl | contradiction
                have ok9 : ¬ 0 ≤ (spMove n t p d s k).toInt := by rw [eS]; decide
                exact aw_iret rfl dX8_move_79 (by decide) (by decide) ⟨by rw [eS], _, _, by rw [spN_n ok9]; exact f1096, by rw [spUn_n ok9]; exact f1097, by rw [spUn_n ok9]; exact f1098, by rw [spUn_n ok9]; exact f1099, by rw [spUn_n ok9]; exact f1100, by rw [spUn_n ok9]; exact f1101, by rw [spUn_n ok9]; exact f1102, f1103, f1093, rg2_tr (rg2_rf 69 76 87 87 h) (rg2_w k1094 (by decide)), by rw [spUn_n ok9, spN_n ok9]; exact hod⟩
            · have d51 := mt (j_eq (a := (dyF d k).toInt) (b := (0)) (rfl) (rfl)).mpr c51
              refine aw_aload_n 1 dX8_move_54 rfl rfl ?_
              refine aw_iload 0 dX8_move_55 rfl ?_
              obtain ⟨q1104, bq1104, eq1104⟩ := Or.resolve_left (dyF_q d k) (by assumption)
              refine aw_eV [.int (dyF d k)] [] lX8_70 vX8_refuse mX8_refuse dX8_move_57 (bX8_refuse (jv := jv) (bv := bv) (rf := rf) (x := (dyF d k)) (q := q1104) h0 h87 bq1104 eq1104) h0 rfl rfl rfl (Nat.le_of_ble_eq_true rfl) (by decide) (by decide) rfl (fun h1107 q1106 => ?_)
              obtain ⟨rf11105, f1108, k1109⟩ := q1106
              have f1110 := rng_at k1109 (by decide) h0
              have f1111 := rng_at k1109 (by decide) h69
              have f1112 := rng_at k1109 (by decide) h70
              have f1113 := rng_at k1109 (by decide) h71
              have f1114 := rng_at k1109 (by decide) h72
              have f1115 := rng_at k1109 (by decide) h73
              have f1116 := rng_at k1109 (by decide) h74
              have f1117 := rng_at k1109 (by decide) h75
              have f1118 := rng_at k1109 (by decide) h76
              subst hQF
              have eS : (spMove n t p d s k) = (dyF d k) := by unfold spMove; rw [if_neg (by omega), if_neg (by omega), if_pos (by assumption)]
              have ok9 : ¬ 0 ≤ (spMove n t p d s k).toInt := by rw [eS]; have q := dyF_neg (d := d) (k := k) (by assumption); omega
              exact aw_iret rfl dX8_move_60 (by decide) (by decide) ⟨by rw [eS], _, _, by rw [spN_n ok9]; exact f1111, by rw [spUn_n ok9]; exact f1112, by rw [spUn_n ok9]; exact f1113, by rw [spUn_n ok9]; exact f1114, by rw [spUn_n ok9]; exact f1115, by rw [spUn_n ok9]; exact f1116, by rw [spUn_n ok9]; exact f1117, f1118, f1108, rg2_tr (rg2_rf 69 76 87 87 h) (rg2_w k1109 (by decide)), by rw [spUn_n ok9, spN_n ok9]; exact hod⟩
          · have d31 := mt (j_le (a := s.toInt) (b := (4)) (rfl) (rfl)).mpr c31
            refine aw_aload_n 0 dX8_move_34 rfl rfl ?_
            refine aw_bipush (-2) dX8_move_35 (by decide) ?_
            refine aw_eV [.int (-2)] [] lX8_70 vX8_refuse mX8_refuse dX8_move_37 (bX8_refuse (jv := jv) (bv := bv) (rf := rf) (x := (-2)) (q := 2) h0 h87 (by decide) (by decide)) h0 rfl rfl rfl (Nat.le_of_ble_eq_true rfl) (by decide) (by decide) rfl (fun h1121 q1120 => ?_)
            obtain ⟨rf11119, f1122, k1123⟩ := q1120
            have f1124 := rng_at k1123 (by decide) h0
            have f1125 := rng_at k1123 (by decide) h69
            have f1126 := rng_at k1123 (by decide) h70
            have f1127 := rng_at k1123 (by decide) h71
            have f1128 := rng_at k1123 (by decide) h72
            have f1129 := rng_at k1123 (by decide) h73
            have f1130 := rng_at k1123 (by decide) h74
            have f1131 := rng_at k1123 (by decide) h75
            have f1132 := rng_at k1123 (by decide) h76
            subst hQF
            have eS : (spMove n t p d s k) = (-2) := by unfold spMove; (repeat' split) <;> first | (exfalso; omega) | rfl | contradiction
            have ok9 : ¬ 0 ≤ (spMove n t p d s k).toInt := by rw [eS]; decide
            exact aw_iret rfl dX8_move_40 (by decide) (by decide) ⟨by rw [eS], _, _, by rw [spN_n ok9]; exact f1125, by rw [spUn_n ok9]; exact f1126, by rw [spUn_n ok9]; exact f1127, by rw [spUn_n ok9]; exact f1128, by rw [spUn_n ok9]; exact f1129, by rw [spUn_n ok9]; exact f1130, by rw [spUn_n ok9]; exact f1131, f1132, f1122, rg2_tr (rg2_rf 69 76 87 87 h) (rg2_w k1123 (by decide)), by rw [spUn_n ok9, spN_n ok9]; exact hod⟩
      · have d14 := mt (j_lt (a := p.toInt) (b := (8)) (rfl) (rfl)).mpr c14
        refine aw_aload_n 0 dX8_move_17 rfl rfl ?_
        refine aw_iconst (-1) dX8_move_18 (by decide) ?_
        refine aw_eV [.int (-1)] [] lX8_70 vX8_refuse mX8_refuse dX8_move_19 (bX8_refuse (jv := jv) (bv := bv) (rf := rf) (x := (-1)) (q := 1) h0 h87 (by decide) (by decide)) h0 rfl rfl rfl (Nat.le_of_ble_eq_true rfl) (by decide) (by decide) rfl (fun h1135 q1134 => ?_)
        obtain ⟨rf11133, f1136, k1137⟩ := q1134
        have f1138 := rng_at k1137 (by decide) h0
        have f1139 := rng_at k1137 (by decide) h69
        have f1140 := rng_at k1137 (by decide) h70
        have f1141 := rng_at k1137 (by decide) h71
        have f1142 := rng_at k1137 (by decide) h72
        have f1143 := rng_at k1137 (by decide) h73
        have f1144 := rng_at k1137 (by decide) h74
        have f1145 := rng_at k1137 (by decide) h75
        have f1146 := rng_at k1137 (by decide) h76
        subst hQF
        have eS : (spMove n t p d s k) = (-1) := by unfold spMove; (repeat' split) <;> first | (exfalso; omega) | rfl | contradiction
        have ok9 : ¬ 0 ≤ (spMove n t p d s k).toInt := by rw [eS]; decide
        exact aw_iret rfl dX8_move_22 (by decide) (by decide) ⟨by rw [eS], _, _, by rw [spN_n ok9]; exact f1139, by rw [spUn_n ok9]; exact f1140, by rw [spUn_n ok9]; exact f1141, by rw [spUn_n ok9]; exact f1142, by rw [spUn_n ok9]; exact f1143, by rw [spUn_n ok9]; exact f1144, by rw [spUn_n ok9]; exact f1145, f1146, f1136, rg2_tr (rg2_rf 69 76 87 87 h) (rg2_w k1137 (by decide)), by rw [spUn_n ok9, spN_n ok9]; exact hod⟩
set_option maxHeartbeats 4000000 in
theorem oX8_withdraw1 {l : Launch} {G : xG} {h : List va_E} {jv bv : Value} {rf : Nat → Int32} {th ot dy so kn go od : Nat → Nat} {n : Nat} {wd : Int32} {q k : Int32} (h0 : h[0]? = some (oB 8 (lX G (jv) (bv)))) (h87 : h[87]? = some (aI 7 rf)) (h61 : h[61]? = some (oB 5 (lR G 61 (nI n) wd))) (h62 : h[62]? = some (aI 60 (nA th))) (h63 : h[63]? = some (aI 60 (nA ot))) (h64 : h[64]? = some (aI 60 (nA dy))) (h65 : h[65]? = some (aI 60 (nA so))) (h66 : h[66]? = some (aI 60 (nA kn))) (h67 : h[67]? = some (aI 60 (nA go))) (h68 : h[68]? = some (aI 60 (nA od))) (hn : n ≤ 60) (hod : srt dy od n) (bkn : ∀ j, j < 60 → kn j ≤ 80000) (bgo : ∀ j, j < 60 → go j ≤ 80001) : CE l G yX8_withdraw cX8_withdraw 5 (some .int) 2 0 0 [.ref (G.1 + 0), .int 1, .int q, .int k] h (some (.int (spBack n kn go q k))) (fun h1 => ∃ wd1 : Int32, ∃ rf1 : Nat → Int32, h1[61]? = some (oB 5 (lR G 61 (nI n) wd1)) ∧ h1[62]? = some (aI 60 (nA th)) ∧ h1[63]? = some (aI 60 (nA ot)) ∧ h1[64]? = some (aI 60 (nA dy)) ∧ h1[65]? = some (aI 60 (nA so)) ∧ h1[66]? = some (aI 60 (nA kn)) ∧ h1[67]? = some (aI 60 (nA (spUn (0 ≤ (spBack n kn go q k).toInt) go (tn q) (tn k)))) ∧ h1[68]? = some (aI 60 (nA od)) ∧ h1[87]? = some (aI 7 rf1) ∧ rg2 61 68 87 87 h h1) := by
  refine cm_ofQ rfl (Nat.le_of_ble_eq_true rfl) [(0, .ref (G.1 + 0)), (1, .int 1), (2, .int q), (3, .int k)] rfl (fun QF hQF => ?_)
  refine aw_iload_n 1 dX8_withdraw_0 rfl rfl ?_
  refine aw_if_eq 11 dX8_withdraw_1 (by decide) (fun c1 => absurd c1 (by decide)) (fun c1 => ?_)
  refine aw_aload_n 0 dX8_withdraw_4 rfl rfl ?_
  refine aw_get fX8_34 dX8_withdraw_5 h0 rfl ?_
  refine aw_goto 15 dX8_withdraw_8 (by decide) ?_
  refine aw_astore [(4, .ref (G.1 + 61)), (0, .ref (G.1 + 0)), (1, .int 1), (2, .int q), (3, .int k)] dX8_withdraw_15 (by decide) rfl ?_
  refine aw_iload_n 3 dX8_withdraw_17 rfl rfl ?_
  refine aw_if_lt 30 dX8_withdraw_18 (by decide) (fun c18 => ?_) (fun c18 => ?_)
  · have d18 := (j_lt (a := q.toInt) (b := (0)) (rfl) (rfl)).mp c18
    refine aw_aload_n 1 dX8_withdraw_30 rfl rfl ?_
    refine aw_iconst (-1) dX8_withdraw_31 (by decide) ?_
    refine aw_eV [.int (-1)] [] lX8_70 vX8_refuse mX8_refuse dX8_withdraw_32 (bX8_refuse (jv := jv) (bv := bv) (rf := rf) (x := (-1)) (q := 1) h0 h87 (by decide) (by decide)) h0 rfl rfl rfl (Nat.le_of_ble_eq_true rfl) (by decide) (by decide) rfl (fun h1149 q1148 => ?_)
    obtain ⟨rf11147, f1150, k1151⟩ := q1148
    have f1152 := rng_at k1151 (by decide) h0
    have f1153 := rng_at k1151 (by decide) h61
    have f1154 := rng_at k1151 (by decide) h62
    have f1155 := rng_at k1151 (by decide) h63
    have f1156 := rng_at k1151 (by decide) h64
    have f1157 := rng_at k1151 (by decide) h65
    have f1158 := rng_at k1151 (by decide) h66
    have f1159 := rng_at k1151 (by decide) h67
    have f1160 := rng_at k1151 (by decide) h68
    subst hQF
    have eS : (spBack n kn go q k) = (-1) := by unfold spBack; (repeat' split) <;> first | (exfalso; omega) | rfl
    have ok9 : ¬ 0 ≤ (spBack n kn go q k).toInt := by rw [eS]; decide
    exact aw_iret rfl dX8_withdraw_35 (by decide) (by decide) ⟨by rw [eS], _, _, f1153, f1154, f1155, f1156, f1157, f1158, by rw [spUn_n ok9]; exact f1159, f1160, f1150, rg2_tr (rg2_rf 61 68 87 87 h) (rg2_w k1151 (by decide))⟩
  · have d18 := mt (j_lt (a := q.toInt) (b := (0)) (rfl) (rfl)).mpr c18
    refine aw_iload_n 3 dX8_withdraw_21 rfl rfl ?_
    refine aw_aload 0 dX8_withdraw_22 rfl ?_
    refine aw_get fX8_160 dX8_withdraw_24 h61 rfl ?_
    refine aw_icmp_lt 36 dX8_withdraw_27 (by decide) (fun c27 => ?_) (fun c27 => ?_)
    · have d27 := (j_lt (a := q.toInt) (b := ((n : Nat) : Int)) (rfl) (i_toNat (rfl) (by omega))).mp c27
      obtain ⟨q0, bb_q0, ee_q0⟩ := i_nat (x := q) (N := n) (by omega) (by omega)
      subst ee_q0
      have tt_q0 : (nI q0).toInt = (q0 : Int) := nI_toInt (by omega)
      have nn_q0 : tn (nI q0) = q0 := tn_nI (by omega)
      refine aw_aload 0 dX8_withdraw_36 rfl ?_
      refine aw_get fX8_165 dX8_withdraw_38 h61 rfl ?_
      refine aw_iload_n 3 dX8_withdraw_41 rfl rfl ?_
      refine aw_iald q0 (rfl) (by omega) (by decide) dX8_withdraw_42 h67 ?_
      refine aw_toe (nI (go q0)) (rfl) ?_
      have b1161 := bgo q0 (by omega)
      refine aw_ldc (80001) kX8_168 dX8_withdraw_43 ?_
      refine aw_icmp_eq 55 dX8_withdraw_45 (by decide) (fun c45 => ?_) (fun c45 => ?_)
      · have d45 := (nv_eq (a := go q0) (b := 80001) (rfl) (rfl) (by omega) (by omega)).mp c45
        refine aw_iload_n 4 dX8_withdraw_55 rfl rfl ?_
        refine aw_aload 0 dX8_withdraw_56 rfl ?_
        refine aw_get fX8_169 dX8_withdraw_58 h61 rfl ?_
        refine aw_iload_n 3 dX8_withdraw_61 rfl rfl ?_
        refine aw_iald q0 (rfl) (by omega) (by decide) dX8_withdraw_62 h66 ?_
        refine aw_toe (nI (kn q0)) (rfl) ?_
        have b1162 := bkn q0 (by omega)
        refine aw_icmp_ge 73 dX8_withdraw_63 (by decide) (fun c63 => ?_) (fun c63 => ?_)
        · have d63 := (j_le (a := ((kn q0 : Nat) : Int)) (b := k.toInt) (i_toNat (rfl) (by omega)) (rfl)).mp c63
          refine aw_iload_n 4 dX8_withdraw_73 rfl rfl ?_
          refine aw_ldc (80000) kX8_172 dX8_withdraw_74 ?_
          refine aw_icmp_le 86 dX8_withdraw_76 (by decide) (fun c76 => ?_) (fun c76 => ?_)
          · have d76 := (j_le (a := k.toInt) (b := (80000)) (rfl) (rfl)).mp c76
            obtain ⟨k0, bb_k0, ee_k0⟩ := i_nat (x := k) (N := 80001) (by omega) (by omega)
            subst ee_k0
            have tt_k0 : (nI k0).toInt = (k0 : Int) := nI_toInt (by omega)
            have nn_k0 : tn (nI k0) = k0 := tn_nI (by omega)
            refine aw_aload 0 dX8_withdraw_86 rfl ?_
            refine aw_iload_n 3 dX8_withdraw_88 rfl rfl ?_
            refine aw_iload_n 4 dX8_withdraw_89 rfl rfl ?_
            refine aw_eW [.int (nI q0), .int (nI k0)] [] lX8_173 vX5_takeBack mX5_takeBack dX8_withdraw_90 (aX5_takeBack (th := th) (ot := ot) (dy := dy) (so := so) (kn := kn) (go := go) (od := od) (n := n) (wd := wd) (r := 61) (q := q0) (k := k0) h61 h62 h63 h64 h65 h66 h67 h68 (by omega) hod (by omega)) h61 rfl rfl rfl (Nat.le_of_ble_eq_true rfl) (by decide) (by decide) rfl (fun h1165 q1164 => ?_)
            obtain ⟨wd11163, f1166, f1167, f1168, f1169, f1170, f1171, f1172, f1173, k1174⟩ := q1164
            have f1175 := rng_at k1174 (by decide) h0
            have f1176 := rng_at k1174 (by decide) h87
            refine aw_iconst (1) dX8_withdraw_93 (by decide) ?_
            subst hQF
            have eS : (spBack n kn go (nI q0) (nI k0)) = 1 := by unfold spBack; simp only [nn_q0, nn_k0]; (repeat' split) <;> first | (exfalso; omega) | rfl
            have ok9 : 0 ≤ (spBack n kn go (nI q0) (nI k0)).toInt := by rw [eS]; decide
            exact aw_iret rfl dX8_withdraw_94 (by decide) (by decide) ⟨by rw [eS], _, _, f1166, f1167, f1168, f1169, f1170, f1171, by rw [spUn_y ok9, nn_q0, nn_k0]; exact f1172, f1173, f1176, rg2_tr (rg2_rf 61 68 87 87 h) (rg2_w k1174 (by decide))⟩
          · have d76 := mt (j_le (a := k.toInt) (b := (80000)) (rfl) (rfl)).mpr c76
            refine aw_aload_n 1 dX8_withdraw_79 rfl rfl ?_
            refine aw_bipush (-6) dX8_withdraw_80 (by decide) ?_
            refine aw_eV [.int (-6)] [] lX8_70 vX8_refuse mX8_refuse dX8_withdraw_82 (bX8_refuse (jv := jv) (bv := bv) (rf := rf) (x := (-6)) (q := 6) h0 h87 (by decide) (by decide)) h0 rfl rfl rfl (Nat.le_of_ble_eq_true rfl) (by decide) (by decide) rfl (fun h1179 q1178 => ?_)
            obtain ⟨rf11177, f1180, k1181⟩ := q1178
            have f1182 := rng_at k1181 (by decide) h0
            have f1183 := rng_at k1181 (by decide) h61
            have f1184 := rng_at k1181 (by decide) h62
            have f1185 := rng_at k1181 (by decide) h63
            have f1186 := rng_at k1181 (by decide) h64
            have f1187 := rng_at k1181 (by decide) h65
            have f1188 := rng_at k1181 (by decide) h66
            have f1189 := rng_at k1181 (by decide) h67
            have f1190 := rng_at k1181 (by decide) h68
            subst hQF
            have eS : (spBack n kn go (nI q0) k) = (-6) := by unfold spBack; simp only [nn_q0]; (repeat' split) <;> first | (exfalso; omega) | rfl
            have ok9 : ¬ 0 ≤ (spBack n kn go (nI q0) k).toInt := by rw [eS]; decide
            exact aw_iret rfl dX8_withdraw_85 (by decide) (by decide) ⟨by rw [eS], _, _, f1183, f1184, f1185, f1186, f1187, f1188, by rw [spUn_n ok9]; exact f1189, f1190, f1180, rg2_tr (rg2_rf 61 68 87 87 h) (rg2_w k1181 (by decide))⟩
        · have d63 := mt (j_le (a := ((kn q0 : Nat) : Int)) (b := k.toInt) (i_toNat (rfl) (by omega)) (rfl)).mpr c63
          refine aw_aload_n 1 dX8_withdraw_66 rfl rfl ?_
          refine aw_bipush (-4) dX8_withdraw_67 (by decide) ?_
          refine aw_eV [.int (-4)] [] lX8_70 vX8_refuse mX8_refuse dX8_withdraw_69 (bX8_refuse (jv := jv) (bv := bv) (rf := rf) (x := (-4)) (q := 4) h0 h87 (by decide) (by decide)) h0 rfl rfl rfl (Nat.le_of_ble_eq_true rfl) (by decide) (by decide) rfl (fun h1193 q1192 => ?_)
          obtain ⟨rf11191, f1194, k1195⟩ := q1192
          have f1196 := rng_at k1195 (by decide) h0
          have f1197 := rng_at k1195 (by decide) h61
          have f1198 := rng_at k1195 (by decide) h62
          have f1199 := rng_at k1195 (by decide) h63
          have f1200 := rng_at k1195 (by decide) h64
          have f1201 := rng_at k1195 (by decide) h65
          have f1202 := rng_at k1195 (by decide) h66
          have f1203 := rng_at k1195 (by decide) h67
          have f1204 := rng_at k1195 (by decide) h68
          subst hQF
          have eS : (spBack n kn go (nI q0) k) = (-4) := by unfold spBack; simp only [nn_q0]; (repeat' split) <;> first | (exfalso; omega) | rfl
          have ok9 : ¬ 0 ≤ (spBack n kn go (nI q0) k).toInt := by rw [eS]; decide
          exact aw_iret rfl dX8_withdraw_72 (by decide) (by decide) ⟨by rw [eS], _, _, f1197, f1198, f1199, f1200, f1201, f1202, by rw [spUn_n ok9]; exact f1203, f1204, f1194, rg2_tr (rg2_rf 61 68 87 87 h) (rg2_w k1195 (by decide))⟩
      · have d45 := mt (nv_eq (a := go q0) (b := 80001) (rfl) (rfl) (by omega) (by omega)).mpr c45
        refine aw_aload_n 1 dX8_withdraw_48 rfl rfl ?_
        refine aw_bipush (-3) dX8_withdraw_49 (by decide) ?_
        refine aw_eV [.int (-3)] [] lX8_70 vX8_refuse mX8_refuse dX8_withdraw_51 (bX8_refuse (jv := jv) (bv := bv) (rf := rf) (x := (-3)) (q := 3) h0 h87 (by decide) (by decide)) h0 rfl rfl rfl (Nat.le_of_ble_eq_true rfl) (by decide) (by decide) rfl (fun h1207 q1206 => ?_)
        obtain ⟨rf11205, f1208, k1209⟩ := q1206
        have f1210 := rng_at k1209 (by decide) h0
        have f1211 := rng_at k1209 (by decide) h61
        have f1212 := rng_at k1209 (by decide) h62
        have f1213 := rng_at k1209 (by decide) h63
        have f1214 := rng_at k1209 (by decide) h64
        have f1215 := rng_at k1209 (by decide) h65
        have f1216 := rng_at k1209 (by decide) h66
        have f1217 := rng_at k1209 (by decide) h67
        have f1218 := rng_at k1209 (by decide) h68
        subst hQF
        have eS : (spBack n kn go (nI q0) k) = (-3) := by unfold spBack; simp only [nn_q0]; (repeat' split) <;> first | (exfalso; omega) | rfl
        have ok9 : ¬ 0 ≤ (spBack n kn go (nI q0) k).toInt := by rw [eS]; decide
        exact aw_iret rfl dX8_withdraw_54 (by decide) (by decide) ⟨by rw [eS], _, _, f1211, f1212, f1213, f1214, f1215, f1216, by rw [spUn_n ok9]; exact f1217, f1218, f1208, rg2_tr (rg2_rf 61 68 87 87 h) (rg2_w k1209 (by decide))⟩
    · have d27 := mt (j_lt (a := q.toInt) (b := ((n : Nat) : Int)) (rfl) (i_toNat (rfl) (by omega))).mpr c27
      refine aw_aload_n 1 dX8_withdraw_30 rfl rfl ?_
      refine aw_iconst (-1) dX8_withdraw_31 (by decide) ?_
      refine aw_eV [.int (-1)] [] lX8_70 vX8_refuse mX8_refuse dX8_withdraw_32 (bX8_refuse (jv := jv) (bv := bv) (rf := rf) (x := (-1)) (q := 1) h0 h87 (by decide) (by decide)) h0 rfl rfl rfl (Nat.le_of_ble_eq_true rfl) (by decide) (by decide) rfl (fun h1221 q1220 => ?_)
      obtain ⟨rf11219, f1222, k1223⟩ := q1220
      have f1224 := rng_at k1223 (by decide) h0
      have f1225 := rng_at k1223 (by decide) h61
      have f1226 := rng_at k1223 (by decide) h62
      have f1227 := rng_at k1223 (by decide) h63
      have f1228 := rng_at k1223 (by decide) h64
      have f1229 := rng_at k1223 (by decide) h65
      have f1230 := rng_at k1223 (by decide) h66
      have f1231 := rng_at k1223 (by decide) h67
      have f1232 := rng_at k1223 (by decide) h68
      subst hQF
      have eS : (spBack n kn go q k) = (-1) := by unfold spBack; (repeat' split) <;> first | (exfalso; omega) | rfl
      have ok9 : ¬ 0 ≤ (spBack n kn go q k).toInt := by rw [eS]; decide
      exact aw_iret rfl dX8_withdraw_35 (by decide) (by decide) ⟨by rw [eS], _, _, f1225, f1226, f1227, f1228, f1229, f1230, by rw [spUn_n ok9]; exact f1231, f1232, f1222, rg2_tr (rg2_rf 61 68 87 87 h) (rg2_w k1223 (by decide))⟩
set_option maxHeartbeats 4000000 in
theorem oX8_withdraw0 {l : Launch} {G : xG} {h : List va_E} {jv bv : Value} {rf : Nat → Int32} {th ot dy so kn go od : Nat → Nat} {n : Nat} {wd : Int32} {q k : Int32} (h0 : h[0]? = some (oB 8 (lX G (jv) (bv)))) (h87 : h[87]? = some (aI 7 rf)) (h69 : h[69]? = some (oB 5 (lR G 69 (nI n) wd))) (h70 : h[70]? = some (aI 60 (nA th))) (h71 : h[71]? = some (aI 60 (nA ot))) (h72 : h[72]? = some (aI 60 (nA dy))) (h73 : h[73]? = some (aI 60 (nA so))) (h74 : h[74]? = some (aI 60 (nA kn))) (h75 : h[75]? = some (aI 60 (nA go))) (h76 : h[76]? = some (aI 60 (nA od))) (hn : n ≤ 60) (hod : srt dy od n) (bkn : ∀ j, j < 60 → kn j ≤ 80000) (bgo : ∀ j, j < 60 → go j ≤ 80001) : CE l G yX8_withdraw cX8_withdraw 5 (some .int) 2 0 0 [.ref (G.1 + 0), .int 0, .int q, .int k] h (some (.int (spBack n kn go q k))) (fun h1 => ∃ wd1 : Int32, ∃ rf1 : Nat → Int32, h1[69]? = some (oB 5 (lR G 69 (nI n) wd1)) ∧ h1[70]? = some (aI 60 (nA th)) ∧ h1[71]? = some (aI 60 (nA ot)) ∧ h1[72]? = some (aI 60 (nA dy)) ∧ h1[73]? = some (aI 60 (nA so)) ∧ h1[74]? = some (aI 60 (nA kn)) ∧ h1[75]? = some (aI 60 (nA (spUn (0 ≤ (spBack n kn go q k).toInt) go (tn q) (tn k)))) ∧ h1[76]? = some (aI 60 (nA od)) ∧ h1[87]? = some (aI 7 rf1) ∧ rg2 69 76 87 87 h h1) := by
  refine cm_ofQ rfl (Nat.le_of_ble_eq_true rfl) [(0, .ref (G.1 + 0)), (1, .int 0), (2, .int q), (3, .int k)] rfl (fun QF hQF => ?_)
  refine aw_iload_n 1 dX8_withdraw_0 rfl rfl ?_
  refine aw_if_eq 11 dX8_withdraw_1 (by decide) (fun c1 => ?_) (fun c1 => absurd (by decide) c1)
  refine aw_aload_n 0 dX8_withdraw_11 rfl rfl ?_
  refine aw_get fX8_38 dX8_withdraw_12 h0 rfl ?_
  refine aw_astore [(4, .ref (G.1 + 69)), (0, .ref (G.1 + 0)), (1, .int 0), (2, .int q), (3, .int k)] dX8_withdraw_15 (by decide) rfl ?_
  refine aw_iload_n 3 dX8_withdraw_17 rfl rfl ?_
  refine aw_if_lt 30 dX8_withdraw_18 (by decide) (fun c18 => ?_) (fun c18 => ?_)
  · have d18 := (j_lt (a := q.toInt) (b := (0)) (rfl) (rfl)).mp c18
    refine aw_aload_n 1 dX8_withdraw_30 rfl rfl ?_
    refine aw_iconst (-1) dX8_withdraw_31 (by decide) ?_
    refine aw_eV [.int (-1)] [] lX8_70 vX8_refuse mX8_refuse dX8_withdraw_32 (bX8_refuse (jv := jv) (bv := bv) (rf := rf) (x := (-1)) (q := 1) h0 h87 (by decide) (by decide)) h0 rfl rfl rfl (Nat.le_of_ble_eq_true rfl) (by decide) (by decide) rfl (fun h1235 q1234 => ?_)
    obtain ⟨rf11233, f1236, k1237⟩ := q1234
    have f1238 := rng_at k1237 (by decide) h0
    have f1239 := rng_at k1237 (by decide) h69
    have f1240 := rng_at k1237 (by decide) h70
    have f1241 := rng_at k1237 (by decide) h71
    have f1242 := rng_at k1237 (by decide) h72
    have f1243 := rng_at k1237 (by decide) h73
    have f1244 := rng_at k1237 (by decide) h74
    have f1245 := rng_at k1237 (by decide) h75
    have f1246 := rng_at k1237 (by decide) h76
    subst hQF
    have eS : (spBack n kn go q k) = (-1) := by unfold spBack; (repeat' split) <;> first | (exfalso; omega) | rfl
    have ok9 : ¬ 0 ≤ (spBack n kn go q k).toInt := by rw [eS]; decide
    exact aw_iret rfl dX8_withdraw_35 (by decide) (by decide) ⟨by rw [eS], _, _, f1239, f1240, f1241, f1242, f1243, f1244, by rw [spUn_n ok9]; exact f1245, f1246, f1236, rg2_tr (rg2_rf 69 76 87 87 h) (rg2_w k1237 (by decide))⟩
  · have d18 := mt (j_lt (a := q.toInt) (b := (0)) (rfl) (rfl)).mpr c18
    refine aw_iload_n 3 dX8_withdraw_21 rfl rfl ?_
    refine aw_aload 0 dX8_withdraw_22 rfl ?_
    refine aw_get fX8_160 dX8_withdraw_24 h69 rfl ?_
    refine aw_icmp_lt 36 dX8_withdraw_27 (by decide) (fun c27 => ?_) (fun c27 => ?_)
    · have d27 := (j_lt (a := q.toInt) (b := ((n : Nat) : Int)) (rfl) (i_toNat (rfl) (by omega))).mp c27
      obtain ⟨q0, bb_q0, ee_q0⟩ := i_nat (x := q) (N := n) (by omega) (by omega)
      subst ee_q0
      have tt_q0 : (nI q0).toInt = (q0 : Int) := nI_toInt (by omega)
      have nn_q0 : tn (nI q0) = q0 := tn_nI (by omega)
      refine aw_aload 0 dX8_withdraw_36 rfl ?_
      refine aw_get fX8_165 dX8_withdraw_38 h69 rfl ?_
      refine aw_iload_n 3 dX8_withdraw_41 rfl rfl ?_
      refine aw_iald q0 (rfl) (by omega) (by decide) dX8_withdraw_42 h75 ?_
      refine aw_toe (nI (go q0)) (rfl) ?_
      have b1247 := bgo q0 (by omega)
      refine aw_ldc (80001) kX8_168 dX8_withdraw_43 ?_
      refine aw_icmp_eq 55 dX8_withdraw_45 (by decide) (fun c45 => ?_) (fun c45 => ?_)
      · have d45 := (nv_eq (a := go q0) (b := 80001) (rfl) (rfl) (by omega) (by omega)).mp c45
        refine aw_iload_n 4 dX8_withdraw_55 rfl rfl ?_
        refine aw_aload 0 dX8_withdraw_56 rfl ?_
        refine aw_get fX8_169 dX8_withdraw_58 h69 rfl ?_
        refine aw_iload_n 3 dX8_withdraw_61 rfl rfl ?_
        refine aw_iald q0 (rfl) (by omega) (by decide) dX8_withdraw_62 h74 ?_
        refine aw_toe (nI (kn q0)) (rfl) ?_
        have b1248 := bkn q0 (by omega)
        refine aw_icmp_ge 73 dX8_withdraw_63 (by decide) (fun c63 => ?_) (fun c63 => ?_)
        · have d63 := (j_le (a := ((kn q0 : Nat) : Int)) (b := k.toInt) (i_toNat (rfl) (by omega)) (rfl)).mp c63
          refine aw_iload_n 4 dX8_withdraw_73 rfl rfl ?_
          refine aw_ldc (80000) kX8_172 dX8_withdraw_74 ?_
          refine aw_icmp_le 86 dX8_withdraw_76 (by decide) (fun c76 => ?_) (fun c76 => ?_)
          · have d76 := (j_le (a := k.toInt) (b := (80000)) (rfl) (rfl)).mp c76
            obtain ⟨k0, bb_k0, ee_k0⟩ := i_nat (x := k) (N := 80001) (by omega) (by omega)
            subst ee_k0
            have tt_k0 : (nI k0).toInt = (k0 : Int) := nI_toInt (by omega)
            have nn_k0 : tn (nI k0) = k0 := tn_nI (by omega)
            refine aw_aload 0 dX8_withdraw_86 rfl ?_
            refine aw_iload_n 3 dX8_withdraw_88 rfl rfl ?_
            refine aw_iload_n 4 dX8_withdraw_89 rfl rfl ?_
            refine aw_eW [.int (nI q0), .int (nI k0)] [] lX8_173 vX5_takeBack mX5_takeBack dX8_withdraw_90 (aX5_takeBack (th := th) (ot := ot) (dy := dy) (so := so) (kn := kn) (go := go) (od := od) (n := n) (wd := wd) (r := 69) (q := q0) (k := k0) h69 h70 h71 h72 h73 h74 h75 h76 (by omega) hod (by omega)) h69 rfl rfl rfl (Nat.le_of_ble_eq_true rfl) (by decide) (by decide) rfl (fun h1251 q1250 => ?_)
            obtain ⟨wd11249, f1252, f1253, f1254, f1255, f1256, f1257, f1258, f1259, k1260⟩ := q1250
            have f1261 := rng_at k1260 (by decide) h0
            have f1262 := rng_at k1260 (by decide) h87
            refine aw_iconst (1) dX8_withdraw_93 (by decide) ?_
            subst hQF
            have eS : (spBack n kn go (nI q0) (nI k0)) = 1 := by unfold spBack; simp only [nn_q0, nn_k0]; (repeat' split) <;> first | (exfalso; omega) | rfl
            have ok9 : 0 ≤ (spBack n kn go (nI q0) (nI k0)).toInt := by rw [eS]; decide
            exact aw_iret rfl dX8_withdraw_94 (by decide) (by decide) ⟨by rw [eS], _, _, f1252, f1253, f1254, f1255, f1256, f1257, by rw [spUn_y ok9, nn_q0, nn_k0]; exact f1258, f1259, f1262, rg2_tr (rg2_rf 69 76 87 87 h) (rg2_w k1260 (by decide))⟩
          · have d76 := mt (j_le (a := k.toInt) (b := (80000)) (rfl) (rfl)).mpr c76
            refine aw_aload_n 1 dX8_withdraw_79 rfl rfl ?_
            refine aw_bipush (-6) dX8_withdraw_80 (by decide) ?_
            refine aw_eV [.int (-6)] [] lX8_70 vX8_refuse mX8_refuse dX8_withdraw_82 (bX8_refuse (jv := jv) (bv := bv) (rf := rf) (x := (-6)) (q := 6) h0 h87 (by decide) (by decide)) h0 rfl rfl rfl (Nat.le_of_ble_eq_true rfl) (by decide) (by decide) rfl (fun h1265 q1264 => ?_)
            obtain ⟨rf11263, f1266, k1267⟩ := q1264
            have f1268 := rng_at k1267 (by decide) h0
            have f1269 := rng_at k1267 (by decide) h69
            have f1270 := rng_at k1267 (by decide) h70
            have f1271 := rng_at k1267 (by decide) h71
            have f1272 := rng_at k1267 (by decide) h72
            have f1273 := rng_at k1267 (by decide) h73
            have f1274 := rng_at k1267 (by decide) h74
            have f1275 := rng_at k1267 (by decide) h75
            have f1276 := rng_at k1267 (by decide) h76
            subst hQF
            have eS : (spBack n kn go (nI q0) k) = (-6) := by unfold spBack; simp only [nn_q0]; (repeat' split) <;> first | (exfalso; omega) | rfl
            have ok9 : ¬ 0 ≤ (spBack n kn go (nI q0) k).toInt := by rw [eS]; decide
            exact aw_iret rfl dX8_withdraw_85 (by decide) (by decide) ⟨by rw [eS], _, _, f1269, f1270, f1271, f1272, f1273, f1274, by rw [spUn_n ok9]; exact f1275, f1276, f1266, rg2_tr (rg2_rf 69 76 87 87 h) (rg2_w k1267 (by decide))⟩
        · have d63 := mt (j_le (a := ((kn q0 : Nat) : Int)) (b := k.toInt) (i_toNat (rfl) (by omega)) (rfl)).mpr c63
          refine aw_aload_n 1 dX8_withdraw_66 rfl rfl ?_
          refine aw_bipush (-4) dX8_withdraw_67 (by decide) ?_
          refine aw_eV [.int (-4)] [] lX8_70 vX8_refuse mX8_refuse dX8_withdraw_69 (bX8_refuse (jv := jv) (bv := bv) (rf := rf) (x := (-4)) (q := 4) h0 h87 (by decide) (by decide)) h0 rfl rfl rfl (Nat.le_of_ble_eq_true rfl) (by decide) (by decide) rfl (fun h1279 q1278 => ?_)
          obtain ⟨rf11277, f1280, k1281⟩ := q1278
          have f1282 := rng_at k1281 (by decide) h0
          have f1283 := rng_at k1281 (by decide) h69
          have f1284 := rng_at k1281 (by decide) h70
          have f1285 := rng_at k1281 (by decide) h71
          have f1286 := rng_at k1281 (by decide) h72
          have f1287 := rng_at k1281 (by decide) h73
          have f1288 := rng_at k1281 (by decide) h74
          have f1289 := rng_at k1281 (by decide) h75
          have f1290 := rng_at k1281 (by decide) h76
          subst hQF
          have eS : (spBack n kn go (nI q0) k) = (-4) := by unfold spBack; simp only [nn_q0]; (repeat' split) <;> first | (exfalso; omega) | rfl
          have ok9 : ¬ 0 ≤ (spBack n kn go (nI q0) k).toInt := by rw [eS]; decide
          exact aw_iret rfl dX8_withdraw_72 (by decide) (by decide) ⟨by rw [eS], _, _, f1283, f1284, f1285, f1286, f1287, f1288, by rw [spUn_n ok9]; exact f1289, f1290, f1280, rg2_tr (rg2_rf 69 76 87 87 h) (rg2_w k1281 (by decide))⟩
      · have d45 := mt (nv_eq (a := go q0) (b := 80001) (rfl) (rfl) (by omega) (by omega)).mpr c45
        refine aw_aload_n 1 dX8_withdraw_48 rfl rfl ?_
        refine aw_bipush (-3) dX8_withdraw_49 (by decide) ?_
        refine aw_eV [.int (-3)] [] lX8_70 vX8_refuse mX8_refuse dX8_withdraw_51 (bX8_refuse (jv := jv) (bv := bv) (rf := rf) (x := (-3)) (q := 3) h0 h87 (by decide) (by decide)) h0 rfl rfl rfl (Nat.le_of_ble_eq_true rfl) (by decide) (by decide) rfl (fun h1293 q1292 => ?_)
        obtain ⟨rf11291, f1294, k1295⟩ := q1292
        have f1296 := rng_at k1295 (by decide) h0
        have f1297 := rng_at k1295 (by decide) h69
        have f1298 := rng_at k1295 (by decide) h70
        have f1299 := rng_at k1295 (by decide) h71
        have f1300 := rng_at k1295 (by decide) h72
        have f1301 := rng_at k1295 (by decide) h73
        have f1302 := rng_at k1295 (by decide) h74
        have f1303 := rng_at k1295 (by decide) h75
        have f1304 := rng_at k1295 (by decide) h76
        subst hQF
        have eS : (spBack n kn go (nI q0) k) = (-3) := by unfold spBack; simp only [nn_q0]; (repeat' split) <;> first | (exfalso; omega) | rfl
        have ok9 : ¬ 0 ≤ (spBack n kn go (nI q0) k).toInt := by rw [eS]; decide
        exact aw_iret rfl dX8_withdraw_54 (by decide) (by decide) ⟨by rw [eS], _, _, f1297, f1298, f1299, f1300, f1301, f1302, by rw [spUn_n ok9]; exact f1303, f1304, f1294, rg2_tr (rg2_rf 69 76 87 87 h) (rg2_w k1295 (by decide))⟩
    · have d27 := mt (j_lt (a := q.toInt) (b := ((n : Nat) : Int)) (rfl) (i_toNat (rfl) (by omega))).mpr c27
      refine aw_aload_n 1 dX8_withdraw_30 rfl rfl ?_
      refine aw_iconst (-1) dX8_withdraw_31 (by decide) ?_
      refine aw_eV [.int (-1)] [] lX8_70 vX8_refuse mX8_refuse dX8_withdraw_32 (bX8_refuse (jv := jv) (bv := bv) (rf := rf) (x := (-1)) (q := 1) h0 h87 (by decide) (by decide)) h0 rfl rfl rfl (Nat.le_of_ble_eq_true rfl) (by decide) (by decide) rfl (fun h1307 q1306 => ?_)
      obtain ⟨rf11305, f1308, k1309⟩ := q1306
      have f1310 := rng_at k1309 (by decide) h0
      have f1311 := rng_at k1309 (by decide) h69
      have f1312 := rng_at k1309 (by decide) h70
      have f1313 := rng_at k1309 (by decide) h71
      have f1314 := rng_at k1309 (by decide) h72
      have f1315 := rng_at k1309 (by decide) h73
      have f1316 := rng_at k1309 (by decide) h74
      have f1317 := rng_at k1309 (by decide) h75
      have f1318 := rng_at k1309 (by decide) h76
      subst hQF
      have eS : (spBack n kn go q k) = (-1) := by unfold spBack; (repeat' split) <;> first | (exfalso; omega) | rfl
      have ok9 : ¬ 0 ≤ (spBack n kn go q k).toInt := by rw [eS]; decide
      exact aw_iret rfl dX8_withdraw_35 (by decide) (by decide) ⟨by rw [eS], _, _, f1311, f1312, f1313, f1314, f1315, f1316, by rw [spUn_n ok9]; exact f1317, f1318, f1308, rg2_tr (rg2_rf 69 76 87 87 h) (rg2_w k1309 (by decide))⟩
