set_option maxHeartbeats 4000000 in
theorem oX8_set {l : Launch} {G : xG} {h : List va_E} {jv bv : Value} {rf : Nat → Int32} {m se ye fi : Nat → Nat} {W Sn Z Ro Co : Nat → Int32} {Ba : Nat → Int64} {nb sp fa ve : Nat} {q v : Int32} (h0 : h[0]? = some (oB 8 (lX G (jv) (bv)))) (h87 : h[87]? = some (aI 7 rf)) (h1 : h[1]? = some (oB 1 (lC G (nI nb) (nI sp) (nI fa) (nI ve)))) (h2 : h[2]? = some (aI 20 (nA m))) (h3 : h[3]? = some (aI 20 (nA se))) (h4 : h[4]? = some (aI 4 (nA ye))) (h5 : h[5]? = some (aI 4 (nA fi))) (h6 : h[6]? = some (aI 40 W)) (h7 : h[7]? = some (aI 40 Sn)) (h8 : h[8]? = some (aI 40 Z)) (h9 : h[9]? = some (aI 40 Ro)) (h10 : h[10]? = some (aI 40 Co)) (h11 : h[11]? = some (aL 40 Ba)) (hm : ∀ j, j < 20 → m j ≤ j) (hse : ∀ j, j < 20 → se j < 20) (hfi : ∀ j, j < 4 → fi j < 11) (hye : ∀ j, j < 4 → ye j < 1901) : CE l G yX8_set cX8_set 3 (some .int) 2 0 0 [.ref (G.1 + 0), .int q, .int v] h (some (.int ((spSet sp fa q v).1))) (fun h1 => ∃ ve1 : Nat, ∃ rf1 : Nat → Int32, h1[1]? = some (oB 1 (lC G (nI nb) (nI ((spSet sp fa q v).2.1)) (nI ((spSet sp fa q v).2.2)) (nI ve1))) ∧ h1[2]? = some (aI 20 (nA m)) ∧ h1[3]? = some (aI 20 (nA se)) ∧ h1[4]? = some (aI 4 (nA ye)) ∧ h1[5]? = some (aI 4 (nA fi)) ∧ h1[6]? = some (aI 40 W) ∧ h1[7]? = some (aI 40 Sn) ∧ h1[8]? = some (aI 40 Z) ∧ h1[9]? = some (aI 40 Ro) ∧ h1[10]? = some (aI 40 Co) ∧ h1[11]? = some (aL 40 Ba) ∧ h1[87]? = some (aI 7 rf1) ∧ rg2 1 11 87 87 h h1 ∧ (ve1 = ve + 1 ∨ (ve1 = ve ∧ (spSet sp fa q v).2.1 = sp ∧ (spSet sp fa q v).2.2 = fa))) := by
  refine cm_ofQ rfl (Nat.le_of_ble_eq_true rfl) [(0, .ref (G.1 + 0)), (1, .int q), (2, .int v)] rfl (fun QF hQF => ?_)
  refine aw_iload_n 1 dX8_set_0 rfl rfl ?_
  refine aw_if_eq 16 dX8_set_1 (by decide) (fun c1 => ?_) (fun c1 => ?_)
  · have d1 := (j_eq (a := q.toInt) (b := (0)) (rfl) (rfl)).mp c1
    refine aw_iload_n 2 dX8_set_16 rfl rfl ?_
    refine aw_if_ge 27 dX8_set_17 (by decide) (fun c17 => ?_) (fun c17 => ?_)
    · have d17 := (j_le (a := (0)) (b := v.toInt) (rfl) (rfl)).mp c17
      refine aw_iload_n 2 dX8_set_27 rfl rfl ?_
      refine aw_iload_n 1 dX8_set_28 rfl rfl ?_
      refine aw_if_ne 37 dX8_set_29 (by decide) (fun c29 => ?_) (fun c29 => ?_)
      · have d29 := mt (j_eq (a := q.toInt) (b := (0)) (rfl) (rfl)).mpr c29
        refine aw_bipush (9) dX8_set_37 (by decide) ?_
        refine aw_icmp_le 49 dX8_set_39 (by decide) (fun c39 => ?_) (fun c39 => ?_)
        · have d39 := (j_le (a := v.toInt) (b := (9)) (rfl) (rfl)).mp c39
          refine aw_iload_n 1 dX8_set_49 rfl rfl ?_
          refine aw_if_ne 64 dX8_set_50 (by decide) (fun c50 => ?_) (fun c50 => ?_)
          · have d50 := mt (j_eq (a := q.toInt) (b := (0)) (rfl) (rfl)).mpr c50
            obtain ⟨a, bb_a, ee_a⟩ := i_nat (x := v) (N := 10) (by omega) (by omega)
            subst ee_a
            have tt_a : (nI a).toInt = (a : Int) := nI_toInt (by omega)
            have nn_a : tn (nI a) = a := tn_nI (by omega)
            refine aw_aload_n 0 dX8_set_64 rfl rfl ?_
            refine aw_get fX8_20 dX8_set_65 h0 rfl ?_
            refine aw_iload_n 2 dX8_set_68 rfl rfl ?_
            refine aw_eV [.int (nI a)] [] lX8_101 vX1_tellFade mX1_tellFade dX8_set_69 (aX1_tellFade (m := m) (se := se) (ye := ye) (fi := fi) (W := W) (Sn := Sn) (Z := Z) (Ro := Ro) (Co := Co) (Ba := Ba) (nb := nb) (sp := sp) (fa := fa) (ve := ve) (v := a) h1 h2 h3 h4 h5 h6 h7 h8 h9 h10 h11) h1 rfl rfl rfl (Nat.le_of_ble_eq_true rfl) (by decide) (by decide) rfl (fun h390 q389 => ?_)
            obtain ⟨f391, f392, f393, f394, f395, f396, f397, f398, f399, f400, f401, k402⟩ := q389
            have f403 := rng_at k402 (by decide) h0
            have f404 := rng_at k402 (by decide) h87
            subst hQF
            have eS : spSet sp fa q (nI a) = ((nI fa), sp, a) := by unfold spSet; (repeat' split) <;> first | (exfalso; omega) | rfl | (simp only [nn_a]; done)
            exact aw_iret rfl dX8_set_72 (by decide) (by decide) ⟨by rw [eS], _, _, by rw [eS]; exact f391, f392, f393, f394, f395, f396, f397, f398, f399, f400, f401, f404, rg2_tr (rg2_rf 1 11 87 87 h) (rg2_w k402 (by decide)), Or.inl rfl⟩
          · have d50 := (j_eq (a := q.toInt) (b := (0)) (rfl) (rfl)).mp c50
            obtain ⟨a, bb_a, ee_a⟩ := i_nat (x := v) (N := 51) (by omega) (by omega)
            subst ee_a
            have tt_a : (nI a).toInt = (a : Int) := nI_toInt (by omega)
            have nn_a : tn (nI a) = a := tn_nI (by omega)
            refine aw_aload_n 0 dX8_set_53 rfl rfl ?_
            refine aw_get fX8_20 dX8_set_54 h0 rfl ?_
            refine aw_iload_n 2 dX8_set_57 rfl rfl ?_
            refine aw_eV [.int (nI a)] [] lX8_98 vX1_tellSpare mX1_tellSpare dX8_set_58 (aX1_tellSpare (m := m) (se := se) (ye := ye) (fi := fi) (W := W) (Sn := Sn) (Z := Z) (Ro := Ro) (Co := Co) (Ba := Ba) (nb := nb) (sp := sp) (fa := fa) (ve := ve) (v := a) h1 h2 h3 h4 h5 h6 h7 h8 h9 h10 h11) h1 rfl rfl rfl (Nat.le_of_ble_eq_true rfl) (by decide) (by decide) rfl (fun h406 q405 => ?_)
            obtain ⟨f407, f408, f409, f410, f411, f412, f413, f414, f415, f416, f417, k418⟩ := q405
            have f419 := rng_at k418 (by decide) h0
            have f420 := rng_at k418 (by decide) h87
            refine aw_goto 72 dX8_set_61 (by decide) ?_
            subst hQF
            have eS : spSet sp fa q (nI a) = ((nI sp), a, fa) := by unfold spSet; (repeat' split) <;> first | (exfalso; omega) | rfl | (simp only [nn_a]; done)
            exact aw_iret rfl dX8_set_72 (by decide) (by decide) ⟨by rw [eS], _, _, by rw [eS]; exact f407, f408, f409, f410, f411, f412, f413, f414, f415, f416, f417, f420, rg2_tr (rg2_rf 1 11 87 87 h) (rg2_w k418 (by decide)), Or.inl rfl⟩
        · have d39 := mt (j_le (a := v.toInt) (b := (9)) (rfl) (rfl)).mpr c39
          refine aw_aload_n 0 dX8_set_42 rfl rfl ?_
          refine aw_bipush (-6) dX8_set_43 (by decide) ?_
          refine aw_eV [.int (-6)] [] lX8_70 vX8_refuse mX8_refuse dX8_set_45 (bX8_refuse (jv := jv) (bv := bv) (rf := rf) (x := (-6)) (q := 6) h0 h87 (by decide) (by decide)) h0 rfl rfl rfl (Nat.le_of_ble_eq_true rfl) (by decide) (by decide) rfl (fun h423 q422 => ?_)
          obtain ⟨rf1421, f424, k425⟩ := q422
          have f426 := rng_at k425 (by decide) h0
          have f427 := rng_at k425 (by decide) h1
          have f428 := rng_at k425 (by decide) h2
          have f429 := rng_at k425 (by decide) h3
          have f430 := rng_at k425 (by decide) h4
          have f431 := rng_at k425 (by decide) h5
          have f432 := rng_at k425 (by decide) h6
          have f433 := rng_at k425 (by decide) h7
          have f434 := rng_at k425 (by decide) h8
          have f435 := rng_at k425 (by decide) h9
          have f436 := rng_at k425 (by decide) h10
          have f437 := rng_at k425 (by decide) h11
          subst hQF
          have eS : spSet sp fa q v = ((-6), sp, fa) := by unfold spSet; (repeat' split) <;> first | (exfalso; omega) | rfl
          exact aw_iret rfl dX8_set_48 (by decide) (by decide) ⟨by rw [eS], _, _, by rw [eS]; exact f427, f428, f429, f430, f431, f432, f433, f434, f435, f436, f437, f424, rg2_tr (rg2_rf 1 11 87 87 h) (rg2_w k425 (by decide)), Or.inr ⟨rfl, by rw [eS]; exact ⟨rfl, rfl⟩⟩⟩
      · have d29 := (j_eq (a := q.toInt) (b := (0)) (rfl) (rfl)).mp c29
        refine aw_bipush (50) dX8_set_32 (by decide) ?_
        refine aw_goto 39 dX8_set_34 (by decide) ?_
        refine aw_icmp_le 49 dX8_set_39 (by decide) (fun c39 => ?_) (fun c39 => ?_)
        · have d39 := (j_le (a := v.toInt) (b := (50)) (rfl) (rfl)).mp c39
          refine aw_iload_n 1 dX8_set_49 rfl rfl ?_
          refine aw_if_ne 64 dX8_set_50 (by decide) (fun c50 => ?_) (fun c50 => ?_)
          · have d50 := mt (j_eq (a := q.toInt) (b := (0)) (rfl) (rfl)).mpr c50
            obtain ⟨a, bb_a, ee_a⟩ := i_nat (x := v) (N := 10) (by omega) (by omega)
            subst ee_a
            have tt_a : (nI a).toInt = (a : Int) := nI_toInt (by omega)
            have nn_a : tn (nI a) = a := tn_nI (by omega)
            refine aw_aload_n 0 dX8_set_64 rfl rfl ?_
            refine aw_get fX8_20 dX8_set_65 h0 rfl ?_
            refine aw_iload_n 2 dX8_set_68 rfl rfl ?_
            refine aw_eV [.int (nI a)] [] lX8_101 vX1_tellFade mX1_tellFade dX8_set_69 (aX1_tellFade (m := m) (se := se) (ye := ye) (fi := fi) (W := W) (Sn := Sn) (Z := Z) (Ro := Ro) (Co := Co) (Ba := Ba) (nb := nb) (sp := sp) (fa := fa) (ve := ve) (v := a) h1 h2 h3 h4 h5 h6 h7 h8 h9 h10 h11) h1 rfl rfl rfl (Nat.le_of_ble_eq_true rfl) (by decide) (by decide) rfl (fun h439 q438 => ?_)
            obtain ⟨f440, f441, f442, f443, f444, f445, f446, f447, f448, f449, f450, k451⟩ := q438
            have f452 := rng_at k451 (by decide) h0
            have f453 := rng_at k451 (by decide) h87
            subst hQF
            have eS : spSet sp fa q (nI a) = ((nI fa), sp, a) := by unfold spSet; (repeat' split) <;> first | (exfalso; omega) | rfl | (simp only [nn_a]; done)
            exact aw_iret rfl dX8_set_72 (by decide) (by decide) ⟨by rw [eS], _, _, by rw [eS]; exact f440, f441, f442, f443, f444, f445, f446, f447, f448, f449, f450, f453, rg2_tr (rg2_rf 1 11 87 87 h) (rg2_w k451 (by decide)), Or.inl rfl⟩
          · have d50 := (j_eq (a := q.toInt) (b := (0)) (rfl) (rfl)).mp c50
            obtain ⟨a, bb_a, ee_a⟩ := i_nat (x := v) (N := 51) (by omega) (by omega)
            subst ee_a
            have tt_a : (nI a).toInt = (a : Int) := nI_toInt (by omega)
            have nn_a : tn (nI a) = a := tn_nI (by omega)
            refine aw_aload_n 0 dX8_set_53 rfl rfl ?_
            refine aw_get fX8_20 dX8_set_54 h0 rfl ?_
            refine aw_iload_n 2 dX8_set_57 rfl rfl ?_
            refine aw_eV [.int (nI a)] [] lX8_98 vX1_tellSpare mX1_tellSpare dX8_set_58 (aX1_tellSpare (m := m) (se := se) (ye := ye) (fi := fi) (W := W) (Sn := Sn) (Z := Z) (Ro := Ro) (Co := Co) (Ba := Ba) (nb := nb) (sp := sp) (fa := fa) (ve := ve) (v := a) h1 h2 h3 h4 h5 h6 h7 h8 h9 h10 h11) h1 rfl rfl rfl (Nat.le_of_ble_eq_true rfl) (by decide) (by decide) rfl (fun h455 q454 => ?_)
            obtain ⟨f456, f457, f458, f459, f460, f461, f462, f463, f464, f465, f466, k467⟩ := q454
            have f468 := rng_at k467 (by decide) h0
            have f469 := rng_at k467 (by decide) h87
            refine aw_goto 72 dX8_set_61 (by decide) ?_
            subst hQF
            have eS : spSet sp fa q (nI a) = ((nI sp), a, fa) := by unfold spSet; (repeat' split) <;> first | (exfalso; omega) | rfl | (simp only [nn_a]; done)
            exact aw_iret rfl dX8_set_72 (by decide) (by decide) ⟨by rw [eS], _, _, by rw [eS]; exact f456, f457, f458, f459, f460, f461, f462, f463, f464, f465, f466, f469, rg2_tr (rg2_rf 1 11 87 87 h) (rg2_w k467 (by decide)), Or.inl rfl⟩
        · have d39 := mt (j_le (a := v.toInt) (b := (50)) (rfl) (rfl)).mpr c39
          refine aw_aload_n 0 dX8_set_42 rfl rfl ?_
          refine aw_bipush (-6) dX8_set_43 (by decide) ?_
          refine aw_eV [.int (-6)] [] lX8_70 vX8_refuse mX8_refuse dX8_set_45 (bX8_refuse (jv := jv) (bv := bv) (rf := rf) (x := (-6)) (q := 6) h0 h87 (by decide) (by decide)) h0 rfl rfl rfl (Nat.le_of_ble_eq_true rfl) (by decide) (by decide) rfl (fun h472 q471 => ?_)
          obtain ⟨rf1470, f473, k474⟩ := q471
          have f475 := rng_at k474 (by decide) h0
          have f476 := rng_at k474 (by decide) h1
          have f477 := rng_at k474 (by decide) h2
          have f478 := rng_at k474 (by decide) h3
          have f479 := rng_at k474 (by decide) h4
          have f480 := rng_at k474 (by decide) h5
          have f481 := rng_at k474 (by decide) h6
          have f482 := rng_at k474 (by decide) h7
          have f483 := rng_at k474 (by decide) h8
          have f484 := rng_at k474 (by decide) h9
          have f485 := rng_at k474 (by decide) h10
          have f486 := rng_at k474 (by decide) h11
          subst hQF
          have eS : spSet sp fa q v = ((-6), sp, fa) := by unfold spSet; (repeat' split) <;> first | (exfalso; omega) | rfl
          exact aw_iret rfl dX8_set_48 (by decide) (by decide) ⟨by rw [eS], _, _, by rw [eS]; exact f476, f477, f478, f479, f480, f481, f482, f483, f484, f485, f486, f473, rg2_tr (rg2_rf 1 11 87 87 h) (rg2_w k474 (by decide)), Or.inr ⟨rfl, by rw [eS]; exact ⟨rfl, rfl⟩⟩⟩
    · have d17 := mt (j_le (a := (0)) (b := v.toInt) (rfl) (rfl)).mpr c17
      refine aw_aload_n 0 dX8_set_20 rfl rfl ?_
      refine aw_bipush (-4) dX8_set_21 (by decide) ?_
      refine aw_eV [.int (-4)] [] lX8_70 vX8_refuse mX8_refuse dX8_set_23 (bX8_refuse (jv := jv) (bv := bv) (rf := rf) (x := (-4)) (q := 4) h0 h87 (by decide) (by decide)) h0 rfl rfl rfl (Nat.le_of_ble_eq_true rfl) (by decide) (by decide) rfl (fun h489 q488 => ?_)
      obtain ⟨rf1487, f490, k491⟩ := q488
      have f492 := rng_at k491 (by decide) h0
      have f493 := rng_at k491 (by decide) h1
      have f494 := rng_at k491 (by decide) h2
      have f495 := rng_at k491 (by decide) h3
      have f496 := rng_at k491 (by decide) h4
      have f497 := rng_at k491 (by decide) h5
      have f498 := rng_at k491 (by decide) h6
      have f499 := rng_at k491 (by decide) h7
      have f500 := rng_at k491 (by decide) h8
      have f501 := rng_at k491 (by decide) h9
      have f502 := rng_at k491 (by decide) h10
      have f503 := rng_at k491 (by decide) h11
      subst hQF
      have eS : spSet sp fa q v = ((-4), sp, fa) := by unfold spSet; (repeat' split) <;> first | (exfalso; omega) | rfl
      exact aw_iret rfl dX8_set_26 (by decide) (by decide) ⟨by rw [eS], _, _, by rw [eS]; exact f493, f494, f495, f496, f497, f498, f499, f500, f501, f502, f503, f490, rg2_tr (rg2_rf 1 11 87 87 h) (rg2_w k491 (by decide)), Or.inr ⟨rfl, by rw [eS]; exact ⟨rfl, rfl⟩⟩⟩
  · have d1 := mt (j_eq (a := q.toInt) (b := (0)) (rfl) (rfl)).mpr c1
    refine aw_iload_n 1 dX8_set_4 rfl rfl ?_
    refine aw_iconst (1) dX8_set_5 (by decide) ?_
    refine aw_icmp_eq 16 dX8_set_6 (by decide) (fun c6 => ?_) (fun c6 => ?_)
    · have d6 := (j_eq (a := q.toInt) (b := (1)) (rfl) (rfl)).mp c6
      refine aw_iload_n 2 dX8_set_16 rfl rfl ?_
      refine aw_if_ge 27 dX8_set_17 (by decide) (fun c17 => ?_) (fun c17 => ?_)
      · have d17 := (j_le (a := (0)) (b := v.toInt) (rfl) (rfl)).mp c17
        refine aw_iload_n 2 dX8_set_27 rfl rfl ?_
        refine aw_iload_n 1 dX8_set_28 rfl rfl ?_
        refine aw_if_ne 37 dX8_set_29 (by decide) (fun c29 => ?_) (fun c29 => ?_)
        · have d29 := mt (j_eq (a := q.toInt) (b := (0)) (rfl) (rfl)).mpr c29
          refine aw_bipush (9) dX8_set_37 (by decide) ?_
          refine aw_icmp_le 49 dX8_set_39 (by decide) (fun c39 => ?_) (fun c39 => ?_)
          · have d39 := (j_le (a := v.toInt) (b := (9)) (rfl) (rfl)).mp c39
            refine aw_iload_n 1 dX8_set_49 rfl rfl ?_
            refine aw_if_ne 64 dX8_set_50 (by decide) (fun c50 => ?_) (fun c50 => ?_)
            · have d50 := mt (j_eq (a := q.toInt) (b := (0)) (rfl) (rfl)).mpr c50
              obtain ⟨a, bb_a, ee_a⟩ := i_nat (x := v) (N := 10) (by omega) (by omega)
              subst ee_a
              have tt_a : (nI a).toInt = (a : Int) := nI_toInt (by omega)
              have nn_a : tn (nI a) = a := tn_nI (by omega)
              refine aw_aload_n 0 dX8_set_64 rfl rfl ?_
              refine aw_get fX8_20 dX8_set_65 h0 rfl ?_
              refine aw_iload_n 2 dX8_set_68 rfl rfl ?_
              refine aw_eV [.int (nI a)] [] lX8_101 vX1_tellFade mX1_tellFade dX8_set_69 (aX1_tellFade (m := m) (se := se) (ye := ye) (fi := fi) (W := W) (Sn := Sn) (Z := Z) (Ro := Ro) (Co := Co) (Ba := Ba) (nb := nb) (sp := sp) (fa := fa) (ve := ve) (v := a) h1 h2 h3 h4 h5 h6 h7 h8 h9 h10 h11) h1 rfl rfl rfl (Nat.le_of_ble_eq_true rfl) (by decide) (by decide) rfl (fun h505 q504 => ?_)
              obtain ⟨f506, f507, f508, f509, f510, f511, f512, f513, f514, f515, f516, k517⟩ := q504
              have f518 := rng_at k517 (by decide) h0
              have f519 := rng_at k517 (by decide) h87
              subst hQF
              have eS : spSet sp fa q (nI a) = ((nI fa), sp, a) := by unfold spSet; (repeat' split) <;> first | (exfalso; omega) | rfl | (simp only [nn_a]; done)
              exact aw_iret rfl dX8_set_72 (by decide) (by decide) ⟨by rw [eS], _, _, by rw [eS]; exact f506, f507, f508, f509, f510, f511, f512, f513, f514, f515, f516, f519, rg2_tr (rg2_rf 1 11 87 87 h) (rg2_w k517 (by decide)), Or.inl rfl⟩
            · have d50 := (j_eq (a := q.toInt) (b := (0)) (rfl) (rfl)).mp c50
              obtain ⟨a, bb_a, ee_a⟩ := i_nat (x := v) (N := 51) (by omega) (by omega)
              subst ee_a
              have tt_a : (nI a).toInt = (a : Int) := nI_toInt (by omega)
              have nn_a : tn (nI a) = a := tn_nI (by omega)
              refine aw_aload_n 0 dX8_set_53 rfl rfl ?_
              refine aw_get fX8_20 dX8_set_54 h0 rfl ?_
              refine aw_iload_n 2 dX8_set_57 rfl rfl ?_
              refine aw_eV [.int (nI a)] [] lX8_98 vX1_tellSpare mX1_tellSpare dX8_set_58 (aX1_tellSpare (m := m) (se := se) (ye := ye) (fi := fi) (W := W) (Sn := Sn) (Z := Z) (Ro := Ro) (Co := Co) (Ba := Ba) (nb := nb) (sp := sp) (fa := fa) (ve := ve) (v := a) h1 h2 h3 h4 h5 h6 h7 h8 h9 h10 h11) h1 rfl rfl rfl (Nat.le_of_ble_eq_true rfl) (by decide) (by decide) rfl (fun h521 q520 => ?_)
              obtain ⟨f522, f523, f524, f525, f526, f527, f528, f529, f530, f531, f532, k533⟩ := q520
              have f534 := rng_at k533 (by decide) h0
              have f535 := rng_at k533 (by decide) h87
              refine aw_goto 72 dX8_set_61 (by decide) ?_
              subst hQF
              have eS : spSet sp fa q (nI a) = ((nI sp), a, fa) := by unfold spSet; (repeat' split) <;> first | (exfalso; omega) | rfl | (simp only [nn_a]; done)
              exact aw_iret rfl dX8_set_72 (by decide) (by decide) ⟨by rw [eS], _, _, by rw [eS]; exact f522, f523, f524, f525, f526, f527, f528, f529, f530, f531, f532, f535, rg2_tr (rg2_rf 1 11 87 87 h) (rg2_w k533 (by decide)), Or.inl rfl⟩
          · have d39 := mt (j_le (a := v.toInt) (b := (9)) (rfl) (rfl)).mpr c39
            refine aw_aload_n 0 dX8_set_42 rfl rfl ?_
            refine aw_bipush (-6) dX8_set_43 (by decide) ?_
            refine aw_eV [.int (-6)] [] lX8_70 vX8_refuse mX8_refuse dX8_set_45 (bX8_refuse (jv := jv) (bv := bv) (rf := rf) (x := (-6)) (q := 6) h0 h87 (by decide) (by decide)) h0 rfl rfl rfl (Nat.le_of_ble_eq_true rfl) (by decide) (by decide) rfl (fun h538 q537 => ?_)
            obtain ⟨rf1536, f539, k540⟩ := q537
            have f541 := rng_at k540 (by decide) h0
            have f542 := rng_at k540 (by decide) h1
            have f543 := rng_at k540 (by decide) h2
            have f544 := rng_at k540 (by decide) h3
            have f545 := rng_at k540 (by decide) h4
            have f546 := rng_at k540 (by decide) h5
            have f547 := rng_at k540 (by decide) h6
            have f548 := rng_at k540 (by decide) h7
            have f549 := rng_at k540 (by decide) h8
            have f550 := rng_at k540 (by decide) h9
            have f551 := rng_at k540 (by decide) h10
            have f552 := rng_at k540 (by decide) h11
            subst hQF
            have eS : spSet sp fa q v = ((-6), sp, fa) := by unfold spSet; (repeat' split) <;> first | (exfalso; omega) | rfl
            exact aw_iret rfl dX8_set_48 (by decide) (by decide) ⟨by rw [eS], _, _, by rw [eS]; exact f542, f543, f544, f545, f546, f547, f548, f549, f550, f551, f552, f539, rg2_tr (rg2_rf 1 11 87 87 h) (rg2_w k540 (by decide)), Or.inr ⟨rfl, by rw [eS]; exact ⟨rfl, rfl⟩⟩⟩
        · have d29 := (j_eq (a := q.toInt) (b := (0)) (rfl) (rfl)).mp c29
          refine aw_bipush (50) dX8_set_32 (by decide) ?_
          refine aw_goto 39 dX8_set_34 (by decide) ?_
          refine aw_icmp_le 49 dX8_set_39 (by decide) (fun c39 => ?_) (fun c39 => ?_)
          · have d39 := (j_le (a := v.toInt) (b := (50)) (rfl) (rfl)).mp c39
            refine aw_iload_n 1 dX8_set_49 rfl rfl ?_
            refine aw_if_ne 64 dX8_set_50 (by decide) (fun c50 => ?_) (fun c50 => ?_)
            · have d50 := mt (j_eq (a := q.toInt) (b := (0)) (rfl) (rfl)).mpr c50
              obtain ⟨a, bb_a, ee_a⟩ := i_nat (x := v) (N := 10) (by omega) (by omega)
              subst ee_a
              have tt_a : (nI a).toInt = (a : Int) := nI_toInt (by omega)
              have nn_a : tn (nI a) = a := tn_nI (by omega)
              refine aw_aload_n 0 dX8_set_64 rfl rfl ?_
              refine aw_get fX8_20 dX8_set_65 h0 rfl ?_
              refine aw_iload_n 2 dX8_set_68 rfl rfl ?_
              refine aw_eV [.int (nI a)] [] lX8_101 vX1_tellFade mX1_tellFade dX8_set_69 (aX1_tellFade (m := m) (se := se) (ye := ye) (fi := fi) (W := W) (Sn := Sn) (Z := Z) (Ro := Ro) (Co := Co) (Ba := Ba) (nb := nb) (sp := sp) (fa := fa) (ve := ve) (v := a) h1 h2 h3 h4 h5 h6 h7 h8 h9 h10 h11) h1 rfl rfl rfl (Nat.le_of_ble_eq_true rfl) (by decide) (by decide) rfl (fun h554 q553 => ?_)
              obtain ⟨f555, f556, f557, f558, f559, f560, f561, f562, f563, f564, f565, k566⟩ := q553
              have f567 := rng_at k566 (by decide) h0
              have f568 := rng_at k566 (by decide) h87
              subst hQF
              have eS : spSet sp fa q (nI a) = ((nI fa), sp, a) := by unfold spSet; (repeat' split) <;> first | (exfalso; omega) | rfl | (simp only [nn_a]; done)
              exact aw_iret rfl dX8_set_72 (by decide) (by decide) ⟨by rw [eS], _, _, by rw [eS]; exact f555, f556, f557, f558, f559, f560, f561, f562, f563, f564, f565, f568, rg2_tr (rg2_rf 1 11 87 87 h) (rg2_w k566 (by decide)), Or.inl rfl⟩
            · have d50 := (j_eq (a := q.toInt) (b := (0)) (rfl) (rfl)).mp c50
              obtain ⟨a, bb_a, ee_a⟩ := i_nat (x := v) (N := 51) (by omega) (by omega)
              subst ee_a
              have tt_a : (nI a).toInt = (a : Int) := nI_toInt (by omega)
              have nn_a : tn (nI a) = a := tn_nI (by omega)
              refine aw_aload_n 0 dX8_set_53 rfl rfl ?_
              refine aw_get fX8_20 dX8_set_54 h0 rfl ?_
              refine aw_iload_n 2 dX8_set_57 rfl rfl ?_
              refine aw_eV [.int (nI a)] [] lX8_98 vX1_tellSpare mX1_tellSpare dX8_set_58 (aX1_tellSpare (m := m) (se := se) (ye := ye) (fi := fi) (W := W) (Sn := Sn) (Z := Z) (Ro := Ro) (Co := Co) (Ba := Ba) (nb := nb) (sp := sp) (fa := fa) (ve := ve) (v := a) h1 h2 h3 h4 h5 h6 h7 h8 h9 h10 h11) h1 rfl rfl rfl (Nat.le_of_ble_eq_true rfl) (by decide) (by decide) rfl (fun h570 q569 => ?_)
              obtain ⟨f571, f572, f573, f574, f575, f576, f577, f578, f579, f580, f581, k582⟩ := q569
              have f583 := rng_at k582 (by decide) h0
              have f584 := rng_at k582 (by decide) h87
              refine aw_goto 72 dX8_set_61 (by decide) ?_
              subst hQF
              have eS : spSet sp fa q (nI a) = ((nI sp), a, fa) := by unfold spSet; (repeat' split) <;> first | (exfalso; omega) | rfl | (simp only [nn_a]; done)
              exact aw_iret rfl dX8_set_72 (by decide) (by decide) ⟨by rw [eS], _, _, by rw [eS]; exact f571, f572, f573, f574, f575, f576, f577, f578, f579, f580, f581, f584, rg2_tr (rg2_rf 1 11 87 87 h) (rg2_w k582 (by decide)), Or.inl rfl⟩
          · have d39 := mt (j_le (a := v.toInt) (b := (50)) (rfl) (rfl)).mpr c39
            refine aw_aload_n 0 dX8_set_42 rfl rfl ?_
            refine aw_bipush (-6) dX8_set_43 (by decide) ?_
            refine aw_eV [.int (-6)] [] lX8_70 vX8_refuse mX8_refuse dX8_set_45 (bX8_refuse (jv := jv) (bv := bv) (rf := rf) (x := (-6)) (q := 6) h0 h87 (by decide) (by decide)) h0 rfl rfl rfl (Nat.le_of_ble_eq_true rfl) (by decide) (by decide) rfl (fun h587 q586 => ?_)
            obtain ⟨rf1585, f588, k589⟩ := q586
            have f590 := rng_at k589 (by decide) h0
            have f591 := rng_at k589 (by decide) h1
            have f592 := rng_at k589 (by decide) h2
            have f593 := rng_at k589 (by decide) h3
            have f594 := rng_at k589 (by decide) h4
            have f595 := rng_at k589 (by decide) h5
            have f596 := rng_at k589 (by decide) h6
            have f597 := rng_at k589 (by decide) h7
            have f598 := rng_at k589 (by decide) h8
            have f599 := rng_at k589 (by decide) h9
            have f600 := rng_at k589 (by decide) h10
            have f601 := rng_at k589 (by decide) h11
            subst hQF
            have eS : spSet sp fa q v = ((-6), sp, fa) := by unfold spSet; (repeat' split) <;> first | (exfalso; omega) | rfl
            exact aw_iret rfl dX8_set_48 (by decide) (by decide) ⟨by rw [eS], _, _, by rw [eS]; exact f591, f592, f593, f594, f595, f596, f597, f598, f599, f600, f601, f588, rg2_tr (rg2_rf 1 11 87 87 h) (rg2_w k589 (by decide)), Or.inr ⟨rfl, by rw [eS]; exact ⟨rfl, rfl⟩⟩⟩
      · have d17 := mt (j_le (a := (0)) (b := v.toInt) (rfl) (rfl)).mpr c17
        refine aw_aload_n 0 dX8_set_20 rfl rfl ?_
        refine aw_bipush (-4) dX8_set_21 (by decide) ?_
        refine aw_eV [.int (-4)] [] lX8_70 vX8_refuse mX8_refuse dX8_set_23 (bX8_refuse (jv := jv) (bv := bv) (rf := rf) (x := (-4)) (q := 4) h0 h87 (by decide) (by decide)) h0 rfl rfl rfl (Nat.le_of_ble_eq_true rfl) (by decide) (by decide) rfl (fun h604 q603 => ?_)
        obtain ⟨rf1602, f605, k606⟩ := q603
        have f607 := rng_at k606 (by decide) h0
        have f608 := rng_at k606 (by decide) h1
        have f609 := rng_at k606 (by decide) h2
        have f610 := rng_at k606 (by decide) h3
        have f611 := rng_at k606 (by decide) h4
        have f612 := rng_at k606 (by decide) h5
        have f613 := rng_at k606 (by decide) h6
        have f614 := rng_at k606 (by decide) h7
        have f615 := rng_at k606 (by decide) h8
        have f616 := rng_at k606 (by decide) h9
        have f617 := rng_at k606 (by decide) h10
        have f618 := rng_at k606 (by decide) h11
        subst hQF
        have eS : spSet sp fa q v = ((-4), sp, fa) := by unfold spSet; (repeat' split) <;> first | (exfalso; omega) | rfl
        exact aw_iret rfl dX8_set_26 (by decide) (by decide) ⟨by rw [eS], _, _, by rw [eS]; exact f608, f609, f610, f611, f612, f613, f614, f615, f616, f617, f618, f605, rg2_tr (rg2_rf 1 11 87 87 h) (rg2_w k606 (by decide)), Or.inr ⟨rfl, by rw [eS]; exact ⟨rfl, rfl⟩⟩⟩
    · have d6 := mt (j_eq (a := q.toInt) (b := (1)) (rfl) (rfl)).mpr c6
      refine aw_aload_n 0 dX8_set_9 rfl rfl ?_
      refine aw_bipush (-2) dX8_set_10 (by decide) ?_
      refine aw_eV [.int (-2)] [] lX8_70 vX8_refuse mX8_refuse dX8_set_12 (bX8_refuse (jv := jv) (bv := bv) (rf := rf) (x := (-2)) (q := 2) h0 h87 (by decide) (by decide)) h0 rfl rfl rfl (Nat.le_of_ble_eq_true rfl) (by decide) (by decide) rfl (fun h621 q620 => ?_)
      obtain ⟨rf1619, f622, k623⟩ := q620
      have f624 := rng_at k623 (by decide) h0
      have f625 := rng_at k623 (by decide) h1
      have f626 := rng_at k623 (by decide) h2
      have f627 := rng_at k623 (by decide) h3
      have f628 := rng_at k623 (by decide) h4
      have f629 := rng_at k623 (by decide) h5
      have f630 := rng_at k623 (by decide) h6
      have f631 := rng_at k623 (by decide) h7
      have f632 := rng_at k623 (by decide) h8
      have f633 := rng_at k623 (by decide) h9
      have f634 := rng_at k623 (by decide) h10
      have f635 := rng_at k623 (by decide) h11
      subst hQF
      have eS : spSet sp fa q v = ((-2), sp, fa) := by unfold spSet; (repeat' split) <;> first | (exfalso; omega) | rfl
      exact aw_iret rfl dX8_set_15 (by decide) (by decide) ⟨by rw [eS], _, _, by rw [eS]; exact f625, f626, f627, f628, f629, f630, f631, f632, f633, f634, f635, f622, rg2_tr (rg2_rf 1 11 87 87 h) (rg2_w k623 (by decide)), Or.inr ⟨rfl, by rw [eS]; exact ⟨rfl, rfl⟩⟩⟩
