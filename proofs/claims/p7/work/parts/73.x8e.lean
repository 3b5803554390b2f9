set_option maxHeartbeats 4000000 in
theorem oX8_part {l : Launch} {G : xG} {h : List va_E} {jv bv : Value} {rf : Nat → Int32} {kd fo : Nat → Nat} {cn : Int32} {p v : Int32} (h0 : h[0]? = some (oB 8 (lX G (jv) (bv)))) (h87 : h[87]? = some (aI 7 rf)) (h84 : h[84]? = some (oB 0 (lB G cn))) (h85 : h[85]? = some (aI 10 (nA kd))) (h86 : h[86]? = some (aI 6 (nA fo))) (bkd : ∀ j, j < 10 → kd j < 6) (bfo : ∀ j, j < 6 → fo j < 64) : CE l G yX8_part cX8_part 3 (some .int) 2 0 0 [.ref (G.1 + 0), .int p, .int v] h (some (.int ((spPart kd p v).1))) (fun h1 => ∃ rf1 : Nat → Int32, h1[84]? = some (oB 0 (lB G cn)) ∧ h1[85]? = some (aI 10 (nA ((spPart kd p v).2))) ∧ h1[86]? = some (aI 6 (nA fo)) ∧ h1[87]? = some (aI 7 rf1) ∧ rg2 84 86 87 87 h h1) := by
  refine cm_ofQ rfl (Nat.le_of_ble_eq_true rfl) [(0, .ref (G.1 + 0)), (1, .int p), (2, .int v)] rfl (fun QF hQF => ?_)
  refine aw_iload_n 1 dX8_part_0 rfl rfl ?_
  refine aw_if_lt 10 dX8_part_1 (by decide) (fun c1 => ?_) (fun c1 => ?_)
  · have d1 := (j_lt (a := p.toInt) (b := (0)) (rfl) (rfl)).mp c1
    refine aw_aload_n 0 dX8_part_10 rfl rfl ?_
    refine aw_iconst (-1) dX8_part_11 (by decide) ?_
    refine aw_eV [.int (-1)] [] lX8_70 vX8_refuse mX8_refuse dX8_part_12 (bX8_refuse (jv := jv) (bv := bv) (rf := rf) (x := (-1)) (q := 1) h0 h87 (by decide) (by decide)) h0 rfl rfl rfl (Nat.le_of_ble_eq_true rfl) (by decide) (by decide) rfl (fun h638 q637 => ?_)
    obtain ⟨rf1636, f639, k640⟩ := q637
    have f641 := rng_at k640 (by decide) h0
    have f642 := rng_at k640 (by decide) h84
    have f643 := rng_at k640 (by decide) h85
    have f644 := rng_at k640 (by decide) h86
    subst hQF
    have eS : spPart kd p v = ((-1), kd) := by unfold spPart; (repeat' split) <;> first | (exfalso; omega) | rfl
    exact aw_iret rfl dX8_part_15 (by decide) (by decide) ⟨by rw [eS], _, f642, by rw [eS]; exact f643, f644, f639, rg2_tr (rg2_rf 84 86 87 87 h) (rg2_w k640 (by decide))⟩
  · have d1 := mt (j_lt (a := p.toInt) (b := (0)) (rfl) (rfl)).mpr c1
    refine aw_iload_n 1 dX8_part_4 rfl rfl ?_
    refine aw_bipush (10) dX8_part_5 (by decide) ?_
    refine aw_icmp_lt 16 dX8_part_7 (by decide) (fun c7 => ?_) (fun c7 => ?_)
    · have d7 := (j_lt (a := p.toInt) (b := (10)) (rfl) (rfl)).mp c7
      refine aw_iload_n 2 dX8_part_16 rfl rfl ?_
      refine aw_if_ge 27 dX8_part_17 (by decide) (fun c17 => ?_) (fun c17 => ?_)
      · have d17 := (j_le (a := (0)) (b := v.toInt) (rfl) (rfl)).mp c17
        refine aw_iload_n 2 dX8_part_27 rfl rfl ?_
        refine aw_bipush (6) dX8_part_28 (by decide) ?_
        refine aw_icmp_lt 40 dX8_part_30 (by decide) (fun c30 => ?_) (fun c30 => ?_)
        · have d30 := (j_lt (a := v.toInt) (b := (6)) (rfl) (rfl)).mp c30
          obtain ⟨a, bb_a, ee_a⟩ := i_nat (x := p) (N := 10) (by omega) (by omega)
          subst ee_a
          have tt_a : (nI a).toInt = (a : Int) := nI_toInt (by omega)
          have nn_a : tn (nI a) = a := tn_nI (by omega)
          obtain ⟨b, bb_b, ee_b⟩ := i_nat (x := v) (N := 6) (by omega) (by omega)
          subst ee_b
          have tt_b : (nI b).toInt = (b : Int) := nI_toInt (by omega)
          have nn_b : tn (nI b) = b := tn_nI (by omega)
          refine aw_aload_n 0 dX8_part_40 rfl rfl ?_
          refine aw_get fX8_58 dX8_part_41 h0 rfl ?_
          refine aw_iload_n 1 dX8_part_44 rfl rfl ?_
          refine aw_iload_n 2 dX8_part_45 rfl rfl ?_
          refine aw_eV [.int (nI a), .int (nI b)] [] lX8_227 vX0_tellKind mX0_tellKind dX8_part_46 (aX0_tellKind (kd := kd) (fo := fo) (cn := cn) (p := a) (v := b) h84 h85 h86 (by omega)) h84 rfl rfl rfl (Nat.le_of_ble_eq_true rfl) (by decide) (by decide) rfl (fun h646 q645 => ?_)
          obtain ⟨f647, f648, f649, k650⟩ := q645
          have f651 := rng_at k650 (by decide) h0
          have f652 := rng_at k650 (by decide) h87
          subst hQF
          have eS : spPart kd (nI a) (nI b) = ((nI (kd a)), un kd a b) := by unfold spPart; (repeat' split) <;> first | (exfalso; omega) | rfl | (simp only [nn_a, nn_b]; done)
          exact aw_iret rfl dX8_part_49 (by decide) (by decide) ⟨by rw [eS], _, f647, by rw [eS]; exact f648, f649, f652, rg2_tr (rg2_rf 84 86 87 87 h) (rg2_w k650 (by decide))⟩
        · have d30 := mt (j_lt (a := v.toInt) (b := (6)) (rfl) (rfl)).mpr c30
          refine aw_aload_n 0 dX8_part_33 rfl rfl ?_
          refine aw_bipush (-6) dX8_part_34 (by decide) ?_
          refine aw_eV [.int (-6)] [] lX8_70 vX8_refuse mX8_refuse dX8_part_36 (bX8_refuse (jv := jv) (bv := bv) (rf := rf) (x := (-6)) (q := 6) h0 h87 (by decide) (by decide)) h0 rfl rfl rfl (Nat.le_of_ble_eq_true rfl) (by decide) (by decide) rfl (fun h655 q654 => ?_)
          obtain ⟨rf1653, f656, k657⟩ := q654
          have f658 := rng_at k657 (by decide) h0
          have f659 := rng_at k657 (by decide) h84
          have f660 := rng_at k657 (by decide) h85
          have f661 := rng_at k657 (by decide) h86
          subst hQF
          have eS : spPart kd p v = ((-6), kd) := by unfold spPart; (repeat' split) <;> first | (exfalso; omega) | rfl
          exact aw_iret rfl dX8_part_39 (by decide) (by decide) ⟨by rw [eS], _, f659, by rw [eS]; exact f660, f661, f656, rg2_tr (rg2_rf 84 86 87 87 h) (rg2_w k657 (by decide))⟩
      · have d17 := mt (j_le (a := (0)) (b := v.toInt) (rfl) (rfl)).mpr c17
        refine aw_aload_n 0 dX8_part_20 rfl rfl ?_
        refine aw_bipush (-4) dX8_part_21 (by decide) ?_
        refine aw_eV [.int (-4)] [] lX8_70 vX8_refuse mX8_refuse dX8_part_23 (bX8_refuse (jv := jv) (bv := bv) (rf := rf) (x := (-4)) (q := 4) h0 h87 (by decide) (by decide)) h0 rfl rfl rfl (Nat.le_of_ble_eq_true rfl) (by decide) (by decide) rfl (fun h664 q663 => ?_)
        obtain ⟨rf1662, f665, k666⟩ := q663
        have f667 := rng_at k666 (by decide) h0
        have f668 := rng_at k666 (by decide) h84
        have f669 := rng_at k666 (by decide) h85
        have f670 := rng_at k666 (by decide) h86
        subst hQF
        have eS : spPart kd p v = ((-4), kd) := by unfold spPart; (repeat' split) <;> first | (exfalso; omega) | rfl
        exact aw_iret rfl dX8_part_26 (by decide) (by decide) ⟨by rw [eS], _, f668, by rw [eS]; exact f669, f670, f665, rg2_tr (rg2_rf 84 86 87 87 h) (rg2_w k666 (by decide))⟩
    · have d7 := mt (j_lt (a := p.toInt) (b := (10)) (rfl) (rfl)).mpr c7
      refine aw_aload_n 0 dX8_part_10 rfl rfl ?_
      refine aw_iconst (-1) dX8_part_11 (by decide) ?_
      refine aw_eV [.int (-1)] [] lX8_70 vX8_refuse mX8_refuse dX8_part_12 (bX8_refuse (jv := jv) (bv := bv) (rf := rf) (x := (-1)) (q := 1) h0 h87 (by decide) (by decide)) h0 rfl rfl rfl (Nat.le_of_ble_eq_true rfl) (by decide) (by decide) rfl (fun h673 q672 => ?_)
      obtain ⟨rf1671, f674, k675⟩ := q672
      have f676 := rng_at k675 (by decide) h0
      have f677 := rng_at k675 (by decide) h84
      have f678 := rng_at k675 (by decide) h85
      have f679 := rng_at k675 (by decide) h86
      subst hQF
      have eS : spPart kd p v = ((-1), kd) := by unfold spPart; (repeat' split) <;> first | (exfalso; omega) | rfl
      exact aw_iret rfl dX8_part_15 (by decide) (by decide) ⟨by rw [eS], _, f677, by rw [eS]; exact f678, f679, f674, rg2_tr (rg2_rf 84 86 87 87 h) (rg2_w k675 (by decide))⟩
