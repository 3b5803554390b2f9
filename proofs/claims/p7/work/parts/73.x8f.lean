set_option maxHeartbeats 4000000 in
theorem oX8_clash0 {l : Launch} {G : xG} {h : List va_E} {jv bv : Value} {rf : Nat → Int32} {kd fo : Nat → Nat} {cn : Int32} {a b : Int32} (h0 : h[0]? = some (oB 8 (lX G (jv) (bv)))) (h87 : h[87]? = some (aI 7 rf)) (h84 : h[84]? = some (oB 0 (lB G cn))) (h85 : h[85]? = some (aI 10 (nA kd))) (h86 : h[86]? = some (aI 6 (nA fo))) (bkd : ∀ j, j < 10 → kd j < 6) (bfo : ∀ j, j < 6 → fo j < 64) : CE l G yX8_clash cX8_clash 4 (some .int) 2 0 0 [.ref (G.1 + 0), .int a, .int b, .int 0] h (some (.int ((spClashF fo a b false).1))) (fun h1 => ∃ cn1 : Int32, ∃ rf1 : Nat → Int32, h1[84]? = some (oB 0 (lB G cn1)) ∧ h1[85]? = some (aI 10 (nA kd)) ∧ h1[86]? = some (aI 6 (nA ((spClashF fo a b false).2))) ∧ h1[87]? = some (aI 7 rf1) ∧ rg2 84 86 87 87 h h1) := by
  refine cm_ofQ rfl (Nat.le_of_ble_eq_true rfl) [(0, .ref (G.1 + 0)), (1, .int a), (2, .int b), (3, .int 0)] rfl (fun QF hQF => ?_)
  refine aw_iload_n 1 dX8_clash_0 rfl rfl ?_
  refine aw_if_lt 8 dX8_clash_1 (by decide) (fun c1 => ?_) (fun c1 => ?_)
  · have d1 := (j_lt (a := a.toInt) (b := (0)) (rfl) (rfl)).mp c1
    refine aw_aload_n 0 dX8_clash_8 rfl rfl ?_
    refine aw_bipush (-4) dX8_clash_9 (by decide) ?_
    refine aw_eV [.int (-4)] [] lX8_70 vX8_refuse mX8_refuse dX8_clash_11 (bX8_refuse (jv := jv) (bv := bv) (rf := rf) (x := (-4)) (q := 4) h0 h87 (by decide) (by decide)) h0 rfl rfl rfl (Nat.le_of_ble_eq_true rfl) (by decide) (by decide) rfl (fun h682 q681 => ?_)
    obtain ⟨rf1680, f683, k684⟩ := q681
    have f685 := rng_at k684 (by decide) h0
    have f686 := rng_at k684 (by decide) h84
    have f687 := rng_at k684 (by decide) h85
    have f688 := rng_at k684 (by decide) h86
    subst hQF
    have eS : spClashF fo a b false = ((-4), fo) := by unfold spClashF; (repeat' split) <;> first | (exfalso; omega) | rfl | contradiction
    exact aw_iret rfl dX8_clash_14 (by decide) (by decide) ⟨by rw [eS], _, _, f686, f687, by rw [eS]; exact f688, f683, rg2_tr (rg2_rf 84 86 87 87 h) (rg2_w k684 (by decide))⟩
  · have d1 := mt (j_lt (a := a.toInt) (b := (0)) (rfl) (rfl)).mpr c1
    refine aw_iload_n 2 dX8_clash_4 rfl rfl ?_
    refine aw_if_ge 15 dX8_clash_5 (by decide) (fun c5 => ?_) (fun c5 => ?_)
    · have d5 := (j_le (a := (0)) (b := b.toInt) (rfl) (rfl)).mp c5
      refine aw_iload_n 1 dX8_clash_15 rfl rfl ?_
      refine aw_bipush (6) dX8_clash_16 (by decide) ?_
      refine aw_icmp_ge 27 dX8_clash_18 (by decide) (fun c18 => ?_) (fun c18 => ?_)
      · have d18 := (j_le (a := (6)) (b := a.toInt) (rfl) (rfl)).mp c18
        refine aw_aload_n 0 dX8_clash_27 rfl rfl ?_
        refine aw_bipush (-6) dX8_clash_28 (by decide) ?_
        refine aw_eV [.int (-6)] [] lX8_70 vX8_refuse mX8_refuse dX8_clash_30 (bX8_refuse (jv := jv) (bv := bv) (rf := rf) (x := (-6)) (q := 6) h0 h87 (by decide) (by decide)) h0 rfl rfl rfl (Nat.le_of_ble_eq_true rfl) (by decide) (by decide) rfl (fun h691 q690 => ?_)
        obtain ⟨rf1689, f692, k693⟩ := q690
        have f694 := rng_at k693 (by decide) h0
        have f695 := rng_at k693 (by decide) h84
        have f696 := rng_at k693 (by decide) h85
        have f697 := rng_at k693 (by decide) h86
        subst hQF
        have eS : spClashF fo a b false = ((-6), fo) := by unfold spClashF; (repeat' split) <;> first | (exfalso; omega) | rfl | contradiction
        exact aw_iret rfl dX8_clash_33 (by decide) (by decide) ⟨by rw [eS], _, _, f695, f696, by rw [eS]; exact f697, f692, rg2_tr (rg2_rf 84 86 87 87 h) (rg2_w k693 (by decide))⟩
      · have d18 := mt (j_le (a := (6)) (b := a.toInt) (rfl) (rfl)).mpr c18
        refine aw_iload_n 2 dX8_clash_21 rfl rfl ?_
        refine aw_bipush (6) dX8_clash_22 (by decide) ?_
        refine aw_icmp_lt 34 dX8_clash_24 (by decide) (fun c24 => ?_) (fun c24 => ?_)
        · have d24 := (j_lt (a := b.toInt) (b := (6)) (rfl) (rfl)).mp c24
          refine aw_iload_n 1 dX8_clash_34 rfl rfl ?_
          refine aw_iload_n 2 dX8_clash_35 rfl rfl ?_
          refine aw_icmp_ne 46 dX8_clash_36 (by decide) (fun c36 => ?_) (fun c36 => ?_)
          · have d36 := mt (j_eq (a := a.toInt) (b := b.toInt) (rfl) (rfl)).mpr c36
            obtain ⟨x, bb_x, ee_x⟩ := i_nat (x := a) (N := 6) (by omega) (by omega)
            subst ee_x
            have tt_x : (nI x).toInt = (x : Int) := nI_toInt (by omega)
            have nn_x : tn (nI x) = x := tn_nI (by omega)
            obtain ⟨y, bb_y, ee_y⟩ := i_nat (x := b) (N := 6) (by omega) (by omega)
            subst ee_y
            have tt_y : (nI y).toInt = (y : Int) := nI_toInt (by omega)
            have nn_y : tn (nI y) = y := tn_nI (by omega)
            cases hw : (fo x).testBit y
            · refine aw_aload_n 0 dX8_clash_46 rfl rfl ?_
              refine aw_get fX8_58 dX8_clash_47 h0 rfl ?_
              refine aw_iload_n 1 dX8_clash_50 rfl rfl ?_
              refine aw_iload_n 2 dX8_clash_51 rfl rfl ?_
              refine aw_iload_n 3 dX8_clash_52 rfl rfl ?_
              refine aw_dV [.int (nI x), .int (nI y), .int 0] [] lX8_230 vX0_tellClash mX0_tellClash dX8_clash_53 (aX0_tellClash_s0 (kd := kd) (fo := fo) (cn := cn) (a := x) (b := y) h84 h85 h86 bkd bfo (by omega) (by omega) hw) h84 rfl rfl rfl (Nat.le_of_ble_eq_true rfl) (by decide) (by decide) rfl ?_
              refine aw_if_eq 63 dX8_clash_56 (by decide) (fun c56 => ?_) (fun c56 => absurd (by decide) c56)
              refine aw_iconst (0) dX8_clash_63 (by decide) ?_
              subst hQF
              have eS : spClashF fo (nI x) (nI y) false = (0, fo) := by unfold spClashF; simp only [nn_x, nn_y, hw]; (repeat' split) <;> first | (exfalso; omega) | rfl | contradiction
              exact aw_iret rfl dX8_clash_64 (by decide) (by decide) ⟨by rw [eS], _, _, h84, h85, by rw [eS]; exact h86, h87, rg2_rf 84 86 87 87 h⟩
            · refine aw_aload_n 0 dX8_clash_46 rfl rfl ?_
              refine aw_get fX8_58 dX8_clash_47 h0 rfl ?_
              refine aw_iload_n 1 dX8_clash_50 rfl rfl ?_
              refine aw_iload_n 2 dX8_clash_51 rfl rfl ?_
              refine aw_iload_n 3 dX8_clash_52 rfl rfl ?_
              refine aw_eV [.int (nI x), .int (nI y), .int 0] [] lX8_230 vX0_tellClash mX0_tellClash dX8_clash_53 (aX0_tellClash_c0 (kd := kd) (fo := fo) (cn := cn) (a := x) (b := y) h84 h85 h86 bkd bfo (by omega) (by omega) hw) h84 rfl rfl rfl (Nat.le_of_ble_eq_true rfl) (by decide) (by decide) rfl (fun h699 q698 => ?_)
              obtain ⟨f700, f701, f702, k703⟩ := q698
              have f704 := rng_at k703 (by decide) h0
              have f705 := rng_at k703 (by decide) h87
              refine aw_if_eq 63 dX8_clash_56 (by decide) (fun c56 => absurd c56 (by decide)) (fun c56 => ?_)
              refine aw_iconst (1) dX8_clash_59 (by decide) ?_
              refine aw_goto 64 dX8_clash_60 (by decide) ?_
              subst hQF
              have eS : spClashF fo (nI x) (nI y) false = (1, un (un fo x (fo x ^^^ 2 ^ y)) y (un fo x (fo x ^^^ 2 ^ y) y ^^^ 2 ^ x)) := by unfold spClashF; simp only [nn_x, nn_y, hw]; (repeat' split) <;> first | (exfalso; omega) | rfl | contradiction
              exact aw_iret rfl dX8_clash_64 (by decide) (by decide) ⟨by rw [eS], _, _, f700, f701, by rw [eS]; exact f702, f705, rg2_tr (rg2_rf 84 86 87 87 h) (rg2_w k703 (by decide))⟩
          · have d36 := (j_eq (a := a.toInt) (b := b.toInt) (rfl) (rfl)).mp c36
            refine aw_aload_n 0 dX8_clash_39 rfl rfl ?_
            refine aw_bipush (-3) dX8_clash_40 (by decide) ?_
            refine aw_eV [.int (-3)] [] lX8_70 vX8_refuse mX8_refuse dX8_clash_42 (bX8_refuse (jv := jv) (bv := bv) (rf := rf) (x := (-3)) (q := 3) h0 h87 (by decide) (by decide)) h0 rfl rfl rfl (Nat.le_of_ble_eq_true rfl) (by decide) (by decide) rfl (fun h708 q707 => ?_)
            obtain ⟨rf1706, f709, k710⟩ := q707
            have f711 := rng_at k710 (by decide) h0
            have f712 := rng_at k710 (by decide) h84
            have f713 := rng_at k710 (by decide) h85
            have f714 := rng_at k710 (by decide) h86
            subst hQF
            have eS : spClashF fo a b false = ((-3), fo) := by unfold spClashF; (repeat' split) <;> first | (exfalso; omega) | rfl | contradiction
            exact aw_iret rfl dX8_clash_45 (by decide) (by decide) ⟨by rw [eS], _, _, f712, f713, by rw [eS]; exact f714, f709, rg2_tr (rg2_rf 84 86 87 87 h) (rg2_w k710 (by decide))⟩
        · have d24 := mt (j_lt (a := b.toInt) (b := (6)) (rfl) (rfl)).mpr c24
          refine aw_aload_n 0 dX8_clash_27 rfl rfl ?_
          refine aw_bipush (-6) dX8_clash_28 (by decide) ?_
          refine aw_eV [.int (-6)] [] lX8_70 vX8_refuse mX8_refuse dX8_clash_30 (bX8_refuse (jv := jv) (bv := bv) (rf := rf) (x := (-6)) (q := 6) h0 h87 (by decide) (by decide)) h0 rfl rfl rfl (Nat.le_of_ble_eq_true rfl) (by decide) (by decide) rfl (fun h717 q716 => ?_)
          obtain ⟨rf1715, f718, k719⟩ := q716
          have f720 := rng_at k719 (by decide) h0
          have f721 := rng_at k719 (by decide) h84
          have f722 := rng_at k719 (by decide) h85
          have f723 := rng_at k719 (by decide) h86
          subst hQF
          have eS : spClashF fo a b false = ((-6), fo) := by unfold spClashF; (repeat' split) <;> first | (exfalso; omega) | rfl | contradiction
          exact aw_iret rfl dX8_clash_33 (by decide) (by decide) ⟨by rw [eS], _, _, f721, f722, by rw [eS]; exact f723, f718, rg2_tr (rg2_rf 84 86 87 87 h) (rg2_w k719 (by decide))⟩
    · have d5 := mt (j_le (a := (0)) (b := b.toInt) (rfl) (rfl)).mpr c5
      refine aw_aload_n 0 dX8_clash_8 rfl rfl ?_
      refine aw_bipush (-4) dX8_clash_9 (by decide) ?_
      refine aw_eV [.int (-4)] [] lX8_70 vX8_refuse mX8_refuse dX8_clash_11 (bX8_refuse (jv := jv) (bv := bv) (rf := rf) (x := (-4)) (q := 4) h0 h87 (by decide) (by decide)) h0 rfl rfl rfl (Nat.le_of_ble_eq_true rfl) (by decide) (by decide) rfl (fun h726 q725 => ?_)
      obtain ⟨rf1724, f727, k728⟩ := q725
      have f729 := rng_at k728 (by decide) h0
      have f730 := rng_at k728 (by decide) h84
      have f731 := rng_at k728 (by decide) h85
      have f732 := rng_at k728 (by decide) h86
      subst hQF
      have eS : spClashF fo a b false = ((-4), fo) := by unfold spClashF; (repeat' split) <;> first | (exfalso; omega) | rfl | contradiction
      exact aw_iret rfl dX8_clash_14 (by decide) (by decide) ⟨by rw [eS], _, _, f730, f731, by rw [eS]; exact f732, f727, rg2_tr (rg2_rf 84 86 87 87 h) (rg2_w k728 (by decide))⟩
set_option maxHeartbeats 4000000 in
theorem oX8_clash1 {l : Launch} {G : xG} {h : List va_E} {jv bv : Value} {rf : Nat → Int32} {kd fo : Nat → Nat} {cn : Int32} {a b : Int32} (h0 : h[0]? = some (oB 8 (lX G (jv) (bv)))) (h87 : h[87]? = some (aI 7 rf)) (h84 : h[84]? = some (oB 0 (lB G cn))) (h85 : h[85]? = some (aI 10 (nA kd))) (h86 : h[86]? = some (aI 6 (nA fo))) (bkd : ∀ j, j < 10 → kd j < 6) (bfo : ∀ j, j < 6 → fo j < 64) : CE l G yX8_clash cX8_clash 4 (some .int) 2 0 0 [.ref (G.1 + 0), .int a, .int b, .int 1] h (some (.int ((spClashF fo a b true).1))) (fun h1 => ∃ cn1 : Int32, ∃ rf1 : Nat → Int32, h1[84]? = some (oB 0 (lB G cn1)) ∧ h1[85]? = some (aI 10 (nA kd)) ∧ h1[86]? = some (aI 6 (nA ((spClashF fo a b true).2))) ∧ h1[87]? = some (aI 7 rf1) ∧ rg2 84 86 87 87 h h1) := by
  refine cm_ofQ rfl (Nat.le_of_ble_eq_true rfl) [(0, .ref (G.1 + 0)), (1, .int a), (2, .int b), (3, .int 1)] rfl (fun QF hQF => ?_)
  refine aw_iload_n 1 dX8_clash_0 rfl rfl ?_
  refine aw_if_lt 8 dX8_clash_1 (by decide) (fun c1 => ?_) (fun c1 => ?_)
  · have d1 := (j_lt (a := a.toInt) (b := (0)) (rfl) (rfl)).mp c1
    refine aw_aload_n 0 dX8_clash_8 rfl rfl ?_
    refine aw_bipush (-4) dX8_clash_9 (by decide) ?_
    refine aw_eV [.int (-4)] [] lX8_70 vX8_refuse mX8_refuse dX8_clash_11 (bX8_refuse (jv := jv) (bv := bv) (rf := rf) (x := (-4)) (q := 4) h0 h87 (by decide) (by decide)) h0 rfl rfl rfl (Nat.le_of_ble_eq_true rfl) (by decide) (by decide) rfl (fun h735 q734 => ?_)
    obtain ⟨rf1733, f736, k737⟩ := q734
    have f738 := rng_at k737 (by decide) h0
    have f739 := rng_at k737 (by decide) h84
    have f740 := rng_at k737 (by decide) h85
    have f741 := rng_at k737 (by decide) h86
    subst hQF
    have eS : spClashF fo a b true = ((-4), fo) := by unfold spClashF; (repeat' split) <;> first | (exfalso; omega) | rfl | contradiction
    exact aw_iret rfl dX8_clash_14 (by decide) (by decide) ⟨by rw [eS], _, _, f739, f740, by rw [eS]; exact f741, f736, rg2_tr (rg2_rf 84 86 87 87 h) (rg2_w k737 (by decide))⟩
  · have d1 := mt (j_lt (a := a.toInt) (b := (0)) (rfl) (rfl)).mpr c1
    refine aw_iload_n 2 dX8_clash_4 rfl rfl ?_
    refine aw_if_ge 15 dX8_clash_5 (by decide) (fun c5 => ?_) (fun c5 => ?_)
    · have d5 := (j_le (a := (0)) (b := b.toInt) (rfl) (rfl)).mp c5
      refine aw_iload_n 1 dX8_clash_15 rfl rfl ?_
      refine aw_bipush (6) dX8_clash_16 (by decide) ?_
      refine aw_icmp_ge 27 dX8_clash_18 (by decide) (fun c18 => ?_) (fun c18 => ?_)
      · have d18 := (j_le (a := (6)) (b := a.toInt) (rfl) (rfl)).mp c18
        refine aw_aload_n 0 dX8_clash_27 rfl rfl ?_
        refine aw_bipush (-6) dX8_clash_28 (by decide) ?_
        refine aw_eV [.int (-6)] [] lX8_70 vX8_refuse mX8_refuse dX8_clash_30 (bX8_refuse (jv := jv) (bv := bv) (rf := rf) (x := (-6)) (q := 6) h0 h87 (by decide) (by decide)) h0 rfl rfl rfl (Nat.le_of_ble_eq_true rfl) (by decide) (by decide) rfl (fun h744 q743 => ?_)
        obtain ⟨rf1742, f745, k746⟩ := q743
        have f747 := rng_at k746 (by decide) h0
        have f748 := rng_at k746 (by decide) h84
        have f749 := rng_at k746 (by decide) h85
        have f750 := rng_at k746 (by decide) h86
        subst hQF
        have eS : spClashF fo a b true = ((-6), fo) := by unfold spClashF; (repeat' split) <;> first | (exfalso; omega) | rfl | contradiction
        exact aw_iret rfl dX8_clash_33 (by decide) (by decide) ⟨by rw [eS], _, _, f748, f749, by rw [eS]; exact f750, f745, rg2_tr (rg2_rf 84 86 87 87 h) (rg2_w k746 (by decide))⟩
      · have d18 := mt (j_le (a := (6)) (b := a.toInt) (rfl) (rfl)).mpr c18
        refine aw_iload_n 2 dX8_clash_21 rfl rfl ?_
        refine aw_bipush (6) dX8_clash_22 (by decide) ?_
        refine aw_icmp_lt 34 dX8_clash_24 (by decide) (fun c24 => ?_) (fun c24 => ?_)
        · have d24 := (j_lt (a := b.toInt) (b := (6)) (rfl) (rfl)).mp c24
          refine aw_iload_n 1 dX8_clash_34 rfl rfl ?_
          refine aw_iload_n 2 dX8_clash_35 rfl rfl ?_
          refine aw_icmp_ne 46 dX8_clash_36 (by decide) (fun c36 => ?_) (fun c36 => ?_)
          · have d36 := mt (j_eq (a := a.toInt) (b := b.toInt) (rfl) (rfl)).mpr c36
            obtain ⟨x, bb_x, ee_x⟩ := i_nat (x := a) (N := 6) (by omega) (by omega)
            subst ee_x
            have tt_x : (nI x).toInt = (x : Int) := nI_toInt (by omega)
            have nn_x : tn (nI x) = x := tn_nI (by omega)
            obtain ⟨y, bb_y, ee_y⟩ := i_nat (x := b) (N := 6) (by omega) (by omega)
            subst ee_y
            have tt_y : (nI y).toInt = (y : Int) := nI_toInt (by omega)
            have nn_y : tn (nI y) = y := tn_nI (by omega)
            cases hw : (fo x).testBit y
            · refine aw_aload_n 0 dX8_clash_46 rfl rfl ?_
              refine aw_get fX8_58 dX8_clash_47 h0 rfl ?_
              refine aw_iload_n 1 dX8_clash_50 rfl rfl ?_
              refine aw_iload_n 2 dX8_clash_51 rfl rfl ?_
              refine aw_iload_n 3 dX8_clash_52 rfl rfl ?_
              refine aw_eV [.int (nI x), .int (nI y), .int 1] [] lX8_230 vX0_tellClash mX0_tellClash dX8_clash_53 (aX0_tellClash_c1 (kd := kd) (fo := fo) (cn := cn) (a := x) (b := y) h84 h85 h86 bkd bfo (by omega) (by omega) hw) h84 rfl rfl rfl (Nat.le_of_ble_eq_true rfl) (by decide) (by decide) rfl (fun h752 q751 => ?_)
              obtain ⟨f753, f754, f755, k756⟩ := q751
              have f757 := rng_at k756 (by decide) h0
              have f758 := rng_at k756 (by decide) h87
              refine aw_if_eq 63 dX8_clash_56 (by decide) (fun c56 => absurd c56 (by decide)) (fun c56 => ?_)
              refine aw_iconst (1) dX8_clash_59 (by decide) ?_
              refine aw_goto 64 dX8_clash_60 (by decide) ?_
              subst hQF
              have eS : spClashF fo (nI x) (nI y) true = (1, un (un fo x (fo x ^^^ 2 ^ y)) y (un fo x (fo x ^^^ 2 ^ y) y ^^^ 2 ^ x)) := by unfold spClashF; simp only [nn_x, nn_y, hw]; (repeat' split) <;> first | (exfalso; omega) | rfl | contradiction
              exact aw_iret rfl dX8_clash_64 (by decide) (by decide) ⟨by rw [eS], _, _, f753, f754, by rw [eS]; exact f755, f758, rg2_tr (rg2_rf 84 86 87 87 h) (rg2_w k756 (by decide))⟩
            · refine aw_aload_n 0 dX8_clash_46 rfl rfl ?_
              refine aw_get fX8_58 dX8_clash_47 h0 rfl ?_
              refine aw_iload_n 1 dX8_clash_50 rfl rfl ?_
              refine aw_iload_n 2 dX8_clash_51 rfl rfl ?_
              refine aw_iload_n 3 dX8_clash_52 rfl rfl ?_
              refine aw_dV [.int (nI x), .int (nI y), .int 1] [] lX8_230 vX0_tellClash mX0_tellClash dX8_clash_53 (aX0_tellClash_s1 (kd := kd) (fo := fo) (cn := cn) (a := x) (b := y) h84 h85 h86 bkd bfo (by omega) (by omega) hw) h84 rfl rfl rfl (Nat.le_of_ble_eq_true rfl) (by decide) (by decide) rfl ?_
              refine aw_if_eq 63 dX8_clash_56 (by decide) (fun c56 => ?_) (fun c56 => absurd (by decide) c56)
              refine aw_iconst (0) dX8_clash_63 (by decide) ?_
              subst hQF
              have eS : spClashF fo (nI x) (nI y) true = (0, fo) := by unfold spClashF; simp only [nn_x, nn_y, hw]; (repeat' split) <;> first | (exfalso; omega) | rfl | contradiction
              exact aw_iret rfl dX8_clash_64 (by decide) (by decide) ⟨by rw [eS], _, _, h84, h85, by rw [eS]; exact h86, h87, rg2_rf 84 86 87 87 h⟩
          · have d36 := (j_eq (a := a.toInt) (b := b.toInt) (rfl) (rfl)).mp c36
            refine aw_aload_n 0 dX8_clash_39 rfl rfl ?_
            refine aw_bipush (-3) dX8_clash_40 (by decide) ?_
            refine aw_eV [.int (-3)] [] lX8_70 vX8_refuse mX8_refuse dX8_clash_42 (bX8_refuse (jv := jv) (bv := bv) (rf := rf) (x := (-3)) (q := 3) h0 h87 (by decide) (by decide)) h0 rfl rfl rfl (Nat.le_of_ble_eq_true rfl) (by decide) (by decide) rfl (fun h761 q760 => ?_)
            obtain ⟨rf1759, f762, k763⟩ := q760
            have f764 := rng_at k763 (by decide) h0
            have f765 := rng_at k763 (by decide) h84
            have f766 := rng_at k763 (by decide) h85
            have f767 := rng_at k763 (by decide) h86
            subst hQF
            have eS : spClashF fo a b true = ((-3), fo) := by unfold spClashF; (repeat' split) <;> first | (exfalso; omega) | rfl | contradiction
            exact aw_iret rfl dX8_clash_45 (by decide) (by decide) ⟨by rw [eS], _, _, f765, f766, by rw [eS]; exact f767, f762, rg2_tr (rg2_rf 84 86 87 87 h) (rg2_w k763 (by decide))⟩
        · have d24 := mt (j_lt (a := b.toInt) (b := (6)) (rfl) (rfl)).mpr c24
          refine aw_aload_n 0 dX8_clash_27 rfl rfl ?_
          refine aw_bipush (-6) dX8_clash_28 (by decide) ?_
          refine aw_eV [.int (-6)] [] lX8_70 vX8_refuse mX8_refuse dX8_clash_30 (bX8_refuse (jv := jv) (bv := bv) (rf := rf) (x := (-6)) (q := 6) h0 h87 (by decide) (by decide)) h0 rfl rfl rfl (Nat.le_of_ble_eq_true rfl) (by decide) (by decide) rfl (fun h770 q769 => ?_)
          obtain ⟨rf1768, f771, k772⟩ := q769
          have f773 := rng_at k772 (by decide) h0
          have f774 := rng_at k772 (by decide) h84
          have f775 := rng_at k772 (by decide) h85
          have f776 := rng_at k772 (by decide) h86
          subst hQF
          have eS : spClashF fo a b true = ((-6), fo) := by unfold spClashF; (repeat' split) <;> first | (exfalso; omega) | rfl | contradiction
          exact aw_iret rfl dX8_clash_33 (by decide) (by decide) ⟨by rw [eS], _, _, f774, f775, by rw [eS]; exact f776, f771, rg2_tr (rg2_rf 84 86 87 87 h) (rg2_w k772 (by decide))⟩
    · have d5 := mt (j_le (a := (0)) (b := b.toInt) (rfl) (rfl)).mpr c5
      refine aw_aload_n 0 dX8_clash_8 rfl rfl ?_
      refine aw_bipush (-4) dX8_clash_9 (by decide) ?_
      refine aw_eV [.int (-4)] [] lX8_70 vX8_refuse mX8_refuse dX8_clash_11 (bX8_refuse (jv := jv) (bv := bv) (rf := rf) (x := (-4)) (q := 4) h0 h87 (by decide) (by decide)) h0 rfl rfl rfl (Nat.le_of_ble_eq_true rfl) (by decide) (by decide) rfl (fun h779 q778 => ?_)
      obtain ⟨rf1777, f780, k781⟩ := q778
      have f782 := rng_at k781 (by decide) h0
      have f783 := rng_at k781 (by decide) h84
      have f784 := rng_at k781 (by decide) h85
      have f785 := rng_at k781 (by decide) h86
      subst hQF
      have eS : spClashF fo a b true = ((-4), fo) := by unfold spClashF; (repeat' split) <;> first | (exfalso; omega) | rfl | contradiction
      exact aw_iret rfl dX8_clash_14 (by decide) (by decide) ⟨by rw [eS], _, _, f783, f784, by rw [eS]; exact f785, f780, rg2_tr (rg2_rf 84 86 87 87 h) (rg2_w k781 (by decide))⟩
