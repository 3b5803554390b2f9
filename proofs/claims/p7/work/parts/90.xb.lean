set_option maxHeartbeats 4000000 in
theorem oX8_fake {l : Launch} {G : xG} {h : List va_E} {jv bv : Value} {rf : Nat → Int32} {kd fo : Nat → Nat} {cn : Int32} {b : Int32} (h0 : h[0]? = some (oB 8 (lX G (jv) (bv)))) (h87 : h[87]? = some (aI 7 rf)) (h84 : h[84]? = some (oB 0 (lB G cn))) (h85 : h[85]? = some (aI 10 (nA kd))) (h86 : h[86]? = some (aI 6 (nA fo))) (bkd : ∀ j, j < 10 → kd j < 6) (bfo : ∀ j, j < 6 → fo j < 64) : CE l G yX8_fake cX8_fake 2 (some .int) 2 0 0 [.ref (G.1 + 0), .int b] h (some (.int (if (0 ≤ b.toInt ∧ b.toInt < 1024) then (if (fkF kd fo (tn b) 10).1 &&& (fkF kd fo (tn b) 10).2 ≠ 0 then 1 else 0) else -1))) (fun h1 => ∃ rf1 : Nat → Int32, h1[87]? = some (aI 7 rf1) ∧ rng 87 87 h h1) := by
  refine cm_ofQ rfl (Nat.le_of_ble_eq_true rfl) [(0, .ref (G.1 + 0)), (1, .int b)] rfl (fun QF hQF => ?_)
  refine aw_iload_n 1 dX8_fake_0 rfl rfl ?_
  refine aw_bipush (10) dX8_fake_1 (by decide) ?_
  refine aw_dS [.int b, .int 10] [] lX8_87 sX8_hasOtherBits mX8_hasOtherBits dX8_fake_3 (bX8_hasOtherBits10 (x := b) ) rfl (Nat.le_of_ble_eq_true rfl) (by decide) (by decide) rfl ?_
  refine aw_if_eq 15 dX8_fake_6 (by decide) (fun c6 => ?_) (fun c6 => ?_)
  · have t6 := ite_0 c6
    obtain ⟨b0, bb_b0, ee_b0⟩ := i_nat (x := b) (N := 1024) (by omega) (by omega)
    subst ee_b0
    have tt_b0 : (nI b0).toInt = (b0 : Int) := nI_toInt (by omega)
    have nn_b0 : tn (nI b0) = b0 := tn_nI (by omega)
    refine aw_aload_n 0 dX8_fake_15 rfl rfl ?_
    refine aw_get fX8_58 dX8_fake_16 h0 rfl ?_
    refine aw_iload_n 1 dX8_fake_19 rfl rfl ?_
    refine aw_dV [.int (nI b0)] [] lX8_234 vX0_isFake mX0_isFake dX8_fake_20 (aX0_isFake (kd := kd) (fo := fo) (cn := cn) (b := b0) h84 h85 h86 bkd bfo (by omega)) h84 rfl rfl rfl (Nat.le_of_ble_eq_true rfl) (by decide) (by decide) rfl ?_
    refine aw_if_eq 30 dX8_fake_23 (by decide) (fun c23 => ?_) (fun c23 => ?_)
    · have t23 := ite_0 c23
      refine aw_iconst (0) dX8_fake_30 (by decide) ?_
      subst hQF
      exact aw_iret rfl dX8_fake_31 (by decide) (by decide) ⟨by rw [if_pos (by omega), nn_b0, if_neg t23], _, h87, rng_rf 87 87 h⟩
    · have t23 := ite_1 c23
      refine aw_iconst (1) dX8_fake_26 (by decide) ?_
      refine aw_goto 31 dX8_fake_27 (by decide) ?_
      subst hQF
      exact aw_iret rfl dX8_fake_31 (by decide) (by decide) ⟨by rw [if_pos (by omega), nn_b0, if_pos t23], _, h87, rng_rf 87 87 h⟩
  · have t6 := ite_1 c6
    refine aw_aload_n 0 dX8_fake_9 rfl rfl ?_
    refine aw_iconst (-1) dX8_fake_10 (by decide) ?_
    refine aw_eV [.int (-1)] [] lX8_70 vX8_refuse mX8_refuse dX8_fake_11 (bX8_refuse (jv := jv) (bv := bv) (rf := rf) (x := (-1)) (q := 1) h0 h87 (by decide) (by decide)) h0 rfl rfl rfl (Nat.le_of_ble_eq_true rfl) (by decide) (by decide) rfl (fun h1773 q1772 => ?_)
    obtain ⟨rf11771, f1774, k1775⟩ := q1772
    have f1776 := rng_at k1775 (by decide) h0
    have f1777 := rng_at k1775 (by decide) h84
    have f1778 := rng_at k1775 (by decide) h85
    have f1779 := rng_at k1775 (by decide) h86
    subst hQF
    exact aw_iret rfl dX8_fake_14 (by decide) (by decide) ⟨by rw [if_neg (by omega)], _, f1774, rng_tr (rng_rf 87 87 h) (rng_w k1775 (by decide) (by decide))⟩
set_option maxHeartbeats 4000000 in
theorem oX8_least {l : Launch} {G : xG} {h : List va_E} {jv bv : Value} {rf : Nat → Int32} {kd fo : Nat → Nat} {cn : Int32} {b : Int32} (h0 : h[0]? = some (oB 8 (lX G (jv) (bv)))) (h87 : h[87]? = some (aI 7 rf)) (h84 : h[84]? = some (oB 0 (lB G cn))) (h85 : h[85]? = some (aI 10 (nA kd))) (h86 : h[86]? = some (aI 6 (nA fo))) (bkd : ∀ j, j < 10 → kd j < 6) (bfo : ∀ j, j < 6 → fo j < 64) : CE l G yX8_least cX8_least 2 (some .int) 2 0 0 [.ref (G.1 + 0), .int b] h (some (.int (if (0 ≤ b.toInt ∧ b.toInt < 1024) then nI (lwF kd fo (tn b) (tn b)) else -1))) (fun h1 => ∃ rf1 : Nat → Int32, h1[87]? = some (aI 7 rf1) ∧ rng 87 87 h h1) := by
  refine cm_ofQ rfl (Nat.le_of_ble_eq_true rfl) [(0, .ref (G.1 + 0)), (1, .int b)] rfl (fun QF hQF => ?_)
  refine aw_iload_n 1 dX8_least_0 rfl rfl ?_
  refine aw_bipush (10) dX8_least_1 (by decide) ?_
  refine aw_dS [.int b, .int 10] [] lX8_87 sX8_hasOtherBits mX8_hasOtherBits dX8_least_3 (bX8_hasOtherBits10 (x := b) ) rfl (Nat.le_of_ble_eq_true rfl) (by decide) (by decide) rfl ?_
  refine aw_if_eq 15 dX8_least_6 (by decide) (fun c6 => ?_) (fun c6 => ?_)
  · have t6 := ite_0 c6
    obtain ⟨b0, bb_b0, ee_b0⟩ := i_nat (x := b) (N := 1024) (by omega) (by omega)
    subst ee_b0
    have tt_b0 : (nI b0).toInt = (b0 : Int) := nI_toInt (by omega)
    have nn_b0 : tn (nI b0) = b0 := tn_nI (by omega)
    refine aw_aload_n 0 dX8_least_15 rfl rfl ?_
    refine aw_get fX8_58 dX8_least_16 h0 rfl ?_
    refine aw_iload_n 1 dX8_least_19 rfl rfl ?_
    refine aw_dV [.int (nI b0)] [] lX8_237 vX0_leastWithout mX0_leastWithout dX8_least_20 (aX0_least (kd := kd) (fo := fo) (cn := cn) (b := b0) h84 h85 h86 bkd bfo (by omega)) h84 rfl rfl rfl (Nat.le_of_ble_eq_true rfl) (by decide) (by decide) rfl ?_
    subst hQF
    exact aw_iret rfl dX8_least_23 (by decide) (by decide) ⟨by rw [if_pos (by omega), nn_b0], _, h87, rng_rf 87 87 h⟩
  · have t6 := ite_1 c6
    refine aw_aload_n 0 dX8_least_9 rfl rfl ?_
    refine aw_iconst (-1) dX8_least_10 (by decide) ?_
    refine aw_eV [.int (-1)] [] lX8_70 vX8_refuse mX8_refuse dX8_least_11 (bX8_refuse (jv := jv) (bv := bv) (rf := rf) (x := (-1)) (q := 1) h0 h87 (by decide) (by decide)) h0 rfl rfl rfl (Nat.le_of_ble_eq_true rfl) (by decide) (by decide) rfl (fun h1782 q1781 => ?_)
    obtain ⟨rf11780, f1783, k1784⟩ := q1781
    have f1785 := rng_at k1784 (by decide) h0
    have f1786 := rng_at k1784 (by decide) h84
    have f1787 := rng_at k1784 (by decide) h85
    have f1788 := rng_at k1784 (by decide) h86
    subst hQF
    exact aw_iret rfl dX8_least_14 (by decide) (by decide) ⟨by rw [if_neg (by omega)], _, f1783, rng_tr (rng_rf 87 87 h) (rng_w k1784 (by decide) (by decide))⟩
