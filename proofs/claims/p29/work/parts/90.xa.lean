theorem aX5_lastPlace {l : Launch} {G : xG} {h : List va_E} {th ot dy so kn go od : Nat → Nat} {n : Nat} {wd : Int32} {r : Nat} {t d k : Nat} (hr : h[r]? = some (oB 5 (lR G r (nI n) wd))) (hr_1 : h[r + 1]? = some (aI 60 (nA th))) (hr_2 : h[r + 2]? = some (aI 60 (nA ot))) (hr_3 : h[r + 3]? = some (aI 60 (nA dy))) (hr_4 : h[r + 4]? = some (aI 60 (nA so))) (hr_5 : h[r + 5]? = some (aI 60 (nA kn))) (hr_6 : h[r + 6]? = some (aI 60 (nA go))) (hr_7 : h[r + 7]? = some (aI 60 (nA od))) (hn : n ≤ 60) (hod : srt dy od n) (bth : ∀ j, j < 60 → th j < 12) (bkn : ∀ j, j < 60 → kn j ≤ 80000) (bgo : ∀ j, j < 60 → go j ≤ 80001) (bdy : ∀ j, j < 60 → dy j ≤ 80000) (bt : t < 12) (bd : d ≤ 80000) (bk : k ≤ 80000) : CD l G yX5_lastPlace cX5_lastPlace 7 (some .int) 1 0 0 [.ref (G.1 + r), .int (nI t), .int (nI d), .int (nI k)] h (some (.int (lpF th ot dy kn go od t d k n))) h :=
  gX5_lastPlace ⟨hr, hr_1, hr_2, hr_3, hr_4, hr_5, hr_6, hr_7⟩ hn hod bth bkn bgo bdy rfl bt rfl bd rfl bk
set_option maxHeartbeats 4000000 in
theorem oX8_where {l : Launch} {G : xG} {h : List va_E} {jv bv : Value} {rf : Nat → Int32} {th ot dy so kn go od : Nat → Nat} {n : Nat} {wd : Int32} {t d k : Int32} (h0 : h[0]? = some (oB 8 (lX G (jv) (bv)))) (h87 : h[87]? = some (aI 7 rf)) (h61 : h[61]? = some (oB 5 (lR G 61 (nI n) wd))) (h62 : h[62]? = some (aI 60 (nA th))) (h63 : h[63]? = some (aI 60 (nA ot))) (h64 : h[64]? = some (aI 60 (nA dy))) (h65 : h[65]? = some (aI 60 (nA so))) (h66 : h[66]? = some (aI 60 (nA kn))) (h67 : h[67]? = some (aI 60 (nA go))) (h68 : h[68]? = some (aI 60 (nA od))) (hn : n ≤ 60) (hod : srt dy od n) (bth : ∀ j, j < 60 → th j < 12) (bkn : ∀ j, j < 60 → kn j ≤ 80000) (bgo : ∀ j, j < 60 → go j ≤ 80001) (bdy : ∀ j, j < 60 → dy j ≤ 80000) : CE l G yX8_where cX8_where 5 (some .int) 2 0 0 [.ref (G.1 + 0), .int t, .int d, .int k] h (some (.int (if (0 ≤ t.toInt ∧ t.toInt < 12) then (if dyF d k = 0 then lpF th ot dy kn go od (tn t) (tn d) (tn k) n else dyF d k) else -1))) (fun h1 => ∃ rf1 : Nat → Int32, h1[87]? = some (aI 7 rf1) ∧ rng 87 87 h h1) := by
  refine cm_ofQ rfl (Nat.le_of_ble_eq_true rfl) [(0, .ref (G.1 + 0)), (1, .int t), (2, .int d), (3, .int k)] rfl (fun QF hQF => ?_)
  refine aw_iload_n 1 dX8_where_0 rfl rfl ?_
  refine aw_dS [.int t] [] lX8_154 sX8_isThing mX8_isThing dX8_where_1 (bX8_isThing (x := t) ) rfl (Nat.le_of_ble_eq_true rfl) (by decide) (by decide) rfl ?_
  refine aw_if_ne 13 dX8_where_4 (by decide) (fun c4 => ?_) (fun c4 => ?_)
  · have t4 := ite_1 c4
    refine aw_iload_n 2 dX8_where_13 rfl rfl ?_
    refine aw_iload_n 3 dX8_where_14 rfl rfl ?_
    refine aw_dS [.int d, .int k] [] lX8_157 sX8_daysRefusal mX8_daysRefusal dX8_where_15 (bX8_daysRefusal (x := d) (k := k) ) rfl (Nat.le_of_ble_eq_true rfl) (by decide) (by decide) rfl ?_
    refine aw_istore [(4, .int (dyF d k)), (0, .ref (G.1 + 0)), (1, .int t), (2, .int d), (3, .int k)] dX8_where_18 (by decide) rfl ?_
    refine aw_iload 0 dX8_where_20 rfl ?_
    refine aw_if_eq 32 dX8_where_22 (by decide) (fun c22 => ?_) (fun c22 => ?_)
    · have d22 := (j_eq (a := (dyF d k).toInt) (b := (0)) (rfl) (rfl)).mp c22
      have hdd := dyF_0 c22
      obtain ⟨t0, bb_t0, ee_t0⟩ := i_nat (x := t) (N := 12) (by omega) (by omega)
      subst ee_t0
      have tt_t0 : (nI t0).toInt = (t0 : Int) := nI_toInt (by omega)
      have nn_t0 : tn (nI t0) = t0 := tn_nI (by omega)
      obtain ⟨d0, bb_d0, ee_d0⟩ := i_nat (x := d) (N := 80001) (by omega) (by omega)
      subst ee_d0
      have tt_d0 : (nI d0).toInt = (d0 : Int) := nI_toInt (by omega)
      have nn_d0 : tn (nI d0) = d0 := tn_nI (by omega)
      obtain ⟨k0, bb_k0, ee_k0⟩ := i_nat (x := k) (N := 80001) (by omega) (by omega)
      subst ee_k0
      have tt_k0 : (nI k0).toInt = (k0 : Int) := nI_toInt (by omega)
      have nn_k0 : tn (nI k0) = k0 := tn_nI (by omega)
      refine aw_aload_n 1 dX8_where_32 rfl rfl ?_
      refine aw_get fX8_34 dX8_where_33 h0 rfl ?_
      refine aw_iload_n 2 dX8_where_36 rfl rfl ?_
      refine aw_iload_n 3 dX8_where_37 rfl rfl ?_
      refine aw_iload_n 4 dX8_where_38 rfl rfl ?_
      refine aw_dV [.int (nI t0), .int (nI d0), .int (nI k0)] [] lX8_176 vX5_lastPlace mX5_lastPlace dX8_where_39 (aX5_lastPlace (th := th) (ot := ot) (dy := dy) (so := so) (kn := kn) (go := go) (od := od) (n := n) (wd := wd) (r := 61) (t := t0) (d := d0) (k := k0) h61 h62 h63 h64 h65 h66 h67 h68 (by omega) hod bth bkn bgo bdy (by omega) (by omega) (by omega)) h61 rfl rfl rfl (Nat.le_of_ble_eq_true rfl) (by decide) (by decide) rfl ?_
      subst hQF
      exact aw_iret rfl dX8_where_42 (by decide) (by decide) ⟨by rw [if_pos (by omega), if_pos c22, nn_t0, nn_d0, nn_k0], _, h87, rng_rf 87 87 h⟩
    · have d22 := mt (j_eq (a := (dyF d k).toInt) (b := (0)) (rfl) (rfl)).mpr c22
      refine aw_aload_n 1 dX8_where_25 rfl rfl ?_
      refine aw_iload 0 dX8_where_26 rfl ?_
      obtain ⟨q1713, bq1713, eq1713⟩ := Or.resolve_left (dyF_q d k) (by assumption)
      refine aw_eV [.int (dyF d k)] [] lX8_70 vX8_refuse mX8_refuse dX8_where_28 (bX8_refuse (jv := jv) (bv := bv) (rf := rf) (x := (dyF d k)) (q := q1713) h0 h87 bq1713 eq1713) h0 rfl rfl rfl (Nat.le_of_ble_eq_true rfl) (by decide) (by decide) rfl (fun h1716 q1715 => ?_)
      obtain ⟨rf11714, f1717, k1718⟩ := q1715
      have f1719 := rng_at k1718 (by decide) h0
      have f1720 := rng_at k1718 (by decide) h61
      have f1721 := rng_at k1718 (by decide) h62
      have f1722 := rng_at k1718 (by decide) h63
      have f1723 := rng_at k1718 (by decide) h64
      have f1724 := rng_at k1718 (by decide) h65
      have f1725 := rng_at k1718 (by decide) h66
      have f1726 := rng_at k1718 (by decide) h67
      have f1727 := rng_at k1718 (by decide) h68
      subst hQF
      exact aw_iret rfl dX8_where_31 (by decide) (by decide) ⟨by rw [if_pos (by omega), if_neg c22], _, f1717, rng_tr (rng_rf 87 87 h) (rng_w k1718 (by decide) (by decide))⟩
  · have t4 := ite_0 c4
    refine aw_aload_n 0 dX8_where_7 rfl rfl ?_
    refine aw_iconst (-1) dX8_where_8 (by decide) ?_
    refine aw_eV [.int (-1)] [] lX8_70 vX8_refuse mX8_refuse dX8_where_9 (bX8_refuse (jv := jv) (bv := bv) (rf := rf) (x := (-1)) (q := 1) h0 h87 (by decide) (by decide)) h0 rfl rfl rfl (Nat.le_of_ble_eq_true rfl) (by decide) (by decide) rfl (fun h1730 q1729 => ?_)
    obtain ⟨rf11728, f1731, k1732⟩ := q1729
    have f1733 := rng_at k1732 (by decide) h0
    have f1734 := rng_at k1732 (by decide) h61
    have f1735 := rng_at k1732 (by decide) h62
    have f1736 := rng_at k1732 (by decide) h63
    have f1737 := rng_at k1732 (by decide) h64
    have f1738 := rng_at k1732 (by decide) h65
    have f1739 := rng_at k1732 (by decide) h66
    have f1740 := rng_at k1732 (by decide) h67
    have f1741 := rng_at k1732 (by decide) h68
    subst hQF
    exact aw_iret rfl dX8_where_12 (by decide) (by decide) ⟨by rw [if_neg (by omega)], _, f1731, rng_tr (rng_rf 87 87 h) (rng_w k1732 (by decide) (by decide))⟩
set_option maxHeartbeats 4000000 in
theorem oX8_quarrels {l : Launch} {G : xG} {h : List va_E} {jv bv : Value} {rf : Nat → Int32} {th ot dy so kn go od : Nat → Nat} {n : Nat} {wd : Int32} {t k : Int32} (h0 : h[0]? = some (oB 8 (lX G (jv) (bv)))) (h87 : h[87]? = some (aI 7 rf)) (h61 : h[61]? = some (oB 5 (lR G 61 (nI n) wd))) (h62 : h[62]? = some (aI 60 (nA th))) (h63 : h[63]? = some (aI 60 (nA ot))) (h64 : h[64]? = some (aI 60 (nA dy))) (h65 : h[65]? = some (aI 60 (nA so))) (h66 : h[66]? = some (aI 60 (nA kn))) (h67 : h[67]? = some (aI 60 (nA go))) (h68 : h[68]? = some (aI 60 (nA od))) (hn : n ≤ 60) (hod : srt dy od n) (bth : ∀ j, j < 60 → th j < 12) (bkn : ∀ j, j < 60 → kn j ≤ 80000) (bgo : ∀ j, j < 60 → go j ≤ 80001) (bdy : ∀ j, j < 60 → dy j ≤ 80000) (bot : ∀ j, j < 60 → ot j < 8) : CE l G yX8_quarrels cX8_quarrels 4 (some .int) 2 0 0 [.ref (G.1 + 0), .int t, .int k] h (some (.int (if (0 ≤ t.toInt ∧ t.toInt < 12) then (if dyF k k = 0 then nI (qdF th ot dy kn go od (tn t) (tn k) n).1 else dyF k k) else -1))) (fun h1 => ∃ rf1 : Nat → Int32, h1[87]? = some (aI 7 rf1) ∧ rng 87 87 h h1) := by
  refine cm_ofQ rfl (Nat.le_of_ble_eq_true rfl) [(0, .ref (G.1 + 0)), (1, .int t), (2, .int k)] rfl (fun QF hQF => ?_)
  refine aw_iload_n 1 dX8_quarrels_0 rfl rfl ?_
  refine aw_dS [.int t] [] lX8_154 sX8_isThing mX8_isThing dX8_quarrels_1 (bX8_isThing (x := t) ) rfl (Nat.le_of_ble_eq_true rfl) (by decide) (by decide) rfl ?_
  refine aw_if_ne 13 dX8_quarrels_4 (by decide) (fun c4 => ?_) (fun c4 => ?_)
  · have t4 := ite_1 c4
    refine aw_iload_n 2 dX8_quarrels_13 rfl rfl ?_
    refine aw_iload_n 2 dX8_quarrels_14 rfl rfl ?_
    refine aw_dS [.int k, .int k] [] lX8_157 sX8_daysRefusal mX8_daysRefusal dX8_quarrels_15 (bX8_daysRefusal (x := k) (k := k) ) rfl (Nat.le_of_ble_eq_true rfl) (by decide) (by decide) rfl ?_
    refine aw_istore_n [(3, .int (dyF k k)), (0, .ref (G.1 + 0)), (1, .int t), (2, .int k)] dX8_quarrels_18 rfl (by decide) rfl ?_
    refine aw_iload_n 0 dX8_quarrels_19 rfl rfl ?_
    refine aw_if_eq 29 dX8_quarrels_20 (by decide) (fun c20 => ?_) (fun c20 => ?_)
    · have d20 := (j_eq (a := (dyF k k).toInt) (b := (0)) (rfl) (rfl)).mp c20
      have hdd := dyF_0 c20
      obtain ⟨t0, bb_t0, ee_t0⟩ := i_nat (x := t) (N := 12) (by omega) (by omega)
      subst ee_t0
      have tt_t0 : (nI t0).toInt = (t0 : Int) := nI_toInt (by omega)
      have nn_t0 : tn (nI t0) = t0 := tn_nI (by omega)
      obtain ⟨k0, bb_k0, ee_k0⟩ := i_nat (x := k) (N := 80001) (by omega) (by omega)
      subst ee_k0
      have tt_k0 : (nI k0).toInt = (k0 : Int) := nI_toInt (by omega)
      have nn_k0 : tn (nI k0) = k0 := tn_nI (by omega)
      refine aw_aload_n 1 dX8_quarrels_29 rfl rfl ?_
      refine aw_get fX8_34 dX8_quarrels_30 h0 rfl ?_
      refine aw_iload_n 2 dX8_quarrels_33 rfl rfl ?_
      refine aw_iload_n 3 dX8_quarrels_34 rfl rfl ?_
      refine aw_dV [.int (nI t0), .int (nI k0)] [] lX8_180 vX5_quarrelDays mX5_quarrelDays dX8_quarrels_35 (aX5_quarrelDays (th := th) (ot := ot) (dy := dy) (so := so) (kn := kn) (go := go) (od := od) (n := n) (wd := wd) (r := 61) (t := t0) (k := k0) h61 h62 h63 h64 h65 h66 h67 h68 (by omega) hod bth bkn bgo bdy bot (by omega) (by omega)) h61 rfl rfl rfl (Nat.le_of_ble_eq_true rfl) (by decide) (by decide) rfl ?_
      subst hQF
      exact aw_iret rfl dX8_quarrels_38 (by decide) (by decide) ⟨by rw [if_pos (by omega), if_pos c20, nn_t0, nn_k0], _, h87, rng_rf 87 87 h⟩
    · have d20 := mt (j_eq (a := (dyF k k).toInt) (b := (0)) (rfl) (rfl)).mpr c20
      refine aw_aload_n 1 dX8_quarrels_23 rfl rfl ?_
      refine aw_iload_n 0 dX8_quarrels_24 rfl rfl ?_
      obtain ⟨q1742, bq1742, eq1742⟩ := Or.resolve_left (dyF_q k k) (by assumption)
      refine aw_eV [.int (dyF k k)] [] lX8_70 vX8_refuse mX8_refuse dX8_quarrels_25 (bX8_refuse (jv := jv) (bv := bv) (rf := rf) (x := (dyF k k)) (q := q1742) h0 h87 bq1742 eq1742) h0 rfl rfl rfl (Nat.le_of_ble_eq_true rfl) (by decide) (by decide) rfl (fun h1745 q1744 => ?_)
      obtain ⟨rf11743, f1746, k1747⟩ := q1744
      have f1748 := rng_at k1747 (by decide) h0
      have f1749 := rng_at k1747 (by decide) h61
      have f1750 := rng_at k1747 (by decide) h62
      have f1751 := rng_at k1747 (by decide) h63
      have f1752 := rng_at k1747 (by decide) h64
      have f1753 := rng_at k1747 (by decide) h65
      have f1754 := rng_at k1747 (by decide) h66
      have f1755 := rng_at k1747 (by decide) h67
      have f1756 := rng_at k1747 (by decide) h68
      subst hQF
      exact aw_iret rfl dX8_quarrels_28 (by decide) (by decide) ⟨by rw [if_pos (by omega), if_neg c20], _, f1746, rng_tr (rng_rf 87 87 h) (rng_w k1747 (by decide) (by decide))⟩
  · have t4 := ite_0 c4
    refine aw_aload_n 0 dX8_quarrels_7 rfl rfl ?_
    refine aw_iconst (-1) dX8_quarrels_8 (by decide) ?_
    refine aw_eV [.int (-1)] [] lX8_70 vX8_refuse mX8_refuse dX8_quarrels_9 (bX8_refuse (jv := jv) (bv := bv) (rf := rf) (x := (-1)) (q := 1) h0 h87 (by decide) (by decide)) h0 rfl rfl rfl (Nat.le_of_ble_eq_true rfl) (by decide) (by decide) rfl (fun h1759 q1758 => ?_)
    obtain ⟨rf11757, f1760, k1761⟩ := q1758
    have f1762 := rng_at k1761 (by decide) h0
    have f1763 := rng_at k1761 (by decide) h61
    have f1764 := rng_at k1761 (by decide) h62
    have f1765 := rng_at k1761 (by decide) h63
    have f1766 := rng_at k1761 (by decide) h64
    have f1767 := rng_at k1761 (by decide) h65
    have f1768 := rng_at k1761 (by decide) h66
    have f1769 := rng_at k1761 (by decide) h67
    have f1770 := rng_at k1761 (by decide) h68
    subst hQF
    exact aw_iret rfl dX8_quarrels_12 (by decide) (by decide) ⟨by rw [if_neg (by omega)], _, f1760, rng_tr (rng_rf 87 87 h) (rng_w k1761 (by decide) (by decide))⟩
set_option maxHeartbeats 4000000 in
theorem oX8_fake {l : Launch} {G : xG} {h : List va_E} {jv bv : Value} {rf : Nat → Int32} {kd fo : Nat → Nat} {cn : Int32} {b : Int32} (h0 : h[0]? = some (oB 8 (lX G (jv) (bv)))) (h87 : h[87]? = some (aI 7 rf)) (h84 : h[84]? = some (oB 0 (lB G cn))) (h85 : h[85]? = some (aI 10 (nA kd))) (h86 : h[86]? = some (aI 6 (nA fo))) (bkd : ∀ j, j < 10 → kd j < 6) (bfo : ∀ j, j < 6 → fo j < 64) : CE l G yX8_fake cX8_fake 2 (some .int) 2 0 0 [.ref (G.1 + 0), .int b] h (some (.int (if (0 ≤ b.toInt ∧ b.toInt < 1024) then (if (fkF kd fo (tn b) 10).1 &&& (fkF kd fo (tn b) 10).2 ≠ 0 then 1 else 0) else -1))) (fun h1 => ∃ rf1 : Nat → Int32, h1[87]? = some (aI 7 rf1) ∧ rng 87 87 h h1) := by
  refine cm_ofQ rfl (Nat.le_of_ble_eq_true rfl) [(0, .ref (G.1 + 0)), (1, .int b)] rfl (fun QF hQF => ?_)
  refine aw_iload_n 1 dX8_fake_0 rfl rfl ?_
  refine aw_bipush (10) dX8_fake_1 (by decide) ?_
  refine aw_dS [.int b, .int 10] [] lX8_87 sX8_hasOtherBits mX8_hasOtherBits dX8_fake_3 (bX8_hasOtherBits10 (x := b) ) rfl (Nat.le_of_ble_eq_true rfl) (by decide) (by decide) rfl ?_
  refine aw_if_eq 15 dX8_fake_6 (by decide) (fun c6 => ?_) (fun c6 => ?_)
  · have t6 := ite_0 c6
    obtain ⟨b0, bb_b0, ee_b0⟩ := i_nat (x := b) (N := 1024) (by omega) (by omega)
    subst ee_b0
    have tt_b0 : (nI b0).toInt = (b0 : Int) := nI_toInt (by omega)
    have nn_b0 : tn (nI b0) = b0 := tn_nI (by omega)
    refine aw_aload_n 0 dX8_fake_15 rfl rfl ?_
    refine aw_get fX8_58 dX8_fake_16 h0 rfl ?_
    refine aw_iload_n 1 dX8_fake_19 rfl rfl ?_
    refine aw_dV [.int (nI b0)] [] lX8_234 vX0_isFake mX0_isFake dX8_fake_20 (aX0_isFake (kd := kd) (fo := fo) (cn := cn) (b := b0) h84 h85 h86 bkd bfo (by omega)) h84 rfl rfl rfl (Nat.le_of_ble_eq_true rfl) (by decide) (by decide) rfl ?_
    refine aw_if_eq 30 dX8_fake_23 (by decide) (fun c23 => ?_) (fun c23 => ?_)
    · have t23 := ite_0 c23
      refine aw_iconst (0) dX8_fake_30 (by decide) ?_
      subst hQF
      exact aw_iret rfl dX8_fake_31 (by decide) (by decide) ⟨by rw [if_pos (by omega), nn_b0, if_neg t23], _, h87, rng_rf 87 87 h⟩
    · have t23 := ite_1 c23
      refine aw_iconst (1) dX8_fake_26 (by decide) ?_
      refine aw_goto 31 dX8_fake_27 (by decide) ?_
      subst hQF
      exact aw_iret rfl dX8_fake_31 (by decide) (by decide) ⟨by rw [if_pos (by omega), nn_b0, if_pos t23], _, h87, rng_rf 87 87 h⟩
  · have t6 := ite_1 c6
    refine aw_aload_n 0 dX8_fake_9 rfl rfl ?_
    refine aw_iconst (-1) dX8_fake_10 (by decide) ?_
    refine aw_eV [.int (-1)] [] lX8_70 vX8_refuse mX8_refuse dX8_fake_11 (bX8_refuse (jv := jv) (bv := bv) (rf := rf) (x := (-1)) (q := 1) h0 h87 (by decide) (by decide)) h0 rfl rfl rfl (Nat.le_of_ble_eq_true rfl) (by decide) (by decide) rfl (fun h1773 q1772 => ?_)
    obtain ⟨rf11771, f1774, k1775⟩ := q1772
    have f1776 := rng_at k1775 (by decide) h0
    have f1777 := rng_at k1775 (by decide) h84
    have f1778 := rng_at k1775 (by decide) h85
    have f1779 := rng_at k1775 (by decide) h86
    subst hQF
    exact aw_iret rfl dX8_fake_14 (by decide) (by decide) ⟨by rw [if_neg (by omega)], _, f1774, rng_tr (rng_rf 87 87 h) (rng_w k1775 (by decide) (by decide))⟩
set_option maxHeartbeats 4000000 in
theorem oX8_least {l : Launch} {G : xG} {h : List va_E} {jv bv : Value} {rf : Nat → Int32} {kd fo : Nat → Nat} {cn : Int32} {b : Int32} (h0 : h[0]? = some (oB 8 (lX G (jv) (bv)))) (h87 : h[87]? = some (aI 7 rf)) (h84 : h[84]? = some (oB 0 (lB G cn))) (h85 : h[85]? = some (aI 10 (nA kd))) (h86 : h[86]? = some (aI 6 (nA fo))) (bkd : ∀ j, j < 10 → kd j < 6) (bfo : ∀ j, j < 6 → fo j < 64) : CE l G yX8_least cX8_least 2 (some .int) 2 0 0 [.ref (G.1 + 0), .int b] h (some (.int (if (0 ≤ b.toInt ∧ b.toInt < 1024) then nI (lwF kd fo (tn b) (tn b)) else -1))) (fun h1 => ∃ rf1 : Nat → Int32, h1[87]? = some (aI 7 rf1) ∧ rng 87 87 h h1) := by
  refine cm_ofQ rfl (Nat.le_of_ble_eq_true rfl) [(0, .ref (G.1 + 0)), (1, .int b)] rfl (fun QF hQF => ?_)
  refine aw_iload_n 1 dX8_least_0 rfl rfl ?_
  refine aw_bipush (10) dX8_least_1 (by decide) ?_
  refine aw_dS [.int b, .int 10] [] lX8_87 sX8_hasOtherBits mX8_hasOtherBits dX8_least_3 (bX8_hasOtherBits10 (x := b) ) rfl (Nat.le_of_ble_eq_true rfl) (by decide) (by decide) rfl ?_
  refine aw_if_eq 15 dX8_least_6 (by decide) (fun c6 => ?_) (fun c6 => ?_)
  · have t6 := ite_0 c6
    obtain ⟨b0, bb_b0, ee_b0⟩ := i_nat (x := b) (N := 1024) (by omega) (by omega)
    subst ee_b0
    have tt_b0 : (nI b0).toInt = (b0 : Int) := nI_toInt (by omega)
    have nn_b0 : tn (nI b0) = b0 := tn_nI (by omega)
    refine aw_aload_n 0 dX8_least_15 rfl rfl ?_
    refine aw_get fX8_58 dX8_least_16 h0 rfl ?_
    refine aw_iload_n 1 dX8_least_19 rfl rfl ?_
    refine aw_dV [.int (nI b0)] [] lX8_237 vX0_leastWithout mX0_leastWithout dX8_least_20 (aX0_least (kd := kd) (fo := fo) (cn := cn) (b := b0) h84 h85 h86 bkd bfo (by omega)) h84 rfl rfl rfl (Nat.le_of_ble_eq_true rfl) (by decide) (by decide) rfl ?_
    subst hQF
    exact aw_iret rfl dX8_least_23 (by decide) (by decide) ⟨by rw [if_pos (by omega), nn_b0], _, h87, rng_rf 87 87 h⟩
  · have t6 := ite_1 c6
    refine aw_aload_n 0 dX8_least_9 rfl rfl ?_
    refine aw_iconst (-1) dX8_least_10 (by decide) ?_
    refine aw_eV [.int (-1)] [] lX8_70 vX8_refuse mX8_refuse dX8_least_11 (bX8_refuse (jv := jv) (bv := bv) (rf := rf) (x := (-1)) (q := 1) h0 h87 (by decide) (by decide)) h0 rfl rfl rfl (Nat.le_of_ble_eq_true rfl) (by decide) (by decide) rfl (fun h1782 q1781 => ?_)
    obtain ⟨rf11780, f1783, k1784⟩ := q1781
    have f1785 := rng_at k1784 (by decide) h0
    have f1786 := rng_at k1784 (by decide) h84
    have f1787 := rng_at k1784 (by decide) h85
    have f1788 := rng_at k1784 (by decide) h86
    subst hQF
    exact aw_iret rfl dX8_least_14 (by decide) (by decide) ⟨by rw [if_neg (by omega)], _, f1783, rng_tr (rng_rf 87 87 h) (rng_w k1784 (by decide) (by decide))⟩
set_option maxHeartbeats 4000000 in
theorem bX8_isEntry {l : Launch} {G : xG} {h : List va_E} {jv bv : Value} {fi : Nat → Nat} {nb sp fa ve : Nat} {c i : Int32} (h0 : h[0]? = some (oB 8 (lX G (jv) (bv)))) (h1 : h[1]? = some (oB 1 (lC G (nI nb) (nI sp) (nI fa) (nI ve)))) (h5 : h[5]? = some (aI 4 (nA fi))) (hfi : ∀ j, j < 4 → fi j < 11) : CD l G yX8_isEntry cX8_isEntry 3 (some .boolean) 2 0 0 [.ref (G.1 + 0), .int c, .int i] h (some (.int (if ((0 ≤ c.toInt ∧ c.toInt < 4) ∧ 0 ≤ i.toInt ∧ i.toInt < (fi (tn c) : Int)) then 1 else 0))) h := by
  refine cm_ofQ rfl (Nat.le_of_ble_eq_true rfl) [(0, .ref (G.1 + 0)), (1, .int c), (2, .int i)] rfl (fun QF hQF => ?_)
  refine aw_iload_n 1 dX8_isEntry_0 rfl rfl ?_
  refine aw_dS [.int c] [] lX8_81 sX8_isCatalogue mX8_isCatalogue dX8_isEntry_1 (bX8_isCatalogue (x := c) ) rfl (Nat.le_of_ble_eq_true rfl) (by decide) (by decide) rfl ?_
  refine aw_if_eq 28 dX8_isEntry_4 (by decide) (fun c4 => ?_) (fun c4 => ?_)
  · have t4 := ite_0 c4
    refine aw_iconst (0) dX8_isEntry_28 (by decide) ?_
    subst hQF
    exact aw_zret rfl rfl dX8_isEntry_29 (by decide) (by decide) ⟨by rw [if_neg (by omega)], rfl⟩
  · have t4 := ite_1 c4
    obtain ⟨ca, bb_ca, ee_ca⟩ := i_nat (x := c) (N := 4) (by omega) (by omega)
    subst ee_ca
    have tt_ca : (nI ca).toInt = (ca : Int) := nI_toInt (by omega)
    have nn_ca : tn (nI ca) = ca := tn_nI (by omega)
    refine aw_iload_n 2 dX8_isEntry_7 rfl rfl ?_
    refine aw_if_lt 28 dX8_isEntry_8 (by decide) (fun c8 => ?_) (fun c8 => ?_)
    · have d8 := (j_lt (a := i.toInt) (b := (0)) (rfl) (rfl)).mp c8
      refine aw_iconst (0) dX8_isEntry_28 (by decide) ?_
      subst hQF
      exact aw_zret rfl rfl dX8_isEntry_29 (by decide) (by decide) ⟨by rw [if_neg (by rw [nn_ca]; omega)], rfl⟩
    · have d8 := mt (j_lt (a := i.toInt) (b := (0)) (rfl) (rfl)).mpr c8
      refine aw_iload_n 2 dX8_isEntry_11 rfl rfl ?_
      refine aw_aload_n 0 dX8_isEntry_12 rfl rfl ?_
      refine aw_get fX8_20 dX8_isEntry_13 h0 rfl ?_
      refine aw_get fX8_91 dX8_isEntry_16 h1 rfl ?_
      refine aw_iload_n 1 dX8_isEntry_19 rfl rfl ?_
      refine aw_iald ca (rfl) (by omega) (by decide) dX8_isEntry_20 h5 ?_
      refine aw_toe (nI (fi ca)) (rfl) ?_
      have b1789 := hfi ca (by omega)
      refine aw_icmp_ge 28 dX8_isEntry_21 (by decide) (fun c21 => ?_) (fun c21 => ?_)
      · have d21 := (j_le (a := ((fi ca : Nat) : Int)) (b := i.toInt) (i_toNat (rfl) (by omega)) (rfl)).mp c21
        refine aw_iconst (0) dX8_isEntry_28 (by decide) ?_
        subst hQF
        exact aw_zret rfl rfl dX8_isEntry_29 (by decide) (by decide) ⟨by rw [if_neg (by rw [nn_ca]; omega)], rfl⟩
      · have d21 := mt (j_le (a := ((fi ca : Nat) : Int)) (b := i.toInt) (i_toNat (rfl) (by omega)) (rfl)).mpr c21
        refine aw_iconst (1) dX8_isEntry_24 (by decide) ?_
        refine aw_goto 29 dX8_isEntry_25 (by decide) ?_
        subst hQF
        exact aw_zret rfl rfl dX8_isEntry_29 (by decide) (by decide) ⟨by rw [if_pos (by rw [nn_ca]; omega)], rfl⟩
def baU (Ba : Nat → Int64) (e f : Nat) : Nat → Int64 := vp_updL (vp_updL Ba e (Ba e ||| 1 <<< ((nI f).toInt64 &&& 63))) f (vp_updL Ba e (Ba e ||| 1 <<< ((nI f).toInt64 &&& 63)) f ||| 1 <<< ((nI e).toInt64 &&& 63))
def spBa (ok : Prop) [Decidable ok] (Ba : Nat → Int64) (e f : Nat) : Nat → Int64 := if ok then baU Ba e f else Ba
theorem spBa_y {ok : Prop} [Decidable ok] {Ba : Nat → Int64} {e f : Nat} (h : ok) : spBa ok Ba e f = vp_updL (vp_updL Ba e (Ba e ||| 1 <<< ((nI f).toInt64 &&& 63))) f (vp_updL Ba e (Ba e ||| 1 <<< ((nI f).toInt64 &&& 63)) f ||| 1 <<< ((nI e).toInt64 &&& 63)) := if_pos h
theorem spBa_n {ok : Prop} [Decidable ok] {Ba : Nat → Int64} {e f : Nat} (h : ¬ ok) : spBa ok Ba e f = Ba := if_neg h
set_option maxHeartbeats 4000000 in
theorem oX8_bar {l : Launch} {G : xG} {h : List va_E} {jv bv : Value} {rf : Nat → Int32} {m se ye fi : Nat → Nat} {W Sn Z Ro Co : Nat → Int32} {Ba : Nat → Int64} {nb sp fa ve : Nat} {a i b k : Int32} (h0 : h[0]? = some (oB 8 (lX G (jv) (bv)))) (h87 : h[87]? = some (aI 7 rf)) (h1 : h[1]? = some (oB 1 (lC G (nI nb) (nI sp) (nI fa) (nI ve)))) (h2 : h[2]? = some (aI 20 (nA m))) (h3 : h[3]? = some (aI 20 (nA se))) (h4 : h[4]? = some (aI 4 (nA ye))) (h5 : h[5]? = some (aI 4 (nA fi))) (h6 : h[6]? = some (aI 40 W)) (h7 : h[7]? = some (aI 40 Sn)) (h8 : h[8]? = some (aI 40 Z)) (h9 : h[9]? = some (aI 40 Ro)) (h10 : h[10]? = some (aI 40 Co)) (h11 : h[11]? = some (aL 40 Ba)) (hm : ∀ j, j < 20 → m j ≤ j) (hse : ∀ j, j < 20 → se j < 20) (hfi : ∀ j, j < 4 → fi j < 11) (hye : ∀ j, j < 4 → ye j < 1901) (hnb : nb ≤ 30) : CE l G yX8_bar cX8_bar 7 (some .int) 3 0 0 [.ref (G.1 + 0), .int a, .int i, .int b, .int k] h (some (.int (spBarA fi nb (¬ barF Ba (tn a * 10 + tn i) (nI (tn b * 10 + tn k)) = 0) a i b k))) (fun h1 => ∃ ve1 : Nat, ∃ rf1 : Nat → Int32, h1[1]? = some (oB 1 (lC G (nI (spN ((spBarA fi nb (¬ barF Ba (tn a * 10 + tn i) (nI (tn b * 10 + tn k)) = 0) a i b k) = 1) nb (nb + 1))) (nI sp) (nI fa) (nI ve1))) ∧ h1[2]? = some (aI 20 (nA m)) ∧ h1[3]? = some (aI 20 (nA se)) ∧ h1[4]? = some (aI 4 (nA ye)) ∧ h1[5]? = some (aI 4 (nA fi)) ∧ h1[6]? = some (aI 40 W) ∧ h1[7]? = some (aI 40 Sn) ∧ h1[8]? = some (aI 40 Z) ∧ h1[9]? = some (aI 40 Ro) ∧ h1[10]? = some (aI 40 Co) ∧ h1[11]? = some (aL 40 (spBa ((spBarA fi nb (¬ barF Ba (tn a * 10 + tn i) (nI (tn b * 10 + tn k)) = 0) a i b k) = 1) Ba (tn a * 10 + tn i) (tn b * 10 + tn k))) ∧ h1[87]? = some (aI 7 rf1) ∧ rg2 1 11 87 87 h h1 ∧ (ve1 = ve + 1 ∨ (ve1 = ve ∧ ¬ ((spBarA fi nb (¬ barF Ba (tn a * 10 + tn i) (nI (tn b * 10 + tn k)) = 0) a i b k) = 1)))) := by
  refine cm_ofQ rfl (Nat.le_of_ble_eq_true rfl) [(0, .ref (G.1 + 0)), (1, .int a), (2, .int i), (3, .int b), (4, .int k)] rfl (fun QF hQF => ?_)
  refine aw_iload_n 1 dX8_bar_0 rfl rfl ?_
  refine aw_iload_n 3 dX8_bar_1 rfl rfl ?_
  refine aw_dS [.int a, .int b] [] lX8_104 sX8_areTwo mX8_areTwo dX8_bar_2 (bX8_areTwo (a := a) (b := b) ) rfl (Nat.le_of_ble_eq_true rfl) (by decide) (by decide) rfl ?_
  refine aw_if_eq 27 dX8_bar_5 (by decide) (fun c5 => ?_) (fun c5 => ?_)
  · have t5 := ite_0 c5
    refine aw_aload_n 0 dX8_bar_27 rfl rfl ?_
    refine aw_iconst (-1) dX8_bar_28 (by decide) ?_
    refine aw_eV [.int (-1)] [] lX8_70 vX8_refuse mX8_refuse dX8_bar_29 (bX8_refuse (jv := jv) (bv := bv) (rf := rf) (x := (-1)) (q := 1) h0 h87 (by decide) (by decide)) h0 rfl rfl rfl (Nat.le_of_ble_eq_true rfl) (by decide) (by decide) rfl (fun h1792 q1791 => ?_)
    obtain ⟨rf11790, f1793, k1794⟩ := q1791
    have f1795 := rng_at k1794 (by decide) h0
    have f1796 := rng_at k1794 (by decide) h1
    have f1797 := rng_at k1794 (by decide) h2
    have f1798 := rng_at k1794 (by decide) h3
    have f1799 := rng_at k1794 (by decide) h4
    have f1800 := rng_at k1794 (by decide) h5
    have f1801 := rng_at k1794 (by decide) h6
    have f1802 := rng_at k1794 (by decide) h7
    have f1803 := rng_at k1794 (by decide) h8
    have f1804 := rng_at k1794 (by decide) h9
    have f1805 := rng_at k1794 (by decide) h10
    have f1806 := rng_at k1794 (by decide) h11
    subst hQF
    have eS : (spBarA fi nb (¬ barF Ba (tn a * 10 + tn i) (nI (tn b * 10 + tn k)) = 0) a i b k) = (-1) := by unfold spBarA; (repeat' split) <;> first | (exfalso; omega) | rfl | contradiction
    have ok9 : ¬ (spBarA fi nb (¬ barF Ba (tn a * 10 + tn i) (nI (tn b * 10 + tn k)) = 0) a i b k) = 1 := by rw [eS]; decide
    exact aw_iret rfl dX8_bar_32 (by decide) (by decide) ⟨by rw [eS], _, _, by rw [spN_n ok9]; exact f1796, f1797, f1798, f1799, f1800, f1801, f1802, f1803, f1804, f1805, by rw [spBa_n ok9]; exact f1806, f1793, rg2_tr (rg2_rf 1 11 87 87 h) (rg2_w k1794 (by decide)), Or.inr ⟨rfl, ok9⟩⟩
  · have t5 := ite_1 c5
    refine aw_aload_n 0 dX8_bar_8 rfl rfl ?_
    refine aw_iload_n 1 dX8_bar_9 rfl rfl ?_
    refine aw_iload_n 2 dX8_bar_10 rfl rfl ?_
    refine aw_dV [.int a, .int i] [] lX8_107 vX8_isEntry mX8_isEntry dX8_bar_11 (bX8_isEntry (jv := jv) (bv := bv) (fi := fi) (nb := nb) (sp := sp) (fa := fa) (ve := ve) (c := a) (i := i) h0 h1 h5 hfi) h0 rfl rfl rfl (Nat.le_of_ble_eq_true rfl) (by decide) (by decide) rfl ?_
    refine aw_if_eq 27 dX8_bar_14 (by decide) (fun c14 => ?_) (fun c14 => ?_)
    · have t14 := ite_0 c14
      refine aw_aload_n 0 dX8_bar_27 rfl rfl ?_
      refine aw_iconst (-1) dX8_bar_28 (by decide) ?_
      refine aw_eV [.int (-1)] [] lX8_70 vX8_refuse mX8_refuse dX8_bar_29 (bX8_refuse (jv := jv) (bv := bv) (rf := rf) (x := (-1)) (q := 1) h0 h87 (by decide) (by decide)) h0 rfl rfl rfl (Nat.le_of_ble_eq_true rfl) (by decide) (by decide) rfl (fun h1809 q1808 => ?_)
      obtain ⟨rf11807, f1810, k1811⟩ := q1808
      have f1812 := rng_at k1811 (by decide) h0
      have f1813 := rng_at k1811 (by decide) h1
      have f1814 := rng_at k1811 (by decide) h2
      have f1815 := rng_at k1811 (by decide) h3
      have f1816 := rng_at k1811 (by decide) h4
      have f1817 := rng_at k1811 (by decide) h5
      have f1818 := rng_at k1811 (by decide) h6
      have f1819 := rng_at k1811 (by decide) h7
      have f1820 := rng_at k1811 (by decide) h8
      have f1821 := rng_at k1811 (by decide) h9
      have f1822 := rng_at k1811 (by decide) h10
      have f1823 := rng_at k1811 (by decide) h11
      subst hQF
      have eS : (spBarA fi nb (¬ barF Ba (tn a * 10 + tn i) (nI (tn b * 10 + tn k)) = 0) a i b k) = (-1) := by unfold spBarA; (repeat' split) <;> first | (exfalso; omega) | rfl | contradiction
      have ok9 : ¬ (spBarA fi nb (¬ barF Ba (tn a * 10 + tn i) (nI (tn b * 10 + tn k)) = 0) a i b k) = 1 := by rw [eS]; decide
      exact aw_iret rfl dX8_bar_32 (by decide) (by decide) ⟨by rw [eS], _, _, by rw [spN_n ok9]; exact f1813, f1814, f1815, f1816, f1817, f1818, f1819, f1820, f1821, f1822, by rw [spBa_n ok9]; exact f1823, f1810, rg2_tr (rg2_rf 1 11 87 87 h) (rg2_w k1811 (by decide)), Or.inr ⟨rfl, ok9⟩⟩
    · have t14 := ite_1 c14
      refine aw_aload_n 0 dX8_bar_17 rfl rfl ?_
      refine aw_iload_n 3 dX8_bar_18 rfl rfl ?_
      refine aw_iload 4 dX8_bar_19 rfl ?_
      refine aw_dV [.int b, .int k] [] lX8_107 vX8_isEntry mX8_isEntry dX8_bar_21 (bX8_isEntry (jv := jv) (bv := bv) (fi := fi) (nb := nb) (sp := sp) (fa := fa) (ve := ve) (c := b) (i := k) h0 h1 h5 hfi) h0 rfl rfl rfl (Nat.le_of_ble_eq_true rfl) (by decide) (by decide) rfl ?_
      refine aw_if_ne 33 dX8_bar_24 (by decide) (fun c24 => ?_) (fun c24 => ?_)
      · have t24 := ite_1 c24
        have fa0 := hfi (tn a) (by unfold tn; omega)
        have fb0 := hfi (tn b) (by unfold tn; omega)
        obtain ⟨a0, bb_a0, ee_a0⟩ := i_nat (x := a) (N := 4) (by omega) (by omega)
        subst ee_a0
        have tt_a0 : (nI a0).toInt = (a0 : Int) := nI_toInt (by omega)
        have nn_a0 : tn (nI a0) = a0 := tn_nI (by omega)
        obtain ⟨b0, bb_b0, ee_b0⟩ := i_nat (x := b) (N := 4) (by omega) (by omega)
        subst ee_b0
        have tt_b0 : (nI b0).toInt = (b0 : Int) := nI_toInt (by omega)
        have nn_b0 : tn (nI b0) = b0 := tn_nI (by omega)
        rw [nn_a0] at t14 fa0
        rw [nn_b0] at t24 fb0
        obtain ⟨i0, bb_i0, ee_i0⟩ := i_nat (x := i) (N := 10) (by omega) (by omega)
        subst ee_i0
        have tt_i0 : (nI i0).toInt = (i0 : Int) := nI_toInt (by omega)
        have nn_i0 : tn (nI i0) = i0 := tn_nI (by omega)
        obtain ⟨k0, bb_k0, ee_k0⟩ := i_nat (x := k) (N := 10) (by omega) (by omega)
        subst ee_k0
        have tt_k0 : (nI k0).toInt = (k0 : Int) := nI_toInt (by omega)
        have nn_k0 : tn (nI k0) = k0 := tn_nI (by omega)
        refine aw_iload_n 1 dX8_bar_33 rfl rfl ?_
        refine aw_bipush (10) dX8_bar_34 (by decide) ?_
        refine aw_imul dX8_bar_36 ?_
        refine aw_toe (nI (a0 * 10)) (nv_mul (rfl) (rfl)) ?_
        refine aw_iload_n 2 dX8_bar_37 rfl rfl ?_
        refine aw_iadd dX8_bar_38 ?_
        refine aw_toe (nI ((a0 * 10) + i0)) (nv_add (rfl) (rfl)) ?_
        refine aw_istore [(5, .int (nI ((a0 * 10) + i0))), (0, .ref (G.1 + 0)), (1, .int (nI a0)), (2, .int (nI i0)), (3, .int (nI b0)), (4, .int (nI k0))] dX8_bar_39 (by decide) rfl ?_
        refine aw_iload_n 4 dX8_bar_41 rfl rfl ?_
        refine aw_bipush (10) dX8_bar_42 (by decide) ?_
        refine aw_imul dX8_bar_44 ?_
        refine aw_toe (nI (b0 * 10)) (nv_mul (rfl) (rfl)) ?_
        refine aw_iload 5 dX8_bar_45 rfl ?_
        refine aw_iadd dX8_bar_47 ?_
        refine aw_toe (nI ((b0 * 10) + k0)) (nv_add (rfl) (rfl)) ?_
        refine aw_istore [(6, .int (nI ((b0 * 10) + k0))), (5, .int (nI ((a0 * 10) + i0))), (0, .ref (G.1 + 0)), (1, .int (nI a0)), (2, .int (nI i0)), (3, .int (nI b0)), (4, .int (nI k0))] dX8_bar_48 (by decide) rfl ?_
        refine aw_aload_n 2 dX8_bar_50 rfl rfl ?_
        refine aw_get fX8_20 dX8_bar_51 h0 rfl ?_
        refine aw_iload 1 dX8_bar_54 rfl ?_
        refine aw_iload 0 dX8_bar_56 rfl ?_
        refine aw_dV [.int (nI ((a0 * 10) + i0)), .int (nI ((b0 * 10) + k0))] [] lX8_110 vX1_isBarTold mX1_isBarTold dX8_bar_58 (aX1_isBarTold (m := m) (se := se) (ye := ye) (fi := fi) (W := W) (Sn := Sn) (Z := Z) (Ro := Ro) (Co := Co) (Ba := Ba) (nb := nb) (sp := sp) (fa := fa) (ve := ve) (e := (a0 * 10) + i0) (f := (b0 * 10) + k0) h1 h2 h3 h4 h5 h6 h7 h8 h9 h10 h11 hm hse hfi hye (by omega) (by omega)) h1 rfl rfl rfl (Nat.le_of_ble_eq_true rfl) (by decide) (by decide) rfl ?_
        refine aw_if_eq 66 dX8_bar_61 (by decide) (fun c61 => ?_) (fun c61 => ?_)
        · have d61 := (j_eq (a := (barF Ba ((a0 * 10) + i0) (nI ((b0 * 10) + k0))).toInt) (b := (0)) (rfl) (rfl)).mp c61
          refine aw_aload_n 2 dX8_bar_66 rfl rfl ?_
          refine aw_get fX8_20 dX8_bar_67 h0 rfl ?_
          refine aw_get fX8_113 dX8_bar_70 h1 rfl ?_
          refine aw_bipush (30) dX8_bar_73 (by decide) ?_
          refine aw_icmp_lt 85 dX8_bar_75 (by decide) (fun c75 => ?_) (fun c75 => ?_)
          · have d75 := (nv_lt (a := nb) (b := 30) (rfl) (rfl) (by omega) (by omega)).mp c75
            refine aw_aload_n 2 dX8_bar_85 rfl rfl ?_
            refine aw_get fX8_20 dX8_bar_86 h0 rfl ?_
            refine aw_iload 1 dX8_bar_89 rfl ?_
            refine aw_iload 0 dX8_bar_91 rfl ?_
            refine aw_eW [.int (nI ((a0 * 10) + i0)), .int (nI ((b0 * 10) + k0))] [] lX8_117 vX1_tellBar mX1_tellBar dX8_bar_93 (aX1_tellBar (m := m) (se := se) (ye := ye) (fi := fi) (W := W) (Sn := Sn) (Z := Z) (Ro := Ro) (Co := Co) (Ba := Ba) (nb := nb) (sp := sp) (fa := fa) (ve := ve) (e := (a0 * 10) + i0) (f := (b0 * 10) + k0) h1 h2 h3 h4 h5 h6 h7 h8 h9 h10 h11 (by omega) (by omega)) h1 rfl rfl rfl (Nat.le_of_ble_eq_true rfl) (by decide) (by decide) rfl (fun h1825 q1824 => ?_)
            obtain ⟨f1826, f1827, f1828, f1829, f1830, f1831, f1832, f1833, f1834, f1835, f1836, k1837⟩ := q1824
            have f1838 := rng_at k1837 (by decide) h0
            have f1839 := rng_at k1837 (by decide) h87
            refine aw_iconst (1) dX8_bar_96 (by decide) ?_
            subst hQF
            have eS : (spBarA fi nb (¬ barF Ba (tn (nI a0) * 10 + tn (nI i0)) (nI (tn (nI b0) * 10 + tn (nI k0))) = 0) (nI a0) (nI i0) (nI b0) (nI k0)) = 1 := by unfold spBarA; simp only [nn_a0, nn_b0, nn_i0, nn_k0]; (repeat' split) <;> first | (exfalso; omega) | rfl | contradiction
            have ok9 : (spBarA fi nb (¬ barF Ba (tn (nI a0) * 10 + tn (nI i0)) (nI (tn (nI b0) * 10 + tn (nI k0))) = 0) (nI a0) (nI i0) (nI b0) (nI k0)) = 1 := by rw [eS]
            exact aw_iret rfl dX8_bar_97 (by decide) (by decide) ⟨by rw [eS], _, _, by rw [spN_y ok9]; exact f1826, f1827, f1828, f1829, f1830, f1831, f1832, f1833, f1834, f1835, by rw [spBa_y ok9, nn_a0, nn_i0, nn_b0, nn_k0]; exact f1836, f1839, rg2_tr (rg2_rf 1 11 87 87 h) (rg2_w k1837 (by decide)), Or.inl rfl⟩
          · have d75 := mt (nv_lt (a := nb) (b := 30) (rfl) (rfl) (by omega) (by omega)).mpr c75
            refine aw_aload_n 2 dX8_bar_78 rfl rfl ?_
            refine aw_bipush (-6) dX8_bar_79 (by decide) ?_
            refine aw_eV [.int (-6)] [] lX8_70 vX8_refuse mX8_refuse dX8_bar_81 (bX8_refuse (jv := jv) (bv := bv) (rf := rf) (x := (-6)) (q := 6) h0 h87 (by decide) (by decide)) h0 rfl rfl rfl (Nat.le_of_ble_eq_true rfl) (by decide) (by decide) rfl (fun h1842 q1841 => ?_)
            obtain ⟨rf11840, f1843, k1844⟩ := q1841
            have f1845 := rng_at k1844 (by decide) h0
            have f1846 := rng_at k1844 (by decide) h1
            have f1847 := rng_at k1844 (by decide) h2
            have f1848 := rng_at k1844 (by decide) h3
            have f1849 := rng_at k1844 (by decide) h4
            have f1850 := rng_at k1844 (by decide) h5
            have f1851 := rng_at k1844 (by decide) h6
            have f1852 := rng_at k1844 (by decide) h7
            have f1853 := rng_at k1844 (by decide) h8
            have f1854 := rng_at k1844 (by decide) h9
            have f1855 := rng_at k1844 (by decide) h10
            have f1856 := rng_at k1844 (by decide) h11
            subst hQF
            have eS : (spBarA fi nb (¬ barF Ba (tn (nI a0) * 10 + tn (nI i0)) (nI (tn (nI b0) * 10 + tn (nI k0))) = 0) (nI a0) (nI i0) (nI b0) (nI k0)) = (-6) := by unfold spBarA; simp only [nn_a0, nn_b0, nn_i0, nn_k0]; (repeat' split) <;> first | (exfalso; omega) | rfl | contradiction
            have ok9 : ¬ (spBarA fi nb (¬ barF Ba (tn (nI a0) * 10 + tn (nI i0)) (nI (tn (nI b0) * 10 + tn (nI k0))) = 0) (nI a0) (nI i0) (nI b0) (nI k0)) = 1 := by rw [eS]; decide
            exact aw_iret rfl dX8_bar_84 (by decide) (by decide) ⟨by rw [eS], _, _, by rw [spN_n ok9]; exact f1846, f1847, f1848, f1849, f1850, f1851, f1852, f1853, f1854, f1855, by rw [spBa_n ok9]; exact f1856, f1843, rg2_tr (rg2_rf 1 11 87 87 h) (rg2_w k1844 (by decide)), Or.inr ⟨rfl, ok9⟩⟩
        · have d61 := mt (j_eq (a := (barF Ba ((a0 * 10) + i0) (nI ((b0 * 10) + k0))).toInt) (b := (0)) (rfl) (rfl)).mpr c61
          refine aw_iconst (0) dX8_bar_64 (by decide) ?_
          subst hQF
          have eS : (spBarA fi nb (¬ barF Ba (tn (nI a0) * 10 + tn (nI i0)) (nI (tn (nI b0) * 10 + tn (nI k0))) = 0) (nI a0) (nI i0) (nI b0) (nI k0)) = 0 := by unfold spBarA; simp only [nn_a0, nn_b0, nn_i0, nn_k0]; (repeat' split) <;> first | (exfalso; omega) | rfl | contradiction
          have ok9 : ¬ (spBarA fi nb (¬ barF Ba (tn (nI a0) * 10 + tn (nI i0)) (nI (tn (nI b0) * 10 + tn (nI k0))) = 0) (nI a0) (nI i0) (nI b0) (nI k0)) = 1 := by rw [eS]; decide
          exact aw_iret rfl dX8_bar_65 (by decide) (by decide) ⟨by rw [eS], _, _, by rw [spN_n ok9]; exact h1, h2, h3, h4, h5, h6, h7, h8, h9, h10, by rw [spBa_n ok9]; exact h11, h87, rg2_rf 1 11 87 87 h, Or.inr ⟨rfl, ok9⟩⟩
      · have t24 := ite_0 c24
        refine aw_aload_n 0 dX8_bar_27 rfl rfl ?_
        refine aw_iconst (-1) dX8_bar_28 (by decide) ?_
        refine aw_eV [.int (-1)] [] lX8_70 vX8_refuse mX8_refuse dX8_bar_29 (bX8_refuse (jv := jv) (bv := bv) (rf := rf) (x := (-1)) (q := 1) h0 h87 (by decide) (by decide)) h0 rfl rfl rfl (Nat.le_of_ble_eq_true rfl) (by decide) (by decide) rfl (fun h1859 q1858 => ?_)
        obtain ⟨rf11857, f1860, k1861⟩ := q1858
        have f1862 := rng_at k1861 (by decide) h0
        have f1863 := rng_at k1861 (by decide) h1
        have f1864 := rng_at k1861 (by decide) h2
        have f1865 := rng_at k1861 (by decide) h3
        have f1866 := rng_at k1861 (by decide) h4
        have f1867 := rng_at k1861 (by decide) h5
        have f1868 := rng_at k1861 (by decide) h6
        have f1869 := rng_at k1861 (by decide) h7
        have f1870 := rng_at k1861 (by decide) h8
        have f1871 := rng_at k1861 (by decide) h9
        have f1872 := rng_at k1861 (by decide) h10
        have f1873 := rng_at k1861 (by decide) h11
        subst hQF
        have eS : (spBarA fi nb (¬ barF Ba (tn a * 10 + tn i) (nI (tn b * 10 + tn k)) = 0) a i b k) = (-1) := by unfold spBarA; (repeat' split) <;> first | (exfalso; omega) | rfl | contradiction
        have ok9 : ¬ (spBarA fi nb (¬ barF Ba (tn a * 10 + tn i) (nI (tn b * 10 + tn k)) = 0) a i b k) = 1 := by rw [eS]; decide
        exact aw_iret rfl dX8_bar_32 (by decide) (by decide) ⟨by rw [eS], _, _, by rw [spN_n ok9]; exact f1863, f1864, f1865, f1866, f1867, f1868, f1869, f1870, f1871, f1872, by rw [spBa_n ok9]; exact f1873, f1860, rg2_tr (rg2_rf 1 11 87 87 h) (rg2_w k1861 (by decide)), Or.inr ⟨rfl, ok9⟩⟩
set_option maxHeartbeats 4000000 in
theorem oX8_like {l : Launch} {G : xG} {h : List va_E} {jv bv : Value} {rf : Nat → Int32} {m se ye fi : Nat → Nat} {W Sn Z Ro Co : Nat → Int32} {Ba : Nat → Int64} {nb sp fa ve : Nat} {a i b k : Int32} (h0 : h[0]? = some (oB 8 (lX G (jv) (bv)))) (h87 : h[87]? = some (aI 7 rf)) (h1 : h[1]? = some (oB 1 (lC G (nI nb) (nI sp) (nI fa) (nI ve)))) (h2 : h[2]? = some (aI 20 (nA m))) (h3 : h[3]? = some (aI 20 (nA se))) (h4 : h[4]? = some (aI 4 (nA ye))) (h5 : h[5]? = some (aI 4 (nA fi))) (h6 : h[6]? = some (aI 40 W)) (h7 : h[7]? = some (aI 40 Sn)) (h8 : h[8]? = some (aI 40 Z)) (h9 : h[9]? = some (aI 40 Ro)) (h10 : h[10]? = some (aI 40 Co)) (h11 : h[11]? = some (aL 40 Ba)) (hm : ∀ j, j < 20 → m j ≤ j) (hse : ∀ j, j < 20 → se j < 20) (hfi : ∀ j, j < 4 → fi j < 11) (hye : ∀ j, j < 4 → ye j < 1901) : CE l G yX8_like cX8_like 5 (some .int) 3 0 0 [.ref (G.1 + 0), .int a, .int i, .int b, .int k] h (some (.int (if (((0 ≤ a.toInt ∧ a.toInt < 4) ∧ 0 ≤ i.toInt ∧ i.toInt < (fi (tn a) : Int)) ∧ ((0 ≤ b.toInt ∧ b.toInt < 4) ∧ 0 ≤ k.toInt ∧ k.toInt < (fi (tn b) : Int)) ∧ a.toInt ≠ b.toInt) then likeC ye Sn Z Ro Co Ba sp fa (tn a * 10 + tn i) (tn b * 10 + tn k) else -1))) (fun h1 => ∃ rf1 : Nat → Int32, h1[87]? = some (aI 7 rf1) ∧ rng 87 87 h h1) := by
  refine cm_ofQ rfl (Nat.le_of_ble_eq_true rfl) [(0, .ref (G.1 + 0)), (1, .int a), (2, .int i), (3, .int b), (4, .int k)] rfl (fun QF hQF => ?_)
  refine aw_iload_n 1 dX8_like_0 rfl rfl ?_
  refine aw_iload_n 3 dX8_like_1 rfl rfl ?_
  refine aw_dS [.int a, .int b] [] lX8_104 sX8_areTwo mX8_areTwo dX8_like_2 (bX8_areTwo (a := a) (b := b) ) rfl (Nat.le_of_ble_eq_true rfl) (by decide) (by decide) rfl ?_
  refine aw_if_eq 27 dX8_like_5 (by decide) (fun c5 => ?_) (fun c5 => ?_)
  · have t5 := ite_0 c5
    refine aw_aload_n 0 dX8_like_27 rfl rfl ?_
    refine aw_iconst (-1) dX8_like_28 (by decide) ?_
    refine aw_eV [.int (-1)] [] lX8_70 vX8_refuse mX8_refuse dX8_like_29 (bX8_refuse (jv := jv) (bv := bv) (rf := rf) (x := (-1)) (q := 1) h0 h87 (by decide) (by decide)) h0 rfl rfl rfl (Nat.le_of_ble_eq_true rfl) (by decide) (by decide) rfl (fun h1876 q1875 => ?_)
    obtain ⟨rf11874, f1877, k1878⟩ := q1875
    have f1879 := rng_at k1878 (by decide) h0
    have f1880 := rng_at k1878 (by decide) h1
    have f1881 := rng_at k1878 (by decide) h2
    have f1882 := rng_at k1878 (by decide) h3
    have f1883 := rng_at k1878 (by decide) h4
    have f1884 := rng_at k1878 (by decide) h5
    have f1885 := rng_at k1878 (by decide) h6
    have f1886 := rng_at k1878 (by decide) h7
    have f1887 := rng_at k1878 (by decide) h8
    have f1888 := rng_at k1878 (by decide) h9
    have f1889 := rng_at k1878 (by decide) h10
    have f1890 := rng_at k1878 (by decide) h11
    subst hQF
    exact aw_iret rfl dX8_like_32 (by decide) (by decide) ⟨by rw [if_neg (by omega)], _, f1877, rng_tr (rng_rf 87 87 h) (rng_w k1878 (by decide) (by decide))⟩
  · have t5 := ite_1 c5
    refine aw_aload_n 0 dX8_like_8 rfl rfl ?_
    refine aw_iload_n 1 dX8_like_9 rfl rfl ?_
    refine aw_iload_n 2 dX8_like_10 rfl rfl ?_
    refine aw_dV [.int a, .int i] [] lX8_107 vX8_isEntry mX8_isEntry dX8_like_11 (bX8_isEntry (jv := jv) (bv := bv) (fi := fi) (nb := nb) (sp := sp) (fa := fa) (ve := ve) (c := a) (i := i) h0 h1 h5 hfi) h0 rfl rfl rfl (Nat.le_of_ble_eq_true rfl) (by decide) (by decide) rfl ?_
    refine aw_if_eq 27 dX8_like_14 (by decide) (fun c14 => ?_) (fun c14 => ?_)
    · have t14 := ite_0 c14
      refine aw_aload_n 0 dX8_like_27 rfl rfl ?_
      refine aw_iconst (-1) dX8_like_28 (by decide) ?_
      refine aw_eV [.int (-1)] [] lX8_70 vX8_refuse mX8_refuse dX8_like_29 (bX8_refuse (jv := jv) (bv := bv) (rf := rf) (x := (-1)) (q := 1) h0 h87 (by decide) (by decide)) h0 rfl rfl rfl (Nat.le_of_ble_eq_true rfl) (by decide) (by decide) rfl (fun h1893 q1892 => ?_)
      obtain ⟨rf11891, f1894, k1895⟩ := q1892
      have f1896 := rng_at k1895 (by decide) h0
      have f1897 := rng_at k1895 (by decide) h1
      have f1898 := rng_at k1895 (by decide) h2
      have f1899 := rng_at k1895 (by decide) h3
      have f1900 := rng_at k1895 (by decide) h4
      have f1901 := rng_at k1895 (by decide) h5
      have f1902 := rng_at k1895 (by decide) h6
      have f1903 := rng_at k1895 (by decide) h7
      have f1904 := rng_at k1895 (by decide) h8
      have f1905 := rng_at k1895 (by decide) h9
      have f1906 := rng_at k1895 (by decide) h10
      have f1907 := rng_at k1895 (by decide) h11
      subst hQF
      exact aw_iret rfl dX8_like_32 (by decide) (by decide) ⟨by rw [if_neg (by omega)], _, f1894, rng_tr (rng_rf 87 87 h) (rng_w k1895 (by decide) (by decide))⟩
    · have t14 := ite_1 c14
      refine aw_aload_n 0 dX8_like_17 rfl rfl ?_
      refine aw_iload_n 3 dX8_like_18 rfl rfl ?_
      refine aw_iload 4 dX8_like_19 rfl ?_
      refine aw_dV [.int b, .int k] [] lX8_107 vX8_isEntry mX8_isEntry dX8_like_21 (bX8_isEntry (jv := jv) (bv := bv) (fi := fi) (nb := nb) (sp := sp) (fa := fa) (ve := ve) (c := b) (i := k) h0 h1 h5 hfi) h0 rfl rfl rfl (Nat.le_of_ble_eq_true rfl) (by decide) (by decide) rfl ?_
      refine aw_if_ne 33 dX8_like_24 (by decide) (fun c24 => ?_) (fun c24 => ?_)
      · have t24 := ite_1 c24
        have fa0 := hfi (tn a) (by unfold tn; omega)
        have fb0 := hfi (tn b) (by unfold tn; omega)
        obtain ⟨a0, bb_a0, ee_a0⟩ := i_nat (x := a) (N := 4) (by omega) (by omega)
        subst ee_a0
        have tt_a0 : (nI a0).toInt = (a0 : Int) := nI_toInt (by omega)
        have nn_a0 : tn (nI a0) = a0 := tn_nI (by omega)
        obtain ⟨b0, bb_b0, ee_b0⟩ := i_nat (x := b) (N := 4) (by omega) (by omega)
        subst ee_b0
        have tt_b0 : (nI b0).toInt = (b0 : Int) := nI_toInt (by omega)
        have nn_b0 : tn (nI b0) = b0 := tn_nI (by omega)
        rw [nn_a0] at t14 fa0
        rw [nn_b0] at t24 fb0
        obtain ⟨i0, bb_i0, ee_i0⟩ := i_nat (x := i) (N := 10) (by omega) (by omega)
        subst ee_i0
        have tt_i0 : (nI i0).toInt = (i0 : Int) := nI_toInt (by omega)
        have nn_i0 : tn (nI i0) = i0 := tn_nI (by omega)
        obtain ⟨k0, bb_k0, ee_k0⟩ := i_nat (x := k) (N := 10) (by omega) (by omega)
        subst ee_k0
        have tt_k0 : (nI k0).toInt = (k0 : Int) := nI_toInt (by omega)
        have nn_k0 : tn (nI k0) = k0 := tn_nI (by omega)
        refine aw_aload_n 0 dX8_like_33 rfl rfl ?_
        refine aw_get fX8_20 dX8_like_34 h0 rfl ?_
        refine aw_iload_n 1 dX8_like_37 rfl rfl ?_
        refine aw_bipush (10) dX8_like_38 (by decide) ?_
        refine aw_imul dX8_like_40 ?_
        refine aw_toe (nI (a0 * 10)) (nv_mul (rfl) (rfl)) ?_
        refine aw_iload_n 2 dX8_like_41 rfl rfl ?_
        refine aw_iadd dX8_like_42 ?_
        refine aw_toe (nI ((a0 * 10) + i0)) (nv_add (rfl) (rfl)) ?_
        refine aw_iload_n 3 dX8_like_43 rfl rfl ?_
        refine aw_bipush (10) dX8_like_44 (by decide) ?_
        refine aw_imul dX8_like_46 ?_
        refine aw_toe (nI (b0 * 10)) (nv_mul (rfl) (rfl)) ?_
        refine aw_iload 4 dX8_like_47 rfl ?_
        refine aw_iadd dX8_like_49 ?_
        refine aw_toe (nI ((b0 * 10) + k0)) (nv_add (rfl) (rfl)) ?_
        refine aw_dV [.int (nI ((a0 * 10) + i0)), .int (nI ((b0 * 10) + k0))] [] lX8_121 vX1_likeness mX1_likeness dX8_like_50 (aX1_likeness (m := m) (se := se) (ye := ye) (fi := fi) (W := W) (Sn := Sn) (Z := Z) (Ro := Ro) (Co := Co) (Ba := Ba) (nb := nb) (sp := sp) (fa := fa) (ve := ve) (e := (a0 * 10) + i0) (f := (b0 * 10) + k0) h1 h2 h3 h4 h5 h6 h7 h8 h9 h10 h11 hm hse hfi hye (by omega) (by omega)) h1 rfl rfl rfl (Nat.le_of_ble_eq_true rfl) (by decide) (by decide) rfl ?_
        subst hQF
        exact aw_iret rfl dX8_like_53 (by decide) (by decide) ⟨by rw [if_pos (by rw [nn_a0, nn_b0]; omega), nn_a0, nn_b0, nn_i0, nn_k0], _, h87, rng_rf 87 87 h⟩
      · have t24 := ite_0 c24
        refine aw_aload_n 0 dX8_like_27 rfl rfl ?_
        refine aw_iconst (-1) dX8_like_28 (by decide) ?_
        refine aw_eV [.int (-1)] [] lX8_70 vX8_refuse mX8_refuse dX8_like_29 (bX8_refuse (jv := jv) (bv := bv) (rf := rf) (x := (-1)) (q := 1) h0 h87 (by decide) (by decide)) h0 rfl rfl rfl (Nat.le_of_ble_eq_true rfl) (by decide) (by decide) rfl (fun h1910 q1909 => ?_)
        obtain ⟨rf11908, f1911, k1912⟩ := q1909
        have f1913 := rng_at k1912 (by decide) h0
        have f1914 := rng_at k1912 (by decide) h1
        have f1915 := rng_at k1912 (by decide) h2
        have f1916 := rng_at k1912 (by decide) h3
        have f1917 := rng_at k1912 (by decide) h4
        have f1918 := rng_at k1912 (by decide) h5
        have f1919 := rng_at k1912 (by decide) h6
        have f1920 := rng_at k1912 (by decide) h7
        have f1921 := rng_at k1912 (by decide) h8
        have f1922 := rng_at k1912 (by decide) h9
        have f1923 := rng_at k1912 (by decide) h10
        have f1924 := rng_at k1912 (by decide) h11
        subst hQF
        exact aw_iret rfl dX8_like_32 (by decide) (by decide) ⟨by rw [if_neg (by omega)], _, f1911, rng_tr (rng_rf 87 87 h) (rng_w k1912 (by decide) (by decide))⟩
set_option maxHeartbeats 4000000 in
theorem oX8_holds {l : Launch} {G : xG} {h : List va_E} {jv bv : Value} {rf : Nat → Int32} {th ot dy so kn go od : Nat → Nat} {n : Nat} {wd : Int32} {l0 o0 w0 z0 : Int32} {LE0 : Nat → Int32} {t d k v : Int32} (h0 : h[0]? = some (oB 8 (lX G (jv) (bv)))) (h87 : h[87]? = some (aI 7 rf)) (h77 : h[77]? = some (oB 2 (lH G l0 o0 w0 z0))) (h78 : h[78]? = some (aI 60 LE0)) (h69 : h[69]? = some (oB 5 (lR G 69 (nI n) wd))) (h70 : h[70]? = some (aI 60 (nA th))) (h71 : h[71]? = some (aI 60 (nA ot))) (h72 : h[72]? = some (aI 60 (nA dy))) (h73 : h[73]? = some (aI 60 (nA so))) (h74 : h[74]? = some (aI 60 (nA kn))) (h75 : h[75]? = some (aI 60 (nA go))) (h76 : h[76]? = some (aI 60 (nA od))) (hn : n ≤ 60) (hod : srt dy od n) (bth : ∀ j, j < 60 → th j < 12) (bkn : ∀ j, j < 60 → kn j ≤ 80000) (bgo : ∀ j, j < 60 → go j ≤ 80001) (bdy : ∀ j, j < 60 → dy j ≤ 80000) (bso : ∀ j, j < 60 → so j < 5) : CU l G yX8_holds cX8_holds 6 (some .int) 3 0 0 [.ref (G.1 + 0), .int t, .int d, .int k, .int v] h (fun r h1 => ∃ l1 : Int32, ∃ o1 : Int32, ∃ w1 : Int32, ∃ z1 : Int32, ∃ LE1 : Nat → Int32, ∃ rf1 : Nat → Int32, h1[77]? = some (oB 2 (lH G l1 o1 w1 z1)) ∧ h1[78]? = some (aI 60 LE1) ∧ h1[87]? = some (aI 7 rf1) ∧ rg2 77 78 87 87 h h1 ∧ r = (if (0 ≤ t.toInt ∧ t.toInt < 12) then (if v.toInt < 0 ∨ 2 < v.toInt then -2 else if dyF d k = 0 then (if v.toInt = 0 then (rpF th ot dy so kn go od (tn t) (tn d) (tn k) n).2.1 else if v.toInt = 1 then (rpF th ot dy so kn go od (tn t) (tn d) (tn k) n).2.2.1 else if (rpF th ot dy so kn go od (tn t) (tn d) (tn k) n).2.2.2 = 0 then 0 else 1) else dyF d k) else -1)) := by
  refine cm_ofQ rfl (Nat.le_of_ble_eq_true rfl) [(0, .ref (G.1 + 0)), (1, .int t), (2, .int d), (3, .int k), (4, .int v)] rfl (fun QF hQF => ?_)
  refine aw_iload_n 1 dX8_holds_0 rfl rfl ?_
  refine aw_dS [.int t] [] lX8_154 sX8_isThing mX8_isThing dX8_holds_1 (bX8_isThing (x := t) ) rfl (Nat.le_of_ble_eq_true rfl) (by decide) (by decide) rfl ?_
  refine aw_if_ne 13 dX8_holds_4 (by decide) (fun c4 => ?_) (fun c4 => ?_)
  · have t4 := ite_1 c4
    refine aw_iload 4 dX8_holds_13 rfl ?_
    refine aw_if_lt 24 dX8_holds_15 (by decide) (fun c15 => ?_) (fun c15 => ?_)
    · have d15 := (j_lt (a := v.toInt) (b := (0)) (rfl) (rfl)).mp c15
      refine aw_aload_n 0 dX8_holds_24 rfl rfl ?_
      refine aw_bipush (-2) dX8_holds_25 (by decide) ?_
      refine aw_eV [.int (-2)] [] lX8_70 vX8_refuse mX8_refuse dX8_holds_27 (bX8_refuse (jv := jv) (bv := bv) (rf := rf) (x := (-2)) (q := 2) h0 h87 (by decide) (by decide)) h0 rfl rfl rfl (Nat.le_of_ble_eq_true rfl) (by decide) (by decide) rfl (fun h3818 q3817 => ?_)
      obtain ⟨rf13816, f3819, k3820⟩ := q3817
      have f3821 := rng_at k3820 (by decide) h0
      have f3822 := rng_at k3820 (by decide) h77
      have f3823 := rng_at k3820 (by decide) h78
      have f3824 := rng_at k3820 (by decide) h69
      have f3825 := rng_at k3820 (by decide) h70
      have f3826 := rng_at k3820 (by decide) h71
      have f3827 := rng_at k3820 (by decide) h72
      have f3828 := rng_at k3820 (by decide) h73
      have f3829 := rng_at k3820 (by decide) h74
      have f3830 := rng_at k3820 (by decide) h75
      have f3831 := rng_at k3820 (by decide) h76
      subst hQF
      exact aw_iret rfl dX8_holds_30 (by decide) (by decide) ⟨_, rfl, _, _, _, _, _, _, f3822, f3823, f3819, rg2_tr (rg2_rf 77 78 87 87 h) (rg2_w k3820 (by decide)), by rw [if_pos (by omega), if_pos (by omega)]⟩
    · have d15 := mt (j_lt (a := v.toInt) (b := (0)) (rfl) (rfl)).mpr c15
      refine aw_iload 4 dX8_holds_18 rfl ?_
      refine aw_iconst (2) dX8_holds_20 (by decide) ?_
      refine aw_icmp_le 31 dX8_holds_21 (by decide) (fun c21 => ?_) (fun c21 => ?_)
      · have d21 := (j_le (a := v.toInt) (b := (2)) (rfl) (rfl)).mp c21
        refine aw_iload_n 2 dX8_holds_31 rfl rfl ?_
        refine aw_iload_n 3 dX8_holds_32 rfl rfl ?_
        refine aw_dS [.int d, .int k] [] lX8_157 sX8_daysRefusal mX8_daysRefusal dX8_holds_33 (bX8_daysRefusal (x := d) (k := k) ) rfl (Nat.le_of_ble_eq_true rfl) (by decide) (by decide) rfl ?_
        refine aw_istore [(5, .int (dyF d k)), (0, .ref (G.1 + 0)), (1, .int t), (2, .int d), (3, .int k), (4, .int v)] dX8_holds_36 (by decide) rfl ?_
        refine aw_iload 0 dX8_holds_38 rfl ?_
        refine aw_if_eq 50 dX8_holds_40 (by decide) (fun c40 => ?_) (fun c40 => ?_)
        · have d40 := (j_eq (a := (dyF d k).toInt) (b := (0)) (rfl) (rfl)).mp c40
          have hdd := dyF_0 c40
          obtain ⟨t0, bb_t0, ee_t0⟩ := i_nat (x := t) (N := 12) (by omega) (by omega)
          subst ee_t0
          have tt_t0 : (nI t0).toInt = (t0 : Int) := nI_toInt (by omega)
          have nn_t0 : tn (nI t0) = t0 := tn_nI (by omega)
          obtain ⟨d0, bb_d0, ee_d0⟩ := i_nat (x := d) (N := 80001) (by omega) (by omega)
          subst ee_d0
          have tt_d0 : (nI d0).toInt = (d0 : Int) := nI_toInt (by omega)
          have nn_d0 : tn (nI d0) = d0 := tn_nI (by omega)
          obtain ⟨k0, bb_k0, ee_k0⟩ := i_nat (x := k) (N := 80001) (by omega) (by omega)
          subst ee_k0
          have tt_k0 : (nI k0).toInt = (k0 : Int) := nI_toInt (by omega)
          have nn_k0 : tn (nI k0) = k0 := tn_nI (by omega)
          refine aw_aload_n 1 dX8_holds_50 rfl rfl ?_
          refine aw_get fX8_44 dX8_holds_51 h0 rfl ?_
          refine aw_aload_n 1 dX8_holds_54 rfl rfl ?_
          refine aw_get fX8_38 dX8_holds_55 h0 rfl ?_
          refine aw_iload_n 2 dX8_holds_58 rfl rfl ?_
          refine aw_iload_n 3 dX8_holds_59 rfl rfl ?_
          refine aw_iload_n 4 dX8_holds_60 rfl rfl ?_
          refine aw_eW [.ref (G.1 + 69), .int (nI t0), .int (nI d0), .int (nI k0)] [] lX8_183 vX2_replay mX2_replay dX8_holds_61 (aX2_replay (th := th) (ot := ot) (dy := dy) (so := so) (kn := kn) (go := go) (od := od) (n := n) (wd := wd) (l0 := l0) (o0 := o0) (w0 := w0) (z0 := z0) (LE0 := LE0) (t := t0) (d := d0) (k := k0) h77 h78 h69 h70 h71 h72 h73 h74 h75 h76 (by omega) hod bth bkn bgo bdy bso (by omega) (by omega) (by omega)) h77 rfl rfl rfl (Nat.le_of_ble_eq_true rfl) (by decide) (by decide) rfl (fun h3834 q3833 => ?_)
          obtain ⟨LE13832, f3835, f3836, k3837⟩ := q3833
          have f3838 := rng_at k3837 (by decide) h0
          have f3839 := rng_at k3837 (by decide) h87
          have f3840 := rng_at k3837 (by decide) h69
          have f3841 := rng_at k3837 (by decide) h70
          have f3842 := rng_at k3837 (by decide) h71
          have f3843 := rng_at k3837 (by decide) h72
          have f3844 := rng_at k3837 (by decide) h73
          have f3845 := rng_at k3837 (by decide) h74
          have f3846 := rng_at k3837 (by decide) h75
          have f3847 := rng_at k3837 (by decide) h76
          refine aw_iload 5 dX8_holds_64 rfl ?_
          refine aw_if_ne 77 dX8_holds_66 (by decide) (fun c66 => ?_) (fun c66 => ?_)
          · have d66 := mt (j_eq (a := v.toInt) (b := (0)) (rfl) (rfl)).mpr c66
            refine aw_iload 5 dX8_holds_77 rfl ?_
            refine aw_iconst (1) dX8_holds_79 (by decide) ?_
            refine aw_icmp_ne 91 dX8_holds_80 (by decide) (fun c80 => ?_) (fun c80 => ?_)
            · have d80 := mt (j_eq (a := v.toInt) (b := (1)) (rfl) (rfl)).mpr c80
              refine aw_aload_n 1 dX8_holds_91 rfl rfl ?_
              refine aw_get fX8_44 dX8_holds_92 f3838 rfl ?_
              refine aw_get fX8_193 dX8_holds_95 f3835 rfl ?_
              refine aw_if_eq 105 dX8_holds_98 (by decide) (fun c98 => ?_) (fun c98 => ?_)
              · have d98 := (j_eq (a := ((rpF th ot dy so kn go od t0 d0 k0 n).2.2.2).toInt) (b := (0)) (rfl) (rfl)).mp c98
                refine aw_iconst (0) dX8_holds_105 (by decide) ?_
                subst hQF
                exact aw_iret rfl dX8_holds_106 (by decide) (by decide) ⟨_, rfl, _, _, _, _, _, _, f3835, f3836, f3839, rg2_tr (rg2_rf 77 78 87 87 h) (rg2_w k3837 (by decide)), by rw [if_pos (by omega), if_neg (by omega), if_pos c40, if_neg (by omega), if_neg (by omega), nn_t0, nn_d0, nn_k0, if_pos c98]⟩
              · have d98 := mt (j_eq (a := ((rpF th ot dy so kn go od t0 d0 k0 n).2.2.2).toInt) (b := (0)) (rfl) (rfl)).mpr c98
                refine aw_iconst (1) dX8_holds_101 (by decide) ?_
                refine aw_goto 106 dX8_holds_102 (by decide) ?_
                subst hQF
                exact aw_iret rfl dX8_holds_106 (by decide) (by decide) ⟨_, rfl, _, _, _, _, _, _, f3835, f3836, f3839, rg2_tr (rg2_rf 77 78 87 87 h) (rg2_w k3837 (by decide)), by rw [if_pos (by omega), if_neg (by omega), if_pos c40, if_neg (by omega), if_neg (by omega), nn_t0, nn_d0, nn_k0, if_neg c98]⟩
            · have d80 := (j_eq (a := v.toInt) (b := (1)) (rfl) (rfl)).mp c80
              refine aw_aload_n 1 dX8_holds_83 rfl rfl ?_
              refine aw_get fX8_44 dX8_holds_84 f3838 rfl ?_
              refine aw_get fX8_190 dX8_holds_87 f3835 rfl ?_
              subst hQF
              exact aw_iret rfl dX8_holds_90 (by decide) (by decide) ⟨_, rfl, _, _, _, _, _, _, f3835, f3836, f3839, rg2_tr (rg2_rf 77 78 87 87 h) (rg2_w k3837 (by decide)), by rw [if_pos (by omega), if_neg (by omega), if_pos c40, if_neg (by omega), if_pos (by omega), nn_t0, nn_d0, nn_k0]⟩
          · have d66 := (j_eq (a := v.toInt) (b := (0)) (rfl) (rfl)).mp c66
            refine aw_aload_n 1 dX8_holds_69 rfl rfl ?_
            refine aw_get fX8_44 dX8_holds_70 f3838 rfl ?_
            refine aw_get fX8_187 dX8_holds_73 f3835 rfl ?_
            subst hQF
            exact aw_iret rfl dX8_holds_76 (by decide) (by decide) ⟨_, rfl, _, _, _, _, _, _, f3835, f3836, f3839, rg2_tr (rg2_rf 77 78 87 87 h) (rg2_w k3837 (by decide)), by rw [if_pos (by omega), if_neg (by omega), if_pos c40, if_pos (by omega), nn_t0, nn_d0, nn_k0]⟩
        · have d40 := mt (j_eq (a := (dyF d k).toInt) (b := (0)) (rfl) (rfl)).mpr c40
          refine aw_aload_n 1 dX8_holds_43 rfl rfl ?_
          refine aw_iload 0 dX8_holds_44 rfl ?_
          obtain ⟨q3848, bq3848, eq3848⟩ := Or.resolve_left (dyF_q d k) (by assumption)
          refine aw_eV [.int (dyF d k)] [] lX8_70 vX8_refuse mX8_refuse dX8_holds_46 (bX8_refuse (jv := jv) (bv := bv) (rf := rf) (x := (dyF d k)) (q := q3848) h0 h87 bq3848 eq3848) h0 rfl rfl rfl (Nat.le_of_ble_eq_true rfl) (by decide) (by decide) rfl (fun h3851 q3850 => ?_)
          obtain ⟨rf13849, f3852, k3853⟩ := q3850
          have f3854 := rng_at k3853 (by decide) h0
          have f3855 := rng_at k3853 (by decide) h77
          have f3856 := rng_at k3853 (by decide) h78
          have f3857 := rng_at k3853 (by decide) h69
          have f3858 := rng_at k3853 (by decide) h70
          have f3859 := rng_at k3853 (by decide) h71
          have f3860 := rng_at k3853 (by decide) h72
          have f3861 := rng_at k3853 (by decide) h73
          have f3862 := rng_at k3853 (by decide) h74
          have f3863 := rng_at k3853 (by decide) h75
          have f3864 := rng_at k3853 (by decide) h76
          subst hQF
          exact aw_iret rfl dX8_holds_49 (by decide) (by decide) ⟨_, rfl, _, _, _, _, _, _, f3855, f3856, f3852, rg2_tr (rg2_rf 77 78 87 87 h) (rg2_w k3853 (by decide)), by rw [if_pos (by omega), if_neg (by omega), if_neg c40]⟩
      · have d21 := mt (j_le (a := v.toInt) (b := (2)) (rfl) (rfl)).mpr c21
        refine aw_aload_n 0 dX8_holds_24 rfl rfl ?_
        refine aw_bipush (-2) dX8_holds_25 (by decide) ?_
        refine aw_eV [.int (-2)] [] lX8_70 vX8_refuse mX8_refuse dX8_holds_27 (bX8_refuse (jv := jv) (bv := bv) (rf := rf) (x := (-2)) (q := 2) h0 h87 (by decide) (by decide)) h0 rfl rfl rfl (Nat.le_of_ble_eq_true rfl) (by decide) (by decide) rfl (fun h3867 q3866 => ?_)
        obtain ⟨rf13865, f3868, k3869⟩ := q3866
        have f3870 := rng_at k3869 (by decide) h0
        have f3871 := rng_at k3869 (by decide) h77
        have f3872 := rng_at k3869 (by decide) h78
        have f3873 := rng_at k3869 (by decide) h69
        have f3874 := rng_at k3869 (by decide) h70
        have f3875 := rng_at k3869 (by decide) h71
        have f3876 := rng_at k3869 (by decide) h72
        have f3877 := rng_at k3869 (by decide) h73
        have f3878 := rng_at k3869 (by decide) h74
        have f3879 := rng_at k3869 (by decide) h75
        have f3880 := rng_at k3869 (by decide) h76
        subst hQF
        exact aw_iret rfl dX8_holds_30 (by decide) (by decide) ⟨_, rfl, _, _, _, _, _, _, f3871, f3872, f3868, rg2_tr (rg2_rf 77 78 87 87 h) (rg2_w k3869 (by decide)), by rw [if_pos (by omega), if_pos (by omega)]⟩
  · have t4 := ite_0 c4
    refine aw_aload_n 0 dX8_holds_7 rfl rfl ?_
    refine aw_iconst (-1) dX8_holds_8 (by decide) ?_
    refine aw_eV [.int (-1)] [] lX8_70 vX8_refuse mX8_refuse dX8_holds_9 (bX8_refuse (jv := jv) (bv := bv) (rf := rf) (x := (-1)) (q := 1) h0 h87 (by decide) (by decide)) h0 rfl rfl rfl (Nat.le_of_ble_eq_true rfl) (by decide) (by decide) rfl (fun h3883 q3882 => ?_)
    obtain ⟨rf13881, f3884, k3885⟩ := q3882
    have f3886 := rng_at k3885 (by decide) h0
    have f3887 := rng_at k3885 (by decide) h77
    have f3888 := rng_at k3885 (by decide) h78
    have f3889 := rng_at k3885 (by decide) h69
    have f3890 := rng_at k3885 (by decide) h70
    have f3891 := rng_at k3885 (by decide) h71
    have f3892 := rng_at k3885 (by decide) h72
    have f3893 := rng_at k3885 (by decide) h73
    have f3894 := rng_at k3885 (by decide) h74
    have f3895 := rng_at k3885 (by decide) h75
    have f3896 := rng_at k3885 (by decide) h76
    subst hQF
    exact aw_iret rfl dX8_holds_12 (by decide) (by decide) ⟨_, rfl, _, _, _, _, _, _, f3887, f3888, f3884, rg2_tr (rg2_rf 77 78 87 87 h) (rg2_w k3885 (by decide)), by rw [if_neg (by omega)]⟩
set_option maxHeartbeats 4000000 in
theorem oX8_since {l : Launch} {G : xG} {h : List va_E} {jv bv : Value} {rf : Nat → Int32} {th ot dy so kn go od : Nat → Nat} {n : Nat} {wd : Int32} {l0 o0 w0 z0 : Int32} {LE0 : Nat → Int32} {t d k : Int32} (h0 : h[0]? = some (oB 8 (lX G (jv) (bv)))) (h87 : h[87]? = some (aI 7 rf)) (h77 : h[77]? = some (oB 2 (lH G l0 o0 w0 z0))) (h78 : h[78]? = some (aI 60 LE0)) (h69 : h[69]? = some (oB 5 (lR G 69 (nI n) wd))) (h70 : h[70]? = some (aI 60 (nA th))) (h71 : h[71]? = some (aI 60 (nA ot))) (h72 : h[72]? = some (aI 60 (nA dy))) (h73 : h[73]? = some (aI 60 (nA so))) (h74 : h[74]? = some (aI 60 (nA kn))) (h75 : h[75]? = some (aI 60 (nA go))) (h76 : h[76]? = some (aI 60 (nA od))) (hn : n ≤ 60) (hod : srt dy od n) (bth : ∀ j, j < 60 → th j < 12) (bkn : ∀ j, j < 60 → kn j ≤ 80000) (bgo : ∀ j, j < 60 → go j ≤ 80001) (bdy : ∀ j, j < 60 → dy j ≤ 80000) (bso : ∀ j, j < 60 → so j < 5) : CE l G yX8_since cX8_since 5 (some .int) 3 0 0 [.ref (G.1 + 0), .int t, .int d, .int k] h (some (.int (if (0 ≤ t.toInt ∧ t.toInt < 12) then (if dyF d k = 0 then nI (hsF (fun x => lcF th kn go (tn t) x n) (fun x => (rpF th ot dy so kn go od (tn t) (tn d) x n).2.1) ((rpF th ot dy so kn go od (tn t) (tn d) (tn k) n).2.1) 121 (tn k)) else dyF d k) else -1))) (fun h1 => ∃ l1 : Int32, ∃ o1 : Int32, ∃ w1 : Int32, ∃ z1 : Int32, ∃ LE1 : Nat → Int32, ∃ rf1 : Nat → Int32, h1[77]? = some (oB 2 (lH G l1 o1 w1 z1)) ∧ h1[78]? = some (aI 60 LE1) ∧ h1[87]? = some (aI 7 rf1) ∧ rg2 77 78 87 87 h h1) := by
  refine cm_ofQ rfl (Nat.le_of_ble_eq_true rfl) [(0, .ref (G.1 + 0)), (1, .int t), (2, .int d), (3, .int k)] rfl (fun QF hQF => ?_)
  refine aw_iload_n 1 dX8_since_0 rfl rfl ?_
  refine aw_dS [.int t] [] lX8_154 sX8_isThing mX8_isThing dX8_since_1 (bX8_isThing (x := t) ) rfl (Nat.le_of_ble_eq_true rfl) (by decide) (by decide) rfl ?_
  refine aw_if_ne 13 dX8_since_4 (by decide) (fun c4 => ?_) (fun c4 => ?_)
  · have t4 := ite_1 c4
    refine aw_iload_n 2 dX8_since_13 rfl rfl ?_
    refine aw_iload_n 3 dX8_since_14 rfl rfl ?_
    refine aw_dS [.int d, .int k] [] lX8_157 sX8_daysRefusal mX8_daysRefusal dX8_since_15 (bX8_daysRefusal (x := d) (k := k) ) rfl (Nat.le_of_ble_eq_true rfl) (by decide) (by decide) rfl ?_
    refine aw_istore [(4, .int (dyF d k)), (0, .ref (G.1 + 0)), (1, .int t), (2, .int d), (3, .int k)] dX8_since_18 (by decide) rfl ?_
    refine aw_iload 0 dX8_since_20 rfl ?_
    refine aw_if_eq 32 dX8_since_22 (by decide) (fun c22 => ?_) (fun c22 => ?_)
    · have d22 := (j_eq (a := (dyF d k).toInt) (b := (0)) (rfl) (rfl)).mp c22
      have hdd := dyF_0 c22
      obtain ⟨t0, bb_t0, ee_t0⟩ := i_nat (x := t) (N := 12) (by omega) (by omega)
      subst ee_t0
      have tt_t0 : (nI t0).toInt = (t0 : Int) := nI_toInt (by omega)
      have nn_t0 : tn (nI t0) = t0 := tn_nI (by omega)
      obtain ⟨d0, bb_d0, ee_d0⟩ := i_nat (x := d) (N := 80001) (by omega) (by omega)
      subst ee_d0
      have tt_d0 : (nI d0).toInt = (d0 : Int) := nI_toInt (by omega)
      have nn_d0 : tn (nI d0) = d0 := tn_nI (by omega)
      obtain ⟨k0, bb_k0, ee_k0⟩ := i_nat (x := k) (N := 80001) (by omega) (by omega)
      subst ee_k0
      have tt_k0 : (nI k0).toInt = (k0 : Int) := nI_toInt (by omega)
      have nn_k0 : tn (nI k0) = k0 := tn_nI (by omega)
      refine aw_aload_n 1 dX8_since_32 rfl rfl ?_
      refine aw_get fX8_44 dX8_since_33 h0 rfl ?_
      refine aw_aload_n 1 dX8_since_36 rfl rfl ?_
      refine aw_get fX8_38 dX8_since_37 h0 rfl ?_
      refine aw_iload_n 2 dX8_since_40 rfl rfl ?_
      refine aw_iload_n 3 dX8_since_41 rfl rfl ?_
      refine aw_iload_n 4 dX8_since_42 rfl rfl ?_
      refine aw_eV [.ref (G.1 + 69), .int (nI t0), .int (nI d0), .int (nI k0)] [] lX8_197 vX2_heldSince mX2_heldSince dX8_since_43 (aX2_heldSince (th := th) (ot := ot) (dy := dy) (so := so) (kn := kn) (go := go) (od := od) (n := n) (wd := wd) (l0 := l0) (o0 := o0) (w0 := w0) (z0 := z0) (LE0 := LE0) (t := t0) (d := d0) (k := k0) h77 h78 h69 h70 h71 h72 h73 h74 h75 h76 (by omega) hod bth bkn bgo bdy bso (by omega) (by omega) (by omega)) h77 rfl rfl rfl (Nat.le_of_ble_eq_true rfl) (by decide) (by decide) rfl (fun h3903 q3902 => ?_)
      obtain ⟨l13897, o13898, w13899, z13900, LE13901, f3904, f3905, k3906⟩ := q3902
      have f3907 := rng_at k3906 (by decide) h0
      have f3908 := rng_at k3906 (by decide) h87
      have f3909 := rng_at k3906 (by decide) h69
      have f3910 := rng_at k3906 (by decide) h70
      have f3911 := rng_at k3906 (by decide) h71
      have f3912 := rng_at k3906 (by decide) h72
      have f3913 := rng_at k3906 (by decide) h73
      have f3914 := rng_at k3906 (by decide) h74
      have f3915 := rng_at k3906 (by decide) h75
      have f3916 := rng_at k3906 (by decide) h76
      subst hQF
      exact aw_iret rfl dX8_since_46 (by decide) (by decide) ⟨by rw [if_pos (by omega), if_pos c22, nn_t0, nn_d0, nn_k0], _, _, _, _, _, _, f3904, f3905, f3908, rg2_tr (rg2_rf 77 78 87 87 h) (rg2_w k3906 (by decide))⟩
    · have d22 := mt (j_eq (a := (dyF d k).toInt) (b := (0)) (rfl) (rfl)).mpr c22
      refine aw_aload_n 1 dX8_since_25 rfl rfl ?_
      refine aw_iload 0 dX8_since_26 rfl ?_
      obtain ⟨q3917, bq3917, eq3917⟩ := Or.resolve_left (dyF_q d k) (by assumption)
      refine aw_eV [.int (dyF d k)] [] lX8_70 vX8_refuse mX8_refuse dX8_since_28 (bX8_refuse (jv := jv) (bv := bv) (rf := rf) (x := (dyF d k)) (q := q3917) h0 h87 bq3917 eq3917) h0 rfl rfl rfl (Nat.le_of_ble_eq_true rfl) (by decide) (by decide) rfl (fun h3920 q3919 => ?_)
      obtain ⟨rf13918, f3921, k3922⟩ := q3919
      have f3923 := rng_at k3922 (by decide) h0
      have f3924 := rng_at k3922 (by decide) h77
      have f3925 := rng_at k3922 (by decide) h78
      have f3926 := rng_at k3922 (by decide) h69
      have f3927 := rng_at k3922 (by decide) h70
      have f3928 := rng_at k3922 (by decide) h71
      have f3929 := rng_at k3922 (by decide) h72
      have f3930 := rng_at k3922 (by decide) h73
      have f3931 := rng_at k3922 (by decide) h74
      have f3932 := rng_at k3922 (by decide) h75
      have f3933 := rng_at k3922 (by decide) h76
      subst hQF
      exact aw_iret rfl dX8_since_31 (by decide) (by decide) ⟨by rw [if_pos (by omega), if_neg c22], _, _, _, _, _, _, f3924, f3925, f3921, rg2_tr (rg2_rf 77 78 87 87 h) (rg2_w k3922 (by decide))⟩
  · have t4 := ite_0 c4
    refine aw_aload_n 0 dX8_since_7 rfl rfl ?_
    refine aw_iconst (-1) dX8_since_8 (by decide) ?_
    refine aw_eV [.int (-1)] [] lX8_70 vX8_refuse mX8_refuse dX8_since_9 (bX8_refuse (jv := jv) (bv := bv) (rf := rf) (x := (-1)) (q := 1) h0 h87 (by decide) (by decide)) h0 rfl rfl rfl (Nat.le_of_ble_eq_true rfl) (by decide) (by decide) rfl (fun h3936 q3935 => ?_)
    obtain ⟨rf13934, f3937, k3938⟩ := q3935
    have f3939 := rng_at k3938 (by decide) h0
    have f3940 := rng_at k3938 (by decide) h77
    have f3941 := rng_at k3938 (by decide) h78
    have f3942 := rng_at k3938 (by decide) h69
    have f3943 := rng_at k3938 (by decide) h70
    have f3944 := rng_at k3938 (by decide) h71
    have f3945 := rng_at k3938 (by decide) h72
    have f3946 := rng_at k3938 (by decide) h73
    have f3947 := rng_at k3938 (by decide) h74
    have f3948 := rng_at k3938 (by decide) h75
    have f3949 := rng_at k3938 (by decide) h76
    subst hQF
    exact aw_iret rfl dX8_since_12 (by decide) (by decide) ⟨by rw [if_neg (by omega)], _, _, _, _, _, _, f3940, f3941, f3937, rg2_tr (rg2_rf 77 78 87 87 h) (rg2_w k3938 (by decide))⟩
set_option maxHeartbeats 4000000 in
theorem oX8_count {l : Launch} {G : xG} {h : List va_E} {jv bv : Value} {rf : Nat → Int32} {fi : Nat → Nat} {nb sp fa ve n n2 n3 : Nat} {wd wd2 cn : Int32} {w : Int32} (h0 : h[0]? = some (oB 8 (lX G (jv) (bv)))) (h87 : h[87]? = some (aI 7 rf)) (h1 : h[1]? = some (oB 1 (lC G (nI nb) (nI sp) (nI fa) (nI ve)))) (h5 : h[5]? = some (aI 4 (nA fi))) (h61 : h[61]? = some (oB 5 (lR G 61 (nI n) wd))) (h69 : h[69]? = some (oB 5 (lR G 69 (nI n2) wd2))) (h79 : h[79]? = some (oB 6 (lS G (nI n3)))) (h84 : h[84]? = some (oB 0 (lB G cn))) (hfi : ∀ j, j < 4 → fi j < 11) : CU l G yX8_count cX8_count 2 (some .int) 3 0 0 [.ref (G.1 + 0), .int w] h (fun r h1 => h1 = h ∧ True) := by
  refine cm_ofQ rfl (Nat.le_of_ble_eq_true rfl) [(0, .ref (G.1 + 0)), (1, .int w)] rfl (fun QF hQF => ?_)
  refine aw_iload_n 1 dX8_count_0 rfl rfl ?_
  rcases (show w.toInt = 0 ∨ w.toInt = 1 ∨ w.toInt = 2 ∨ w.toInt = 3 ∨ w.toInt = 4 ∨ w.toInt = 5 ∨ w.toInt = 6 ∨ w.toInt = 7 ∨ w.toInt = 8 ∨ w.toInt = 9 ∨ (w.toInt < 0 ∨ 9 < w.toInt) by omega) with e0 | e0 | e0 | e0 | e0 | e0 | e0 | e0 | e0 | e0 | e0
  · obtain rfl : w = 0 := (i_eq _ _).mpr (e0.trans (show (0 : Int) = (0 : Int32).toInt from rfl))
    refine aw_tableIn 56 dX8_count_1 (by decide) (by decide) rfl (by decide) ?_
    refine aw_aload_n 0 dX8_count_56 rfl rfl ?_
    refine aw_get fX8_20 dX8_count_57 h0 rfl ?_
    refine aw_get fX8_91 dX8_count_60 h1 rfl ?_
    refine aw_iload_n 1 dX8_count_63 rfl rfl ?_
    refine aw_iald 0 (rfl) (by decide) (by decide) dX8_count_64 h5 ?_
    refine aw_toe (nI (fi 0)) (rfl) ?_
    have b3950 := hfi 0 (by omega)
    subst hQF
    exact aw_iret rfl dX8_count_65 (by decide) (by decide) ⟨_, rfl, rfl, trivial⟩
  · obtain rfl : w = 1 := (i_eq _ _).mpr (e0.trans (show (1 : Int) = (1 : Int32).toInt from rfl))
    refine aw_tableIn 56 dX8_count_1 (by decide) (by decide) rfl (by decide) ?_
    refine aw_aload_n 0 dX8_count_56 rfl rfl ?_
    refine aw_get fX8_20 dX8_count_57 h0 rfl ?_
    refine aw_get fX8_91 dX8_count_60 h1 rfl ?_
    refine aw_iload_n 1 dX8_count_63 rfl rfl ?_
    refine aw_iald 1 (rfl) (by decide) (by decide) dX8_count_64 h5 ?_
    refine aw_toe (nI (fi 1)) (rfl) ?_
    have b3951 := hfi 1 (by omega)
    subst hQF
    exact aw_iret rfl dX8_count_65 (by decide) (by decide) ⟨_, rfl, rfl, trivial⟩
  · obtain rfl : w = 2 := (i_eq _ _).mpr (e0.trans (show (2 : Int) = (2 : Int32).toInt from rfl))
    refine aw_tableIn 56 dX8_count_1 (by decide) (by decide) rfl (by decide) ?_
    refine aw_aload_n 0 dX8_count_56 rfl rfl ?_
    refine aw_get fX8_20 dX8_count_57 h0 rfl ?_
    refine aw_get fX8_91 dX8_count_60 h1 rfl ?_
    refine aw_iload_n 1 dX8_count_63 rfl rfl ?_
    refine aw_iald 2 (rfl) (by decide) (by decide) dX8_count_64 h5 ?_
    refine aw_toe (nI (fi 2)) (rfl) ?_
    have b3952 := hfi 2 (by omega)
    subst hQF
    exact aw_iret rfl dX8_count_65 (by decide) (by decide) ⟨_, rfl, rfl, trivial⟩
  · obtain rfl : w = 3 := (i_eq _ _).mpr (e0.trans (show (3 : Int) = (3 : Int32).toInt from rfl))
    refine aw_tableIn 56 dX8_count_1 (by decide) (by decide) rfl (by decide) ?_
    refine aw_aload_n 0 dX8_count_56 rfl rfl ?_
    refine aw_get fX8_20 dX8_count_57 h0 rfl ?_
    refine aw_get fX8_91 dX8_count_60 h1 rfl ?_
    refine aw_iload_n 1 dX8_count_63 rfl rfl ?_
    refine aw_iald 3 (rfl) (by decide) (by decide) dX8_count_64 h5 ?_
    refine aw_toe (nI (fi 3)) (rfl) ?_
    have b3953 := hfi 3 (by omega)
    subst hQF
    exact aw_iret rfl dX8_count_65 (by decide) (by decide) ⟨_, rfl, rfl, trivial⟩
  · obtain rfl : w = 4 := (i_eq _ _).mpr (e0.trans (show (4 : Int) = (4 : Int32).toInt from rfl))
    refine aw_tableIn 66 dX8_count_1 (by decide) (by decide) rfl (by decide) ?_
    refine aw_aload_n 0 dX8_count_66 rfl rfl ?_
    refine aw_get fX8_34 dX8_count_67 h0 rfl ?_
    refine aw_get fX8_160 dX8_count_70 h61 rfl ?_
    subst hQF
    exact aw_iret rfl dX8_count_73 (by decide) (by decide) ⟨_, rfl, rfl, trivial⟩
  · obtain rfl : w = 5 := (i_eq _ _).mpr (e0.trans (show (5 : Int) = (5 : Int32).toInt from rfl))
    refine aw_tableIn 74 dX8_count_1 (by decide) (by decide) rfl (by decide) ?_
    refine aw_aload_n 0 dX8_count_74 rfl rfl ?_
    refine aw_get fX8_38 dX8_count_75 h0 rfl ?_
    refine aw_get fX8_160 dX8_count_78 h69 rfl ?_
    subst hQF
    exact aw_iret rfl dX8_count_81 (by decide) (by decide) ⟨_, rfl, rfl, trivial⟩
  · obtain rfl : w = 6 := (i_eq _ _).mpr (e0.trans (show (6 : Int) = (6 : Int32).toInt from rfl))
    refine aw_tableIn 82 dX8_count_1 (by decide) (by decide) rfl (by decide) ?_
    refine aw_aload_n 0 dX8_count_82 rfl rfl ?_
    refine aw_get fX8_51 dX8_count_83 h0 rfl ?_
    refine aw_get fX8_204 dX8_count_86 h79 rfl ?_
    subst hQF
    exact aw_iret rfl dX8_count_89 (by decide) (by decide) ⟨_, rfl, rfl, trivial⟩
  · obtain rfl : w = 7 := (i_eq _ _).mpr (e0.trans (show (7 : Int) = (7 : Int32).toInt from rfl))
    refine aw_tableIn 90 dX8_count_1 (by decide) (by decide) rfl (by decide) ?_
    refine aw_aload_n 0 dX8_count_90 rfl rfl ?_
    refine aw_get fX8_20 dX8_count_91 h0 rfl ?_
    refine aw_get fX8_113 dX8_count_94 h1 rfl ?_
    subst hQF
    exact aw_iret rfl dX8_count_97 (by decide) (by decide) ⟨_, rfl, rfl, trivial⟩
  · obtain rfl : w = 8 := (i_eq _ _).mpr (e0.trans (show (8 : Int) = (8 : Int32).toInt from rfl))
    refine aw_tableIn 98 dX8_count_1 (by decide) (by decide) rfl (by decide) ?_
    refine aw_aload_n 0 dX8_count_98 rfl rfl ?_
    refine aw_get fX8_58 dX8_count_99 h0 rfl ?_
    refine aw_get fX8_240 dX8_count_102 h84 rfl ?_
    subst hQF
    exact aw_iret rfl dX8_count_105 (by decide) (by decide) ⟨_, rfl, rfl, trivial⟩
  · obtain rfl : w = 9 := (i_eq _ _).mpr (e0.trans (show (9 : Int) = (9 : Int32).toInt from rfl))
    refine aw_tableIn 106 dX8_count_1 (by decide) (by decide) rfl (by decide) ?_
    refine aw_aload_n 0 dX8_count_106 rfl rfl ?_
    refine aw_get fX8_34 dX8_count_107 h0 rfl ?_
    refine aw_get fX8_243 dX8_count_110 h61 rfl ?_
    refine aw_aload_n 0 dX8_count_113 rfl rfl ?_
    refine aw_get fX8_38 dX8_count_114 h0 rfl ?_
    refine aw_get fX8_243 dX8_count_117 h69 rfl ?_
    refine aw_iadd dX8_count_120 ?_
    subst hQF
    exact aw_iret rfl dX8_count_121 (by decide) (by decide) ⟨_, rfl, rfl, trivial⟩
  · refine aw_tableOut 122 dX8_count_1 (by omega) (by decide) ?_
    refine aw_iload_n 1 dX8_count_122 rfl rfl ?_
    refine aw_bipush (10) dX8_count_123 (by decide) ?_
    refine aw_icmp_le 146 dX8_count_125 (by decide) (fun c125 => ?_) (fun c125 => ?_)
    · have d125 := (j_le (a := w.toInt) (b := (10)) (rfl) (rfl)).mp c125
      refine aw_bipush (-9) dX8_count_146 (by decide) ?_
      subst hQF
      exact aw_iret rfl dX8_count_148 (by decide) (by decide) ⟨_, rfl, rfl, trivial⟩
    · have d125 := mt (j_le (a := w.toInt) (b := (10)) (rfl) (rfl)).mpr c125
      refine aw_iload_n 1 dX8_count_128 rfl rfl ?_
      refine aw_bipush (16) dX8_count_129 (by decide) ?_
      refine aw_icmp_gt 146 dX8_count_131 (by decide) (fun c131 => ?_) (fun c131 => ?_)
      · have d131 := (j_lt (a := (16)) (b := w.toInt) (rfl) (rfl)).mp c131
        refine aw_bipush (-9) dX8_count_146 (by decide) ?_
        subst hQF
        exact aw_iret rfl dX8_count_148 (by decide) (by decide) ⟨_, rfl, rfl, trivial⟩
      · have d131 := mt (j_lt (a := (16)) (b := w.toInt) (rfl) (rfl)).mpr c131
        obtain ⟨w0, bw, ew⟩ := i_nat (x := w) (N := 17) (by omega) (by omega)
        subst ew
        have tt9 : (nI w0).toInt = (w0 : Int) := nI_toInt (by omega)
        refine aw_aload_n 0 dX8_count_134 rfl rfl ?_
        refine aw_get fX8_62 dX8_count_135 h0 rfl ?_
        refine aw_iload_n 1 dX8_count_138 rfl rfl ?_
        refine aw_bipush (10) dX8_count_139 (by decide) ?_
        refine aw_isub dX8_count_141 ?_
        refine aw_toe (nI (w0 - 10)) (nv_sub (rfl) (rfl) (by omega)) ?_
        refine aw_iald (w0 - 10) (rfl) (by omega) (by decide) dX8_count_142 h87 ?_
        refine aw_goto 148 dX8_count_143 (by decide) ?_
        subst hQF
        exact aw_iret rfl dX8_count_148 (by decide) (by decide) ⟨_, rfl, rfl, trivial⟩
set_option maxHeartbeats 4000000 in
theorem oX9_count {l : Launch} {G : xG} {h : List va_E} {sp fa nb ns nm nv sh : Nat} {ho ow sl : Int32} {rg : Nat → Int32} {fi : Nat → Nat} {g1 g2 cl : Nat → Int32} {w : Int32} (h88 : h[88]? = some (oB 9 (lM G (nI sp) (nI fa) (nI nb) (nI ns) (nI nm) ho ow sl (nI nv) (nI sh)))) (h89 : h[89]? = some (aI 7 rg)) (h92 : h[92]? = some (aI 4 (nA fi))) (h107 : h[107]? = some (aI 60 g1)) (h113 : h[113]? = some (aI 60 g2)) (h124 : h[124]? = some (aZ 36 cl)) (hfi : ∀ j, j < 4 → fi j < 11) (hns : ns ≤ 60) (hnm : nm ≤ 60) : CU l G yX9_count cX9_count 5 (some .int) 2 0 0 [.ref (G.1 + 88), .int w] h (fun r h1 => h1 = h ∧ True) := by
  refine cm_ofQ rfl (Nat.le_of_ble_eq_true rfl) [(0, .ref (G.1 + 88)), (1, .int w)] rfl (fun QF hQF => ?_)
  refine aw_iload_n 1 dX9_count_0 rfl rfl ?_
  refine aw_bipush (10) dX9_count_1 (by decide) ?_
  refine aw_icmp_le 22 dX9_count_3 (by decide) (fun c3 => ?_) (fun c3 => ?_)
  · have d3 := (j_le (a := w.toInt) (b := (10)) (rfl) (rfl)).mp c3
    refine aw_iload_n 1 dX9_count_22 rfl rfl ?_
    refine aw_iconst (4) dX9_count_23 (by decide) ?_
    refine aw_dS [.int w, .int 4] [] lX9_126 sX9_isIn mX9_isIn dX9_count_24 (bX9_isIn (x := w) (n := 4) (by omega)) rfl (Nat.le_of_ble_eq_true rfl) (by decide) (by decide) rfl ?_
    refine aw_if_eq 37 dX9_count_27 (by decide) (fun c27 => ?_) (fun c27 => ?_)
    · have t27 := ite_0 c27
      refine aw_iconst (0) dX9_count_37 (by decide) ?_
      refine aw_istore_n [(2, .int 0), (0, .ref (G.1 + 88)), (1, .int w)] dX9_count_38 rfl (by decide) rfl ?_
      refine aw_iload_n 2 dX9_count_39 rfl rfl ?_
      rcases (show w.toInt = 4 ∨ w.toInt = 5 ∨ w.toInt = 6 ∨ w.toInt = 7 ∨ w.toInt = 8 ∨ w.toInt = 9 ∨ (w.toInt < 4 ∨ 9 < w.toInt) by omega) with e0 | e0 | e0 | e0 | e0 | e0 | e0
      · obtain rfl : w = 4 := (i_eq _ _).mpr (e0.trans (show (4 : Int) = (4 : Int32).toInt from rfl))
        refine aw_tableIn 80 dX9_count_40 (by decide) (by decide) rfl (by decide) ?_
        refine aw_aload_n 1 dX9_count_80 rfl rfl ?_
        refine aw_get fX9_198 dX9_count_81 h88 rfl ?_
        subst hQF
        exact aw_iret rfl dX9_count_84 (by decide) (by decide) ⟨_, rfl, rfl, trivial⟩
      · obtain rfl : w = 5 := (i_eq _ _).mpr (e0.trans (show (5 : Int) = (5 : Int32).toInt from rfl))
        refine aw_tableIn 85 dX9_count_40 (by decide) (by decide) rfl (by decide) ?_
        refine aw_aload_n 1 dX9_count_85 rfl rfl ?_
        refine aw_get fX9_202 dX9_count_86 h88 rfl ?_
        subst hQF
        exact aw_iret rfl dX9_count_89 (by decide) (by decide) ⟨_, rfl, rfl, trivial⟩
      · obtain rfl : w = 6 := (i_eq _ _).mpr (e0.trans (show (6 : Int) = (6 : Int32).toInt from rfl))
        refine aw_tableIn 90 dX9_count_40 (by decide) (by decide) rfl (by decide) ?_
        refine aw_aload_n 1 dX9_count_90 rfl rfl ?_
        refine aw_get fX9_227 dX9_count_91 h88 rfl ?_
        subst hQF
        exact aw_iret rfl dX9_count_94 (by decide) (by decide) ⟨_, rfl, rfl, trivial⟩
      · obtain rfl : w = 7 := (i_eq _ _).mpr (e0.trans (show (7 : Int) = (7 : Int32).toInt from rfl))
        refine aw_tableIn 95 dX9_count_40 (by decide) (by decide) rfl (by decide) ?_
        refine aw_aload_n 1 dX9_count_95 rfl rfl ?_
        refine aw_get fX9_142 dX9_count_96 h88 rfl ?_
        subst hQF
        exact aw_iret rfl dX9_count_99 (by decide) (by decide) ⟨_, rfl, rfl, trivial⟩
      · obtain rfl : w = 8 := (i_eq _ _).mpr (e0.trans (show (8 : Int) = (8 : Int32).toInt from rfl))
        refine aw_tableIn 100 dX9_count_40 (by decide) (by decide) rfl (by decide) ?_
        refine aw_iconst (0) dX9_count_100 (by decide) ?_
        refine aw_istore_n [(3, .int 0), (2, .int 0), (0, .ref (G.1 + 88)), (1, .int 8)] dX9_count_101 rfl (by decide) rfl ?_
        refine aw_lv [(3, .int 0), (2, .int 0), (0, .ref (G.1 + 88))] [0, 1, 2] rfl ?_
        suffices L3954 : ∀ (mm : Nat) (x : Nat) (cv : Int32), 6 - x < mm → (x ≤ 6) → AW l G yX9_count cX9_count 5 (some .int) (xR 2 0 0) (fun _ _ => True) QF 0 0 102 [(3, .int (nI x)), (2, .int cv), (0, .ref (G.1 + 88))] [] h from L3954 (6 - 0 + 1) 0 0 (Nat.lt_succ_self _) (Nat.zero_le _)
        intro mm
        induction mm with
        | zero =>
          intro x cv hmm hx
          exact absurd hmm (Nat.not_lt_zero _)
        | succ mm ih3954 =>
          intro x cv hmm hx
          refine aw_iload_n 0 dX9_count_102 rfl rfl ?_
          refine aw_bipush (6) dX9_count_103 (by decide) ?_
          refine aw_icmp_ge 152 dX9_count_105 (by decide) (fun c105 => ?_) (fun c105 => ?_)
          · have d105 := (nv_le (a := 6) (b := x) (rfl) (rfl) (by omega) (by omega)).mp c105
            refine aw_iload_n 1 dX9_count_152 rfl rfl ?_
            subst hQF
            exact aw_iret rfl dX9_count_153 (by decide) (by decide) ⟨_, rfl, rfl, trivial⟩
          · have d105 := mt (nv_le (a := 6) (b := x) (rfl) (rfl) (by omega) (by omega)).mpr c105
            refine aw_iconst (0) dX9_count_108 (by decide) ?_
            refine aw_istore [(4, .int 0), (3, .int (nI x)), (2, .int cv), (0, .ref (G.1 + 88))] dX9_count_109 (by decide) rfl ?_
            refine aw_lv [(4, .int 0), (3, .int (nI x)), (2, .int cv), (0, .ref (G.1 + 88))] [0, 1, 2, 3] rfl ?_
            suffices L3955 : ∀ (mm : Nat) (y : Nat) (cv2 : Int32), x - y < mm → (y ≤ x) → AW l G yX9_count cX9_count 5 (some .int) (xR 2 0 0) (fun _ _ => True) QF 0 0 111 [(4, .int (nI y)), (3, .int (nI x)), (2, .int cv2), (0, .ref (G.1 + 88))] [] h from L3955 (x - 0 + 1) 0 cv (Nat.lt_succ_self _) (Nat.zero_le _)
            intro mm
            induction mm with
            | zero =>
              intro y cv2 hmm hy
              exact absurd hmm (Nat.not_lt_zero _)
            | succ mm ih3955 =>
              intro y cv2 hmm hy
              refine aw_iload 0 dX9_count_111 rfl ?_
              refine aw_iload_n 1 dX9_count_113 rfl rfl ?_
              refine aw_icmp_ge 146 dX9_count_114 (by decide) (fun c114 => ?_) (fun c114 => ?_)
              · have d114 := (nv_le (a := x) (b := y) (rfl) (rfl) (by omega) (by omega)).mp c114
                refine aw_iinc (j := 1) (nI (x + 1)) [(3, .int (nI (x + 1))), (4, .int (nI y)), (2, .int cv2), (0, .ref (G.1 + 88))] dX9_count_146 rfl (nv_inc (rfl)) (by decide) rfl ?_
                refine aw_goto 102 dX9_count_149 (by decide) ?_
                refine aw_lv [(3, .int (nI (x + 1))), (2, .int cv2), (0, .ref (G.1 + 88))] [0, 2, 3] rfl ?_
                exact ih3954 (x + 1) cv2 (by omega) (by omega)
              · have d114 := mt (nv_le (a := x) (b := y) (rfl) (rfl) (by omega) (by omega)).mpr c114
                refine aw_iload_n 2 dX9_count_117 rfl rfl ?_
                refine aw_aload_n 3 dX9_count_118 rfl rfl ?_
                refine aw_get fX9_122 dX9_count_119 h88 rfl ?_
                refine aw_bipush (6) dX9_count_122 (by decide) ?_
                refine aw_iload_n 1 dX9_count_124 rfl rfl ?_
                refine aw_imul dX9_count_125 ?_
                refine aw_toe (nI (6 * x)) (nv_mul (rfl) (rfl)) ?_
                refine aw_iload 0 dX9_count_126 rfl ?_
                refine aw_iadd dX9_count_128 ?_
                refine aw_toe (nI ((6 * x) + y)) (nv_add (rfl) (rfl)) ?_
                refine aw_zald ((6 * x) + y) (rfl) (by omega) (by decide) dX9_count_129 h124 ?_
                refine aw_if_eq 137 dX9_count_130 (by decide) (fun c130 => ?_) (fun c130 => ?_)
                · have d130 := (j_eq (a := (cl ((6 * x) + y)).toInt) (b := (0)) (rfl) (rfl)).mp c130
                  refine aw_iconst (0) dX9_count_137 (by decide) ?_
                  refine aw_iadd dX9_count_138 ?_
                  refine aw_istore_n [(2, .int (cv2 + 0)), (4, .int (nI y)), (3, .int (nI x)), (0, .ref (G.1 + 88))] dX9_count_139 rfl (by decide) rfl ?_
                  refine aw_iinc (j := 1) (nI (y + 1)) [(4, .int (nI (y + 1))), (2, .int (cv2 + 0)), (3, .int (nI x)), (0, .ref (G.1 + 88))] dX9_count_140 rfl (nv_inc (rfl)) (by decide) rfl ?_
                  refine aw_goto 111 dX9_count_143 (by decide) ?_
                  refine aw_lv [(4, .int (nI (y + 1))), (3, .int (nI x)), (2, .int (cv2 + 0)), (0, .ref (G.1 + 88))] [0, 2, 1, 3] rfl ?_
                  exact ih3955 (y + 1) (cv2 + 0) (by omega) (by omega)
                · have d130 := mt (j_eq (a := (cl ((6 * x) + y)).toInt) (b := (0)) (rfl) (rfl)).mpr c130
                  refine aw_iconst (1) dX9_count_133 (by decide) ?_
                  refine aw_goto 138 dX9_count_134 (by decide) ?_
                  refine aw_iadd dX9_count_138 ?_
                  refine aw_istore_n [(2, .int (cv2 + 1)), (4, .int (nI y)), (3, .int (nI x)), (0, .ref (G.1 + 88))] dX9_count_139 rfl (by decide) rfl ?_
                  refine aw_iinc (j := 1) (nI (y + 1)) [(4, .int (nI (y + 1))), (2, .int (cv2 + 1)), (3, .int (nI x)), (0, .ref (G.1 + 88))] dX9_count_140 rfl (nv_inc (rfl)) (by decide) rfl ?_
                  refine aw_goto 111 dX9_count_143 (by decide) ?_
                  refine aw_lv [(4, .int (nI (y + 1))), (3, .int (nI x)), (2, .int (cv2 + 1)), (0, .ref (G.1 + 88))] [0, 2, 1, 3] rfl ?_
                  exact ih3955 (y + 1) (cv2 + 1) (by omega) (by omega)
      · obtain rfl : w = 9 := (i_eq _ _).mpr (e0.trans (show (9 : Int) = (9 : Int32).toInt from rfl))
        refine aw_tableIn 154 dX9_count_40 (by decide) (by decide) rfl (by decide) ?_
        refine aw_iconst (0) dX9_count_154 (by decide) ?_
        refine aw_istore_n [(3, .int 0), (2, .int 0), (0, .ref (G.1 + 88)), (1, .int 9)] dX9_count_155 rfl (by decide) rfl ?_
        refine aw_lv [(3, .int 0), (2, .int 0), (0, .ref (G.1 + 88))] [0, 1, 2] rfl ?_
        suffices L3956 : ∀ (mm : Nat) (x : Nat) (cv3 : Int32), ns - x < mm → (x ≤ ns) → AW l G yX9_count cX9_count 5 (some .int) (xR 2 0 0) (fun _ _ => True) QF 0 0 156 [(3, .int (nI x)), (2, .int cv3), (0, .ref (G.1 + 88))] [] h from L3956 (ns - 0 + 1) 0 0 (Nat.lt_succ_self _) (Nat.zero_le _)
        intro mm
        induction mm with
        | zero =>
          intro x cv3 hmm hx3
          exact absurd hmm (Nat.not_lt_zero _)
        | succ mm ih3956 =>
          intro x cv3 hmm hx3
          refine aw_iload_n 0 dX9_count_156 rfl rfl ?_
          refine aw_aload_n 2 dX9_count_157 rfl rfl ?_
          refine aw_get fX9_198 dX9_count_158 h88 rfl ?_
          refine aw_icmp_ge 189 dX9_count_161 (by decide) (fun c161 => ?_) (fun c161 => ?_)
          · have d161 := (nv_le (a := ns) (b := x) (rfl) (rfl) (by omega) (by omega)).mp c161
            refine aw_iconst (0) dX9_count_189 (by decide) ?_
            refine aw_istore_n [(3, .int 0), (2, .int cv3), (0, .ref (G.1 + 88))] dX9_count_190 rfl (by decide) rfl ?_
            refine aw_lv [(3, .int 0), (2, .int cv3), (0, .ref (G.1 + 88))] [0, 1, 2] rfl ?_
            suffices L3957 : ∀ (mm : Nat) (x : Nat) (cv4 : Int32), nm - x < mm → (x ≤ nm) → AW l G yX9_count cX9_count 5 (some .int) (xR 2 0 0) (fun _ _ => True) QF 0 0 191 [(3, .int (nI x)), (2, .int cv4), (0, .ref (G.1 + 88))] [] h from L3957 (nm - 0 + 1) 0 cv3 (Nat.lt_succ_self _) (Nat.zero_le _)
            intro mm
            induction mm with
            | zero =>
              intro x cv4 hmm hx4
              exact absurd hmm (Nat.not_lt_zero _)
            | succ mm ih3957 =>
              intro x cv4 hmm hx4
              refine aw_iload_n 0 dX9_count_191 rfl rfl ?_
              refine aw_aload_n 2 dX9_count_192 rfl rfl ?_
              refine aw_get fX9_202 dX9_count_193 h88 rfl ?_
              refine aw_icmp_ge 224 dX9_count_196 (by decide) (fun c196 => ?_) (fun c196 => ?_)
              · have d196 := (nv_le (a := nm) (b := x) (rfl) (rfl) (by omega) (by omega)).mp c196
                refine aw_iload_n 1 dX9_count_224 rfl rfl ?_
                subst hQF
                exact aw_iret rfl dX9_count_225 (by decide) (by decide) ⟨_, rfl, rfl, trivial⟩
              · have d196 := mt (nv_le (a := nm) (b := x) (rfl) (rfl) (by omega) (by omega)).mpr c196
                refine aw_iload_n 1 dX9_count_199 rfl rfl ?_
                refine aw_aload_n 2 dX9_count_200 rfl rfl ?_
                refine aw_get fX9_89 dX9_count_201 h88 rfl ?_
                refine aw_iload_n 0 dX9_count_204 rfl rfl ?_
                refine aw_iald x (rfl) (by omega) (by decide) dX9_count_205 h113 ?_
                refine aw_ldc (1000000000) kX9_201 dX9_count_206 ?_
                refine aw_icmp_ge 215 dX9_count_208 (by decide) (fun c208 => ?_) (fun c208 => ?_)
                · have d208 := (j_le (a := (1000000000)) (b := (g2 x).toInt) (rfl) (rfl)).mp c208
                  refine aw_iconst (0) dX9_count_215 (by decide) ?_
                  refine aw_iadd dX9_count_216 ?_
                  refine aw_istore_n [(2, .int (cv4 + 0)), (3, .int (nI x)), (0, .ref (G.1 + 88))] dX9_count_217 rfl (by decide) rfl ?_
                  refine aw_iinc (j := 1) (nI (x + 1)) [(3, .int (nI (x + 1))), (2, .int (cv4 + 0)), (0, .ref (G.1 + 88))] dX9_count_218 rfl (nv_inc (rfl)) (by decide) rfl ?_
                  refine aw_goto 191 dX9_count_221 (by decide) ?_
                  refine aw_lv [(3, .int (nI (x + 1))), (2, .int (cv4 + 0)), (0, .ref (G.1 + 88))] [0, 1, 2] rfl ?_
                  exact ih3957 (x + 1) (cv4 + 0) (by omega) (by omega)
                · have d208 := mt (j_le (a := (1000000000)) (b := (g2 x).toInt) (rfl) (rfl)).mpr c208
                  refine aw_iconst (1) dX9_count_211 (by decide) ?_
                  refine aw_goto 216 dX9_count_212 (by decide) ?_
                  refine aw_iadd dX9_count_216 ?_
                  refine aw_istore_n [(2, .int (cv4 + 1)), (3, .int (nI x)), (0, .ref (G.1 + 88))] dX9_count_217 rfl (by decide) rfl ?_
                  refine aw_iinc (j := 1) (nI (x + 1)) [(3, .int (nI (x + 1))), (2, .int (cv4 + 1)), (0, .ref (G.1 + 88))] dX9_count_218 rfl (nv_inc (rfl)) (by decide) rfl ?_
                  refine aw_goto 191 dX9_count_221 (by decide) ?_
                  refine aw_lv [(3, .int (nI (x + 1))), (2, .int (cv4 + 1)), (0, .ref (G.1 + 88))] [0, 1, 2] rfl ?_
                  exact ih3957 (x + 1) (cv4 + 1) (by omega) (by omega)
          · have d161 := mt (nv_le (a := ns) (b := x) (rfl) (rfl) (by omega) (by omega)).mpr c161
            refine aw_iload_n 1 dX9_count_164 rfl rfl ?_
            refine aw_aload_n 2 dX9_count_165 rfl rfl ?_
            refine aw_get fX9_71 dX9_count_166 h88 rfl ?_
            refine aw_iload_n 0 dX9_count_169 rfl rfl ?_
            refine aw_iald x (rfl) (by omega) (by decide) dX9_count_170 h107 ?_
            refine aw_ldc (1000000000) kX9_201 dX9_count_171 ?_
            refine aw_icmp_ge 180 dX9_count_173 (by decide) (fun c173 => ?_) (fun c173 => ?_)
            · have d173 := (j_le (a := (1000000000)) (b := (g1 x).toInt) (rfl) (rfl)).mp c173
              refine aw_iconst (0) dX9_count_180 (by decide) ?_
              refine aw_iadd dX9_count_181 ?_
              refine aw_istore_n [(2, .int (cv3 + 0)), (3, .int (nI x)), (0, .ref (G.1 + 88))] dX9_count_182 rfl (by decide) rfl ?_
              refine aw_iinc (j := 1) (nI (x + 1)) [(3, .int (nI (x + 1))), (2, .int (cv3 + 0)), (0, .ref (G.1 + 88))] dX9_count_183 rfl (nv_inc (rfl)) (by decide) rfl ?_
              refine aw_goto 156 dX9_count_186 (by decide) ?_
              refine aw_lv [(3, .int (nI (x + 1))), (2, .int (cv3 + 0)), (0, .ref (G.1 + 88))] [0, 1, 2] rfl ?_
              exact ih3956 (x + 1) (cv3 + 0) (by omega) (by omega)
            · have d173 := mt (j_le (a := (1000000000)) (b := (g1 x).toInt) (rfl) (rfl)).mpr c173
              refine aw_iconst (1) dX9_count_176 (by decide) ?_
              refine aw_goto 181 dX9_count_177 (by decide) ?_
              refine aw_iadd dX9_count_181 ?_
              refine aw_istore_n [(2, .int (cv3 + 1)), (3, .int (nI x)), (0, .ref (G.1 + 88))] dX9_count_182 rfl (by decide) rfl ?_
              refine aw_iinc (j := 1) (nI (x + 1)) [(3, .int (nI (x + 1))), (2, .int (cv3 + 1)), (0, .ref (G.1 + 88))] dX9_count_183 rfl (nv_inc (rfl)) (by decide) rfl ?_
              refine aw_goto 156 dX9_count_186 (by decide) ?_
              refine aw_lv [(3, .int (nI (x + 1))), (2, .int (cv3 + 1)), (0, .ref (G.1 + 88))] [0, 1, 2] rfl ?_
              exact ih3956 (x + 1) (cv3 + 1) (by omega) (by omega)
      · refine aw_tableOut 226 dX9_count_40 (by omega) (by decide) ?_
        refine aw_bipush (-9) dX9_count_226 (by decide) ?_
        subst hQF
        exact aw_iret rfl dX9_count_228 (by decide) (by decide) ⟨_, rfl, rfl, trivial⟩
    · have t27 := ite_1 c27
      obtain ⟨w0, bb_w0, ee_w0⟩ := i_nat (x := w) (N := 4) (by omega) (by omega)
      subst ee_w0
      have tt_w0 : (nI w0).toInt = (w0 : Int) := nI_toInt (by omega)
      have nn_w0 : tn (nI w0) = w0 := tn_nI (by omega)
      refine aw_aload_n 0 dX9_count_30 rfl rfl ?_
      refine aw_get fX9_19 dX9_count_31 h88 rfl ?_
      refine aw_iload_n 1 dX9_count_34 rfl rfl ?_
      refine aw_iald w0 (rfl) (by omega) (by decide) dX9_count_35 h92 ?_
      refine aw_toe (nI (fi w0)) (rfl) ?_
      have b3958 := hfi w0 (by omega)
      subst hQF
      exact aw_iret rfl dX9_count_36 (by decide) (by decide) ⟨_, rfl, rfl, trivial⟩
  · have d3 := mt (j_le (a := w.toInt) (b := (10)) (rfl) (rfl)).mpr c3
    refine aw_iload_n 1 dX9_count_6 rfl rfl ?_
    refine aw_bipush (17) dX9_count_7 (by decide) ?_
    refine aw_icmp_ge 22 dX9_count_9 (by decide) (fun c9 => ?_) (fun c9 => ?_)
    · have d9 := (j_le (a := (17)) (b := w.toInt) (rfl) (rfl)).mp c9
      refine aw_iload_n 1 dX9_count_22 rfl rfl ?_
      refine aw_iconst (4) dX9_count_23 (by decide) ?_
      refine aw_dS [.int w, .int 4] [] lX9_126 sX9_isIn mX9_isIn dX9_count_24 (bX9_isIn (x := w) (n := 4) (by omega)) rfl (Nat.le_of_ble_eq_true rfl) (by decide) (by decide) rfl ?_
      refine aw_if_eq 37 dX9_count_27 (by decide) (fun c27 => ?_) (fun c27 => ?_)
      · have t27 := ite_0 c27
        refine aw_iconst (0) dX9_count_37 (by decide) ?_
        refine aw_istore_n [(2, .int 0), (0, .ref (G.1 + 88)), (1, .int w)] dX9_count_38 rfl (by decide) rfl ?_
        refine aw_iload_n 2 dX9_count_39 rfl rfl ?_
        rcases (show w.toInt = 4 ∨ w.toInt = 5 ∨ w.toInt = 6 ∨ w.toInt = 7 ∨ w.toInt = 8 ∨ w.toInt = 9 ∨ (w.toInt < 4 ∨ 9 < w.toInt) by omega) with e0 | e0 | e0 | e0 | e0 | e0 | e0
        · obtain rfl : w = 4 := (i_eq _ _).mpr (e0.trans (show (4 : Int) = (4 : Int32).toInt from rfl))
          refine aw_tableIn 80 dX9_count_40 (by decide) (by decide) rfl (by decide) ?_
          refine aw_aload_n 1 dX9_count_80 rfl rfl ?_
          refine aw_get fX9_198 dX9_count_81 h88 rfl ?_
          subst hQF
          exact aw_iret rfl dX9_count_84 (by decide) (by decide) ⟨_, rfl, rfl, trivial⟩
        · obtain rfl : w = 5 := (i_eq _ _).mpr (e0.trans (show (5 : Int) = (5 : Int32).toInt from rfl))
          refine aw_tableIn 85 dX9_count_40 (by decide) (by decide) rfl (by decide) ?_
          refine aw_aload_n 1 dX9_count_85 rfl rfl ?_
          refine aw_get fX9_202 dX9_count_86 h88 rfl ?_
          subst hQF
          exact aw_iret rfl dX9_count_89 (by decide) (by decide) ⟨_, rfl, rfl, trivial⟩
        · obtain rfl : w = 6 := (i_eq _ _).mpr (e0.trans (show (6 : Int) = (6 : Int32).toInt from rfl))
          refine aw_tableIn 90 dX9_count_40 (by decide) (by decide) rfl (by decide) ?_
          refine aw_aload_n 1 dX9_count_90 rfl rfl ?_
          refine aw_get fX9_227 dX9_count_91 h88 rfl ?_
          subst hQF
          exact aw_iret rfl dX9_count_94 (by decide) (by decide) ⟨_, rfl, rfl, trivial⟩
        · obtain rfl : w = 7 := (i_eq _ _).mpr (e0.trans (show (7 : Int) = (7 : Int32).toInt from rfl))
          refine aw_tableIn 95 dX9_count_40 (by decide) (by decide) rfl (by decide) ?_
          refine aw_aload_n 1 dX9_count_95 rfl rfl ?_
          refine aw_get fX9_142 dX9_count_96 h88 rfl ?_
          subst hQF
          exact aw_iret rfl dX9_count_99 (by decide) (by decide) ⟨_, rfl, rfl, trivial⟩
        · obtain rfl : w = 8 := (i_eq _ _).mpr (e0.trans (show (8 : Int) = (8 : Int32).toInt from rfl))
          refine aw_tableIn 100 dX9_count_40 (by decide) (by decide) rfl (by decide) ?_
          refine aw_iconst (0) dX9_count_100 (by decide) ?_
          refine aw_istore_n [(3, .int 0), (2, .int 0), (0, .ref (G.1 + 88)), (1, .int 8)] dX9_count_101 rfl (by decide) rfl ?_
          refine aw_lv [(3, .int 0), (2, .int 0), (0, .ref (G.1 + 88))] [0, 1, 2] rfl ?_
          suffices L3959 : ∀ (mm : Nat) (x : Nat) (cv : Int32), 6 - x < mm → (x ≤ 6) → AW l G yX9_count cX9_count 5 (some .int) (xR 2 0 0) (fun _ _ => True) QF 0 0 102 [(3, .int (nI x)), (2, .int cv), (0, .ref (G.1 + 88))] [] h from L3959 (6 - 0 + 1) 0 0 (Nat.lt_succ_self _) (Nat.zero_le _)
          intro mm
          induction mm with
          | zero =>
            intro x cv hmm hx
            exact absurd hmm (Nat.not_lt_zero _)
          | succ mm ih3959 =>
            intro x cv hmm hx
            refine aw_iload_n 0 dX9_count_102 rfl rfl ?_
            refine aw_bipush (6) dX9_count_103 (by decide) ?_
            refine aw_icmp_ge 152 dX9_count_105 (by decide) (fun c105 => ?_) (fun c105 => ?_)
            · have d105 := (nv_le (a := 6) (b := x) (rfl) (rfl) (by omega) (by omega)).mp c105
              refine aw_iload_n 1 dX9_count_152 rfl rfl ?_
              subst hQF
              exact aw_iret rfl dX9_count_153 (by decide) (by decide) ⟨_, rfl, rfl, trivial⟩
            · have d105 := mt (nv_le (a := 6) (b := x) (rfl) (rfl) (by omega) (by omega)).mpr c105
              refine aw_iconst (0) dX9_count_108 (by decide) ?_
              refine aw_istore [(4, .int 0), (3, .int (nI x)), (2, .int cv), (0, .ref (G.1 + 88))] dX9_count_109 (by decide) rfl ?_
              refine aw_lv [(4, .int 0), (3, .int (nI x)), (2, .int cv), (0, .ref (G.1 + 88))] [0, 1, 2, 3] rfl ?_
              suffices L3960 : ∀ (mm : Nat) (y : Nat) (cv2 : Int32), x - y < mm → (y ≤ x) → AW l G yX9_count cX9_count 5 (some .int) (xR 2 0 0) (fun _ _ => True) QF 0 0 111 [(4, .int (nI y)), (3, .int (nI x)), (2, .int cv2), (0, .ref (G.1 + 88))] [] h from L3960 (x - 0 + 1) 0 cv (Nat.lt_succ_self _) (Nat.zero_le _)
              intro mm
              induction mm with
              | zero =>
                intro y cv2 hmm hy
                exact absurd hmm (Nat.not_lt_zero _)
              | succ mm ih3960 =>
                intro y cv2 hmm hy
                refine aw_iload 0 dX9_count_111 rfl ?_
                refine aw_iload_n 1 dX9_count_113 rfl rfl ?_
                refine aw_icmp_ge 146 dX9_count_114 (by decide) (fun c114 => ?_) (fun c114 => ?_)
                · have d114 := (nv_le (a := x) (b := y) (rfl) (rfl) (by omega) (by omega)).mp c114
                  refine aw_iinc (j := 1) (nI (x + 1)) [(3, .int (nI (x + 1))), (4, .int (nI y)), (2, .int cv2), (0, .ref (G.1 + 88))] dX9_count_146 rfl (nv_inc (rfl)) (by decide) rfl ?_
                  refine aw_goto 102 dX9_count_149 (by decide) ?_
                  refine aw_lv [(3, .int (nI (x + 1))), (2, .int cv2), (0, .ref (G.1 + 88))] [0, 2, 3] rfl ?_
                  exact ih3959 (x + 1) cv2 (by omega) (by omega)
                · have d114 := mt (nv_le (a := x) (b := y) (rfl) (rfl) (by omega) (by omega)).mpr c114
                  refine aw_iload_n 2 dX9_count_117 rfl rfl ?_
                  refine aw_aload_n 3 dX9_count_118 rfl rfl ?_
                  refine aw_get fX9_122 dX9_count_119 h88 rfl ?_
                  refine aw_bipush (6) dX9_count_122 (by decide) ?_
                  refine aw_iload_n 1 dX9_count_124 rfl rfl ?_
                  refine aw_imul dX9_count_125 ?_
                  refine aw_toe (nI (6 * x)) (nv_mul (rfl) (rfl)) ?_
                  refine aw_iload 0 dX9_count_126 rfl ?_
                  refine aw_iadd dX9_count_128 ?_
                  refine aw_toe (nI ((6 * x) + y)) (nv_add (rfl) (rfl)) ?_
                  refine aw_zald ((6 * x) + y) (rfl) (by omega) (by decide) dX9_count_129 h124 ?_
                  refine aw_if_eq 137 dX9_count_130 (by decide) (fun c130 => ?_) (fun c130 => ?_)
                  · have d130 := (j_eq (a := (cl ((6 * x) + y)).toInt) (b := (0)) (rfl) (rfl)).mp c130
                    refine aw_iconst (0) dX9_count_137 (by decide) ?_
                    refine aw_iadd dX9_count_138 ?_
                    refine aw_istore_n [(2, .int (cv2 + 0)), (4, .int (nI y)), (3, .int (nI x)), (0, .ref (G.1 + 88))] dX9_count_139 rfl (by decide) rfl ?_
                    refine aw_iinc (j := 1) (nI (y + 1)) [(4, .int (nI (y + 1))), (2, .int (cv2 + 0)), (3, .int (nI x)), (0, .ref (G.1 + 88))] dX9_count_140 rfl (nv_inc (rfl)) (by decide) rfl ?_
                    refine aw_goto 111 dX9_count_143 (by decide) ?_
                    refine aw_lv [(4, .int (nI (y + 1))), (3, .int (nI x)), (2, .int (cv2 + 0)), (0, .ref (G.1 + 88))] [0, 2, 1, 3] rfl ?_
                    exact ih3960 (y + 1) (cv2 + 0) (by omega) (by omega)
                  · have d130 := mt (j_eq (a := (cl ((6 * x) + y)).toInt) (b := (0)) (rfl) (rfl)).mpr c130
                    refine aw_iconst (1) dX9_count_133 (by decide) ?_
                    refine aw_goto 138 dX9_count_134 (by decide) ?_
                    refine aw_iadd dX9_count_138 ?_
                    refine aw_istore_n [(2, .int (cv2 + 1)), (4, .int (nI y)), (3, .int (nI x)), (0, .ref (G.1 + 88))] dX9_count_139 rfl (by decide) rfl ?_
                    refine aw_iinc (j := 1) (nI (y + 1)) [(4, .int (nI (y + 1))), (2, .int (cv2 + 1)), (3, .int (nI x)), (0, .ref (G.1 + 88))] dX9_count_140 rfl (nv_inc (rfl)) (by decide) rfl ?_
                    refine aw_goto 111 dX9_count_143 (by decide) ?_
                    refine aw_lv [(4, .int (nI (y + 1))), (3, .int (nI x)), (2, .int (cv2 + 1)), (0, .ref (G.1 + 88))] [0, 2, 1, 3] rfl ?_
                    exact ih3960 (y + 1) (cv2 + 1) (by omega) (by omega)
        · obtain rfl : w = 9 := (i_eq _ _).mpr (e0.trans (show (9 : Int) = (9 : Int32).toInt from rfl))
          refine aw_tableIn 154 dX9_count_40 (by decide) (by decide) rfl (by decide) ?_
          refine aw_iconst (0) dX9_count_154 (by decide) ?_
          refine aw_istore_n [(3, .int 0), (2, .int 0), (0, .ref (G.1 + 88)), (1, .int 9)] dX9_count_155 rfl (by decide) rfl ?_
          refine aw_lv [(3, .int 0), (2, .int 0), (0, .ref (G.1 + 88))] [0, 1, 2] rfl ?_
          suffices L3961 : ∀ (mm : Nat) (x : Nat) (cv3 : Int32), ns - x < mm → (x ≤ ns) → AW l G yX9_count cX9_count 5 (some .int) (xR 2 0 0) (fun _ _ => True) QF 0 0 156 [(3, .int (nI x)), (2, .int cv3), (0, .ref (G.1 + 88))] [] h from L3961 (ns - 0 + 1) 0 0 (Nat.lt_succ_self _) (Nat.zero_le _)
          intro mm
          induction mm with
          | zero =>
            intro x cv3 hmm hx3
            exact absurd hmm (Nat.not_lt_zero _)
          | succ mm ih3961 =>
            intro x cv3 hmm hx3
            refine aw_iload_n 0 dX9_count_156 rfl rfl ?_
            refine aw_aload_n 2 dX9_count_157 rfl rfl ?_
            refine aw_get fX9_198 dX9_count_158 h88 rfl ?_
            refine aw_icmp_ge 189 dX9_count_161 (by decide) (fun c161 => ?_) (fun c161 => ?_)
            · have d161 := (nv_le (a := ns) (b := x) (rfl) (rfl) (by omega) (by omega)).mp c161
              refine aw_iconst (0) dX9_count_189 (by decide) ?_
              refine aw_istore_n [(3, .int 0), (2, .int cv3), (0, .ref (G.1 + 88))] dX9_count_190 rfl (by decide) rfl ?_
              refine aw_lv [(3, .int 0), (2, .int cv3), (0, .ref (G.1 + 88))] [0, 1, 2] rfl ?_
              suffices L3962 : ∀ (mm : Nat) (x : Nat) (cv4 : Int32), nm - x < mm → (x ≤ nm) → AW l G yX9_count cX9_count 5 (some .int) (xR 2 0 0) (fun _ _ => True) QF 0 0 191 [(3, .int (nI x)), (2, .int cv4), (0, .ref (G.1 + 88))] [] h from L3962 (nm - 0 + 1) 0 cv3 (Nat.lt_succ_self _) (Nat.zero_le _)
              intro mm
              induction mm with
              | zero =>
                intro x cv4 hmm hx4
                exact absurd hmm (Nat.not_lt_zero _)
              | succ mm ih3962 =>
                intro x cv4 hmm hx4
                refine aw_iload_n 0 dX9_count_191 rfl rfl ?_
                refine aw_aload_n 2 dX9_count_192 rfl rfl ?_
                refine aw_get fX9_202 dX9_count_193 h88 rfl ?_
                refine aw_icmp_ge 224 dX9_count_196 (by decide) (fun c196 => ?_) (fun c196 => ?_)
                · have d196 := (nv_le (a := nm) (b := x) (rfl) (rfl) (by omega) (by omega)).mp c196
                  refine aw_iload_n 1 dX9_count_224 rfl rfl ?_
                  subst hQF
                  exact aw_iret rfl dX9_count_225 (by decide) (by decide) ⟨_, rfl, rfl, trivial⟩
                · have d196 := mt (nv_le (a := nm) (b := x) (rfl) (rfl) (by omega) (by omega)).mpr c196
                  refine aw_iload_n 1 dX9_count_199 rfl rfl ?_
                  refine aw_aload_n 2 dX9_count_200 rfl rfl ?_
                  refine aw_get fX9_89 dX9_count_201 h88 rfl ?_
                  refine aw_iload_n 0 dX9_count_204 rfl rfl ?_
                  refine aw_iald x (rfl) (by omega) (by decide) dX9_count_205 h113 ?_
                  refine aw_ldc (1000000000) kX9_201 dX9_count_206 ?_
                  refine aw_icmp_ge 215 dX9_count_208 (by decide) (fun c208 => ?_) (fun c208 => ?_)
                  · have d208 := (j_le (a := (1000000000)) (b := (g2 x).toInt) (rfl) (rfl)).mp c208
                    refine aw_iconst (0) dX9_count_215 (by decide) ?_
                    refine aw_iadd dX9_count_216 ?_
                    refine aw_istore_n [(2, .int (cv4 + 0)), (3, .int (nI x)), (0, .ref (G.1 + 88))] dX9_count_217 rfl (by decide) rfl ?_
                    refine aw_iinc (j := 1) (nI (x + 1)) [(3, .int (nI (x + 1))), (2, .int (cv4 + 0)), (0, .ref (G.1 + 88))] dX9_count_218 rfl (nv_inc (rfl)) (by decide) rfl ?_
                    refine aw_goto 191 dX9_count_221 (by decide) ?_
                    refine aw_lv [(3, .int (nI (x + 1))), (2, .int (cv4 + 0)), (0, .ref (G.1 + 88))] [0, 1, 2] rfl ?_
                    exact ih3962 (x + 1) (cv4 + 0) (by omega) (by omega)
                  · have d208 := mt (j_le (a := (1000000000)) (b := (g2 x).toInt) (rfl) (rfl)).mpr c208
                    refine aw_iconst (1) dX9_count_211 (by decide) ?_
                    refine aw_goto 216 dX9_count_212 (by decide) ?_
                    refine aw_iadd dX9_count_216 ?_
                    refine aw_istore_n [(2, .int (cv4 + 1)), (3, .int (nI x)), (0, .ref (G.1 + 88))] dX9_count_217 rfl (by decide) rfl ?_
                    refine aw_iinc (j := 1) (nI (x + 1)) [(3, .int (nI (x + 1))), (2, .int (cv4 + 1)), (0, .ref (G.1 + 88))] dX9_count_218 rfl (nv_inc (rfl)) (by decide) rfl ?_
                    refine aw_goto 191 dX9_count_221 (by decide) ?_
                    refine aw_lv [(3, .int (nI (x + 1))), (2, .int (cv4 + 1)), (0, .ref (G.1 + 88))] [0, 1, 2] rfl ?_
                    exact ih3962 (x + 1) (cv4 + 1) (by omega) (by omega)
            · have d161 := mt (nv_le (a := ns) (b := x) (rfl) (rfl) (by omega) (by omega)).mpr c161
              refine aw_iload_n 1 dX9_count_164 rfl rfl ?_
              refine aw_aload_n 2 dX9_count_165 rfl rfl ?_
              refine aw_get fX9_71 dX9_count_166 h88 rfl ?_
              refine aw_iload_n 0 dX9_count_169 rfl rfl ?_
              refine aw_iald x (rfl) (by omega) (by decide) dX9_count_170 h107 ?_
              refine aw_ldc (1000000000) kX9_201 dX9_count_171 ?_
              refine aw_icmp_ge 180 dX9_count_173 (by decide) (fun c173 => ?_) (fun c173 => ?_)
              · have d173 := (j_le (a := (1000000000)) (b := (g1 x).toInt) (rfl) (rfl)).mp c173
                refine aw_iconst (0) dX9_count_180 (by decide) ?_
                refine aw_iadd dX9_count_181 ?_
                refine aw_istore_n [(2, .int (cv3 + 0)), (3, .int (nI x)), (0, .ref (G.1 + 88))] dX9_count_182 rfl (by decide) rfl ?_
                refine aw_iinc (j := 1) (nI (x + 1)) [(3, .int (nI (x + 1))), (2, .int (cv3 + 0)), (0, .ref (G.1 + 88))] dX9_count_183 rfl (nv_inc (rfl)) (by decide) rfl ?_
                refine aw_goto 156 dX9_count_186 (by decide) ?_
                refine aw_lv [(3, .int (nI (x + 1))), (2, .int (cv3 + 0)), (0, .ref (G.1 + 88))] [0, 1, 2] rfl ?_
                exact ih3961 (x + 1) (cv3 + 0) (by omega) (by omega)
              · have d173 := mt (j_le (a := (1000000000)) (b := (g1 x).toInt) (rfl) (rfl)).mpr c173
                refine aw_iconst (1) dX9_count_176 (by decide) ?_
                refine aw_goto 181 dX9_count_177 (by decide) ?_
                refine aw_iadd dX9_count_181 ?_
                refine aw_istore_n [(2, .int (cv3 + 1)), (3, .int (nI x)), (0, .ref (G.1 + 88))] dX9_count_182 rfl (by decide) rfl ?_
                refine aw_iinc (j := 1) (nI (x + 1)) [(3, .int (nI (x + 1))), (2, .int (cv3 + 1)), (0, .ref (G.1 + 88))] dX9_count_183 rfl (nv_inc (rfl)) (by decide) rfl ?_
                refine aw_goto 156 dX9_count_186 (by decide) ?_
                refine aw_lv [(3, .int (nI (x + 1))), (2, .int (cv3 + 1)), (0, .ref (G.1 + 88))] [0, 1, 2] rfl ?_
                exact ih3961 (x + 1) (cv3 + 1) (by omega) (by omega)
        · refine aw_tableOut 226 dX9_count_40 (by omega) (by decide) ?_
          refine aw_bipush (-9) dX9_count_226 (by decide) ?_
          subst hQF
          exact aw_iret rfl dX9_count_228 (by decide) (by decide) ⟨_, rfl, rfl, trivial⟩
      · have t27 := ite_1 c27
        obtain ⟨w0, bb_w0, ee_w0⟩ := i_nat (x := w) (N := 4) (by omega) (by omega)
        subst ee_w0
        have tt_w0 : (nI w0).toInt = (w0 : Int) := nI_toInt (by omega)
        have nn_w0 : tn (nI w0) = w0 := tn_nI (by omega)
        refine aw_aload_n 0 dX9_count_30 rfl rfl ?_
        refine aw_get fX9_19 dX9_count_31 h88 rfl ?_
        refine aw_iload_n 1 dX9_count_34 rfl rfl ?_
        refine aw_iald w0 (rfl) (by omega) (by decide) dX9_count_35 h92 ?_
        refine aw_toe (nI (fi w0)) (rfl) ?_
        have b3963 := hfi w0 (by omega)
        subst hQF
        exact aw_iret rfl dX9_count_36 (by decide) (by decide) ⟨_, rfl, rfl, trivial⟩
    · have d9 := mt (j_le (a := (17)) (b := w.toInt) (rfl) (rfl)).mpr c9
      obtain ⟨w0, bw, ew⟩ := i_nat (x := w) (N := 17) (by omega) (by omega)
      subst ew
      have tt9 : (nI w0).toInt = (w0 : Int) := nI_toInt (by omega)
      refine aw_aload_n 0 dX9_count_12 rfl rfl ?_
      refine aw_get fX9_7 dX9_count_13 h88 rfl ?_
      refine aw_iload_n 1 dX9_count_16 rfl rfl ?_
      refine aw_bipush (10) dX9_count_17 (by decide) ?_
      refine aw_isub dX9_count_19 ?_
      refine aw_toe (nI (w0 - 10)) (nv_sub (rfl) (rfl) (by omega)) ?_
      refine aw_iald (w0 - 10) (rfl) (by omega) (by decide) dX9_count_20 h89 ?_
      subst hQF
      exact aw_iret rfl dX9_count_21 (by decide) (by decide) ⟨_, rfl, rfl, trivial⟩
/-- the heap grows, and of what was there only two ranges may have changed -/
def grw (a b c d : Nat) (h h1 : List va_E) : Prop := h.length ≤ h1.length ∧ ∀ j, j < h.length → (j < a ∨ b < j) ∧ (j < c ∨ d < j) → h1[j]? = h[j]?
section GRW
variable {a b c d : Nat} {h h1 h2 : List va_E}
theorem grw_rf (a b c d : Nat) (h : List va_E) : grw a b c d h h := ⟨Nat.le_refl _, fun _ _ _ => rfl⟩
theorem grw_set {i : Nat} {x : va_E} (q : grw a b c d h h1) (h0 : (a ≤ i ∧ i ≤ b) ∨ (c ≤ i ∧ i ≤ d) ∨ h.length ≤ i) : grw a b c d h (h1.set i x) :=
  ⟨by rw [List.length_set]; exact q.1, fun j hj hr => by rw [List.getElem?_set_ne (by omega)]; exact q.2 j hj hr⟩
theorem grw_app {x : List va_E} (q : grw a b c d h h1) : grw a b c d h (h1 ++ x) :=
  ⟨by rw [List.length_append]; have := q.1; omega, fun j hj hr => by rw [List.getElem?_append_left (by have := q.1; omega)]; exact q.2 j hj hr⟩
theorem grw_lo {m : Nat} (q : grw a b c d h h1) (k : lo m h1 h2) (hm : h.length ≤ m) (hl : h1.length ≤ h2.length) : grw a b c d h h2 :=
  ⟨Nat.le_trans q.1 hl, fun j hj hr => (k j (by omega)).trans (q.2 j hj hr)⟩
theorem grw_r2 {e f : Nat} (q : grw a b c d h h1) (p : rng e f h1 h2) (w : ∀ j, j < h.length → (j < a ∨ b < j) ∧ (j < c ∨ d < j) → (j < e ∨ f < j)) : grw a b c d h h2 :=
  ⟨by rw [p.1]; exact q.1, fun j hj hr => (p.2 j (w j hj hr)).trans (q.2 j hj hr)⟩
theorem grw_r4 {e f g k : Nat} (q : grw a b c d h h1) (p : rg2 e f g k h1 h2) (w : ∀ j, j < h.length → (j < a ∨ b < j) ∧ (j < c ∨ d < j) → (j < e ∨ f < j) ∧ (j < g ∨ k < j)) : grw a b c d h h2 :=
  ⟨by rw [p.1]; exact q.1, fun j hj hr => (p.2 j (w j hj hr)).trans (q.2 j hj hr)⟩
theorem grw_gg {e f g k : Nat} (q : grw a b c d h h1) (p : grw e f g k h1 h2) (w : ∀ j, j < h.length → (j < a ∨ b < j) ∧ (j < c ∨ d < j) → (j < e ∨ f < j) ∧ (j < g ∨ k < j)) : grw a b c d h h2 :=
  ⟨Nat.le_trans q.1 p.1, fun j hj hr => (p.2 j (Nat.lt_of_lt_of_le hj q.1) (w j hj hr)).trans (q.2 j hj hr)⟩
theorem grw_at {i : Nat} {x : va_E} (p : grw a b c d h h1) (hi : (i < a ∨ b < i) ∧ (i < c ∨ d < i)) (e : h[i]? = some x) : h1[i]? = some x :=
  (p.2 i (List.getElem?_eq_some_iff.mp e).1 hi).trans e
end GRW
theorem xj_P {B P j : Nat} (e : P = 13 + 3 * j) (hj : j < 16) : va_rf (xjo B 16 j) = .ref (B + P) := by rw [xjo_at hj, e]; rfl
set_option maxHeartbeats 4000000 in
theorem bJ_h {l : Launch} {G : xG} {h : List va_E} {jv bv : Value} {nb sp fa ve : Nat} {P pv : Nat} {su wa : Int32} {a b : Nat} (h0 : h[0]? = some (oB 8 (lX G (jv) (bv)))) (h1 : h[1]? = some (oB 1 (lC G (nI nb) (nI sp) (nI fa) (nI ve)))) (h12 : h[12]? = some (aR 16 (xjo G.1 16))) (hP : h[P]? = some (oB 4 (lG G P su wa (nI pv)))) (ba : a < 4) (bb : b < 4) (eP : P = 13 + 3 * (a * 4 + b)) (hvv : pv = ve) : CD l G yX8_bestJoining cX8_bestJoining 4 (some (.object RX4)) 5 0 0 [.ref (G.1 + 0), .int (nI a), .int (nI b)] h (some (.ref (G.1 + P))) h := by
  refine cm_ofQ rfl (Nat.le_of_ble_eq_true rfl) [(0, .ref (G.1 + 0)), (1, .int (nI a)), (2, .int (nI b))] rfl (fun QF hQF => ?_)
  refine aw_aload_n 0 dX8_bestJoining_0 rfl rfl ?_
  refine aw_get fX8_26 dX8_bestJoining_1 h0 rfl ?_
  refine aw_iload_n 1 dX8_bestJoining_4 rfl rfl ?_
  refine aw_iconst (4) dX8_bestJoining_5 (by decide) ?_
  refine aw_imul dX8_bestJoining_6 ?_
  refine aw_toe (nI (a * 4)) (nv_mul (rfl) (rfl)) ?_
  refine aw_iload_n 2 dX8_bestJoining_7 rfl rfl ?_
  refine aw_iadd dX8_bestJoining_8 ?_
  refine aw_toe (nI ((a * 4) + b)) (nv_add (rfl) (rfl)) ?_
  refine aw_aald ((a * 4) + b) (rfl) (by omega) (by decide) dX8_bestJoining_9 h12 ?_
  rw [xj_P eP (by omega)]
  refine aw_astore_n [(3, .ref (G.1 + P)), (0, .ref (G.1 + 0)), (1, .int (nI a)), (2, .int (nI b))] dX8_bestJoining_10 rfl (by decide) rfl ?_
  refine aw_aload_n 0 dX8_bestJoining_11 rfl rfl ?_
  refine aw_get fX8_256 dX8_bestJoining_12 hP rfl ?_
  refine aw_aload_n 1 dX8_bestJoining_15 rfl rfl ?_
  refine aw_get fX8_20 dX8_bestJoining_16 h0 rfl ?_
  refine aw_get fX8_259 dX8_bestJoining_19 h1 rfl ?_
  refine aw_icmp_eq 68 dX8_bestJoining_22 (by decide) (fun c22 => ?_) (fun c22 => absurd (by rw [hvv]) c22)
  refine aw_aload_n 0 dX8_bestJoining_68 rfl rfl ?_
  subst hQF
  exact aw_aret rfl dX8_bestJoining_69 (by decide) (by decide) ⟨rfl, rfl⟩
set_option maxHeartbeats 4000000 in
theorem bJ_m {l : Launch} {G : xG} {h : List va_E} {bv : Value} {J u v ro co : Nat} {rc : Nat → Nat} {lk bs wy nw : Nat → Int32} {P pv : Nat} {su wa : Int32} {pt ce : Nat → Int32} {m se ye fi : Nat → Nat} {W Sn Z Ro Co : Nat → Int32} {Ba : Nat → Int64} {nb sp fa ve : Nat} {lx : Nat → Nat → Nat} {a b : Nat} (h0 : h[0]? = some (oB 8 (lX G (.ref (G.1 + J)) (bv)))) (h1 : h[1]? = some (oB 1 (lC G (nI nb) (nI sp) (nI fa) (nI ve)))) (h2 : h[2]? = some (aI 20 (nA m))) (h3 : h[3]? = some (aI 20 (nA se))) (h4 : h[4]? = some (aI 4 (nA ye))) (h5 : h[5]? = some (aI 4 (nA fi))) (h6 : h[6]? = some (aI 40 W)) (h7 : h[7]? = some (aI 40 Sn)) (h8 : h[8]? = some (aI 40 Z)) (h9 : h[9]? = some (aI 40 Ro)) (h10 : h[10]? = some (aI 40 Co)) (h11 : h[11]? = some (aL 40 Ba)) (h12 : h[12]? = some (aR 16 (xjo G.1 16))) (hJ : h[J]? = some (oB 3 (lJ G J (.ref (G.1 + u)) (.ref (G.1 + v)) (nI ro) (nI co)))) (hJ_1 : h[J + 1]? = some (aI 100 lk)) (hJ_2 : h[J + 2]? = some (aI 11 (nA rc))) (hJ_3 : h[J + 3]? = some (aI 11264 bs)) (hu : h[u]? = some (aI 1024 wy)) (hv : h[v]? = some (aI 1024 nw)) (hP : h[P]? = some (oB 4 (lG G P su wa (nI pv)))) (hP_1 : h[P + 1]? = some (aI 10 pt)) (hP_2 : h[P + 2]? = some (aZ 10 ce)) (qu : J + 4 ≤ u ∧ u ≤ J + 5) (qv : J + 4 ≤ v ∧ v ≤ J + 5) (quv : (u ≠ v ∧ wZ wy nw)) (hrc : ∀ j, j < 11 → rc j < 1024) (qP : P + 2 < J) (hm : ∀ j, j < 20 → m j ≤ j) (hse : ∀ j, j < 20 → se j < 20) (hfi : ∀ j, j < 4 → fi j < 11) (hye : ∀ j, j < 4 → ye j < 1901) (ba : a < 4) (bb : b < 4) (qJ : 125 ≤ J) (qP1 : 12 < P) (hpt : pB pt) (eP : P = 13 + 3 * (a * 4 + b)) (hlx : ∀ i, i < fi a → ∀ k, k < fi b → likeC ye Sn Z Ro Co Ba sp fa (a * 10 + i) (b * 10 + k) = nI (lx i k)) (hlx3 : ∀ i k, lx i k ≤ 300) (bpv : pv ≤ 600) (bve : ve ≤ 600) (hvv : ¬ pv = ve) : CE l G yX8_bestJoining cX8_bestJoining 4 (some (.object RX4)) 5 0 0 [.ref (G.1 + 0), .int (nI a), .int (nI b)] h (some (.ref (G.1 + P))) (fun h1 => ∃ u1 : Nat, ∃ v1 : Nat, ∃ ro1 : Nat, ∃ co1 : Nat, ∃ rc1 : Nat → Nat, ∃ lk1 : Nat → Int32, ∃ bs1 : Nat → Int32, ∃ wy1 : Nat → Int32, ∃ nw1 : Nat → Int32, ∃ su1 : Int32, ∃ wa1 : Int32, ∃ pt1 : Nat → Int32, ∃ ce1 : Nat → Int32, h1[J]? = some (oB 3 (lJ G J (.ref (G.1 + u1)) (.ref (G.1 + v1)) (nI ro1) (nI co1))) ∧ h1[J + 1]? = some (aI 100 lk1) ∧ h1[J + 2]? = some (aI 11 (nA rc1)) ∧ h1[J + 3]? = some (aI 11264 bs1) ∧ h1[u1]? = some (aI 1024 wy1) ∧ h1[v1]? = some (aI 1024 nw1) ∧ h1[P]? = some (oB 4 (lG G P su1 wa1 (nI ve))) ∧ h1[P + 1]? = some (aI 10 pt1) ∧ h1[P + 2]? = some (aZ 10 ce1) ∧ rg2 P (P + 2) J (J + 5) h h1 ∧ (J + 4 ≤ u1 ∧ u1 ≤ J + 5) ∧ (J + 4 ≤ v1 ∧ v1 ≤ J + 5) ∧ (u1 ≠ v1 ∧ wZ wy1 nw1) ∧ (∀ j, j < 11 → rc1 j < 1024) ∧ pB pt1 ∧ jK lx (fi a) (fi b) su1 wa1 pt1 ce1) := by
  refine cm_ofQ rfl (Nat.le_of_ble_eq_true rfl) [(0, .ref (G.1 + 0)), (1, .int (nI a)), (2, .int (nI b))] rfl (fun QF hQF => ?_)
  refine aw_aload_n 0 dX8_bestJoining_0 rfl rfl ?_
  refine aw_get fX8_26 dX8_bestJoining_1 h0 rfl ?_
  refine aw_iload_n 1 dX8_bestJoining_4 rfl rfl ?_
  refine aw_iconst (4) dX8_bestJoining_5 (by decide) ?_
  refine aw_imul dX8_bestJoining_6 ?_
  refine aw_toe (nI (a * 4)) (nv_mul (rfl) (rfl)) ?_
  refine aw_iload_n 2 dX8_bestJoining_7 rfl rfl ?_
  refine aw_iadd dX8_bestJoining_8 ?_
  refine aw_toe (nI ((a * 4) + b)) (nv_add (rfl) (rfl)) ?_
  refine aw_aald ((a * 4) + b) (rfl) (by omega) (by decide) dX8_bestJoining_9 h12 ?_
  rw [xj_P eP (by omega)]
  refine aw_astore_n [(3, .ref (G.1 + P)), (0, .ref (G.1 + 0)), (1, .int (nI a)), (2, .int (nI b))] dX8_bestJoining_10 rfl (by decide) rfl ?_
  refine aw_aload_n 0 dX8_bestJoining_11 rfl rfl ?_
  refine aw_get fX8_256 dX8_bestJoining_12 hP rfl ?_
  refine aw_aload_n 1 dX8_bestJoining_15 rfl rfl ?_
  refine aw_get fX8_20 dX8_bestJoining_16 h0 rfl ?_
  refine aw_get fX8_259 dX8_bestJoining_19 h1 rfl ?_
  refine aw_icmp_eq 68 dX8_bestJoining_22 (by decide) (fun c22 => absurd c22 (fun e => hvv ((nv_eq (a := pv) (b := ve) rfl rfl (by omega) (by omega)).mp e))) (fun c22 => ?_)
  refine aw_aload_n 1 dX8_bestJoining_25 rfl rfl ?_
  refine aw_get fX8_9 dX8_bestJoining_26 h0 rfl ?_
  refine aw_nonnull 43 dX8_bestJoining_29 (by decide) ?_
  refine aw_aload_n 1 dX8_bestJoining_43 rfl rfl ?_
  refine aw_get fX8_9 dX8_bestJoining_44 h0 rfl ?_
  refine aw_aload_n 1 dX8_bestJoining_47 rfl rfl ?_
  refine aw_get fX8_20 dX8_bestJoining_48 h0 rfl ?_
  refine aw_iload_n 2 dX8_bestJoining_51 rfl rfl ?_
  refine aw_iload_n 3 dX8_bestJoining_52 rfl rfl ?_
  refine aw_aload_n 0 dX8_bestJoining_53 rfl rfl ?_
  refine aw_eW [.ref (G.1 + 1), .int (nI a), .int (nI b), .ref (G.1 + P)] [] lX8_263 vX3_solve mX3_solve dX8_bestJoining_54 (aX3_solve (J := J) (u := u) (v := v) (ro := ro) (co := co) (rc := rc) (lk := lk) (bs := bs) (wy := wy) (nw := nw) (P := P) (pv := pv) (su := su) (wa := wa) (pt := pt) (ce := ce) (m := m) (se := se) (ye := ye) (fi := fi) (W := W) (Sn := Sn) (Z := Z) (Ro := Ro) (Co := Co) (Ba := Ba) (nb := nb) (sp := sp) (fa := fa) (ve := ve) (a := a) (b := b) hJ hJ_1 hJ_2 hJ_3 hu hv hP hP_1 hP_2 h1 h2 h3 h4 h5 h6 h7 h8 h9 h10 h11 (by omega) (by omega) quv hrc (by omega) hm hse hfi hye (by omega) (by omega) (by omega) (by omega) (by omega) hlx hlx3) hJ rfl rfl rfl (Nat.le_of_ble_eq_true rfl) (by decide) (by decide) rfl (fun h4229 q4228 => ?_)
  obtain ⟨u14215, v14216, ro14217, co14218, rc14219, lk14220, bs14221, wy14222, nw14223, su14224, wa14225, pt14226, ce14227, f4230, f4231, f4232, f4233, f4234, f4235, f4236, f4237, f4238, k4239, p4240, p4241, p4242, p4243, p4244, p4245⟩ := q4228
  have f4246 := rg2_at k4239 (by omega) h0
  have f4247 := rg2_at k4239 (by omega) h1
  have f4248 := rg2_at k4239 (by omega) h2
  have f4249 := rg2_at k4239 (by omega) h3
  have f4250 := rg2_at k4239 (by omega) h4
  have f4251 := rg2_at k4239 (by omega) h5
  have f4252 := rg2_at k4239 (by omega) h6
  have f4253 := rg2_at k4239 (by omega) h7
  have f4254 := rg2_at k4239 (by omega) h8
  have f4255 := rg2_at k4239 (by omega) h9
  have f4256 := rg2_at k4239 (by omega) h10
  have f4257 := rg2_at k4239 (by omega) h11
  have f4258 := rg2_at k4239 (by omega) h12
  refine aw_aload_n 0 dX8_bestJoining_57 rfl rfl ?_
  refine aw_aload_n 1 dX8_bestJoining_58 rfl rfl ?_
  refine aw_get fX8_20 dX8_bestJoining_59 f4246 rfl ?_
  refine aw_get fX8_259 dX8_bestJoining_62 f4247 rfl ?_
  refine aw_putQ fX8_256 dX8_bestJoining_65 (lG G P su14224 wa14225 (nI ve)) f4236 rfl rfl rfl (Nat.le_of_ble_eq_true rfl) rfl ?_
  refine aw_aload_n 0 dX8_bestJoining_68 rfl rfl ?_
  subst hQF
  exact aw_aret rfl dX8_bestJoining_69 (by decide) (by decide) ⟨rfl, _, _, _, _, _, _, _, _, _, _, _, _, _, (gn (by omega) (f4230)), (gn (by omega) (f4231)), (gn (by omega) (f4232)), (gn (by omega) (f4233)), (gn (by omega) (f4234)), (gn (by omega) (f4235)), (gs f4236), (gn (by omega) (f4237)), (gn (by omega) (f4238)), rg2_set (rg2_tr (rg2_rf P (P + 2) J (J + 5) h) (rg2_w2 k4239 (by omega) (by omega))) (by omega), p4240, p4241, p4242, p4243, p4244, p4245⟩
set_option maxHeartbeats 4000000 in
theorem bJ {l : Launch} {G : xG} {h : List va_E} {bv : Value} {J u v ro co : Nat} {rc : Nat → Nat} {lk bs wy nw : Nat → Int32} {P pv : Nat} {su wa : Int32} {pt ce : Nat → Int32} {m se ye fi : Nat → Nat} {W Sn Z Ro Co : Nat → Int32} {Ba : Nat → Int64} {nb sp fa ve : Nat} {lx : Nat → Nat → Nat} {a b : Nat} (h0 : h[0]? = some (oB 8 (lX G (.ref (G.1 + J)) (bv)))) (h1 : h[1]? = some (oB 1 (lC G (nI nb) (nI sp) (nI fa) (nI ve)))) (h2 : h[2]? = some (aI 20 (nA m))) (h3 : h[3]? = some (aI 20 (nA se))) (h4 : h[4]? = some (aI 4 (nA ye))) (h5 : h[5]? = some (aI 4 (nA fi))) (h6 : h[6]? = some (aI 40 W)) (h7 : h[7]? = some (aI 40 Sn)) (h8 : h[8]? = some (aI 40 Z)) (h9 : h[9]? = some (aI 40 Ro)) (h10 : h[10]? = some (aI 40 Co)) (h11 : h[11]? = some (aL 40 Ba)) (h12 : h[12]? = some (aR 16 (xjo G.1 16))) (hJ : h[J]? = some (oB 3 (lJ G J (.ref (G.1 + u)) (.ref (G.1 + v)) (nI ro) (nI co)))) (hJ_1 : h[J + 1]? = some (aI 100 lk)) (hJ_2 : h[J + 2]? = some (aI 11 (nA rc))) (hJ_3 : h[J + 3]? = some (aI 11264 bs)) (hu : h[u]? = some (aI 1024 wy)) (hv : h[v]? = some (aI 1024 nw)) (hP : h[P]? = some (oB 4 (lG G P su wa (nI pv)))) (hP_1 : h[P + 1]? = some (aI 10 pt)) (hP_2 : h[P + 2]? = some (aZ 10 ce)) (qu : J + 4 ≤ u ∧ u ≤ J + 5) (qv : J + 4 ≤ v ∧ v ≤ J + 5) (quv : (u ≠ v ∧ wZ wy nw)) (hrc : ∀ j, j < 11 → rc j < 1024) (qP : P + 2 < J) (hm : ∀ j, j < 20 → m j ≤ j) (hse : ∀ j, j < 20 → se j < 20) (hfi : ∀ j, j < 4 → fi j < 11) (hye : ∀ j, j < 4 → ye j < 1901) (ba : a < 4) (bb : b < 4) (qJ : 125 ≤ J) (qP1 : 12 < P) (hpt : pB pt) (eP : P = 13 + 3 * (a * 4 + b)) (hlx : ∀ i, i < fi a → ∀ k, k < fi b → likeC ye Sn Z Ro Co Ba sp fa (a * 10 + i) (b * 10 + k) = nI (lx i k)) (hlx3 : ∀ i k, lx i k ≤ 300) (bpv : pv ≤ 600) (bve : ve ≤ 600) (hJK : pv = ve → jK lx (fi a) (fi b) su wa pt ce) : CE l G yX8_bestJoining cX8_bestJoining 4 (some (.object RX4)) 5 0 0 [.ref (G.1 + 0), .int (nI a), .int (nI b)] h (some (.ref (G.1 + P))) (fun h1 => ∃ u1 : Nat, ∃ v1 : Nat, ∃ ro1 : Nat, ∃ co1 : Nat, ∃ rc1 : Nat → Nat, ∃ lk1 : Nat → Int32, ∃ bs1 : Nat → Int32, ∃ wy1 : Nat → Int32, ∃ nw1 : Nat → Int32, ∃ su1 : Int32, ∃ wa1 : Int32, ∃ pt1 : Nat → Int32, ∃ ce1 : Nat → Int32, h1[J]? = some (oB 3 (lJ G J (.ref (G.1 + u1)) (.ref (G.1 + v1)) (nI ro1) (nI co1))) ∧ h1[J + 1]? = some (aI 100 lk1) ∧ h1[J + 2]? = some (aI 11 (nA rc1)) ∧ h1[J + 3]? = some (aI 11264 bs1) ∧ h1[u1]? = some (aI 1024 wy1) ∧ h1[v1]? = some (aI 1024 nw1) ∧ h1[P]? = some (oB 4 (lG G P su1 wa1 (nI ve))) ∧ h1[P + 1]? = some (aI 10 pt1) ∧ h1[P + 2]? = some (aZ 10 ce1) ∧ rg2 P (P + 2) J (J + 5) h h1 ∧ (J + 4 ≤ u1 ∧ u1 ≤ J + 5) ∧ (J + 4 ≤ v1 ∧ v1 ≤ J + 5) ∧ (u1 ≠ v1 ∧ wZ wy1 nw1) ∧ (∀ j, j < 11 → rc1 j < 1024) ∧ pB pt1 ∧ jK lx (fi a) (fi b) su1 wa1 pt1 ce1) := by
  by_cases hvv : pv = ve
  · exact CD.e (bJ_h h0 h1 h12 hP ba bb eP hvv) ⟨u, v, ro, co, rc, lk, bs, wy, nw, su, wa, pt, ce, hJ, hJ_1, hJ_2, hJ_3, hu, hv, (by rw [← hvv]; exact hP), hP_1, hP_2, rg2_rf _ _ _ _ _, qu, qv, quv, hrc, hpt, hJK hvv⟩
  · exact bJ_m h0 h1 h2 h3 h4 h5 h6 h7 h8 h9 h10 h11 h12 hJ hJ_1 hJ_2 hJ_3 hu hv hP hP_1 hP_2 qu qv quv hrc qP hm hse hfi hye ba bb qJ qP1 hpt eP hlx hlx3 bpv bve hvv
set_option maxHeartbeats 4000000 in
theorem bJ_n {l : Launch} {G : xG} {h : List va_E} {bv : Value} {J : Nat} {P pv : Nat} {su wa : Int32} {pt ce : Nat → Int32} {m se ye fi : Nat → Nat} {W Sn Z Ro Co : Nat → Int32} {Ba : Nat → Int64} {nb sp fa ve : Nat} {lx : Nat → Nat → Nat} {a b : Nat} (h0 : h[0]? = some (oB 8 (lX G (.null) (bv)))) (h1 : h[1]? = some (oB 1 (lC G (nI nb) (nI sp) (nI fa) (nI ve)))) (h2 : h[2]? = some (aI 20 (nA m))) (h3 : h[3]? = some (aI 20 (nA se))) (h4 : h[4]? = some (aI 4 (nA ye))) (h5 : h[5]? = some (aI 4 (nA fi))) (h6 : h[6]? = some (aI 40 W)) (h7 : h[7]? = some (aI 40 Sn)) (h8 : h[8]? = some (aI 40 Z)) (h9 : h[9]? = some (aI 40 Ro)) (h10 : h[10]? = some (aI 40 Co)) (h11 : h[11]? = some (aL 40 Ba)) (h12 : h[12]? = some (aR 16 (xjo G.1 16))) (hP : h[P]? = some (oB 4 (lG G P su wa (nI pv)))) (hP_1 : h[P + 1]? = some (aI 10 pt)) (hP_2 : h[P + 2]? = some (aZ 10 ce)) (hl : h.length = J) (hm : ∀ j, j < 20 → m j ≤ j) (hse : ∀ j, j < 20 → se j < 20) (hfi : ∀ j, j < 4 → fi j < 11) (hye : ∀ j, j < 4 → ye j < 1901) (ba : a < 4) (bb : b < 4) (qJ : 125 ≤ J) (qP : P + 2 < J) (qP1 : 12 < P) (hpt : pB pt) (eP : P = 13 + 3 * (a * 4 + b)) (hlx : ∀ i, i < fi a → ∀ k, k < fi b → likeC ye Sn Z Ro Co Ba sp fa (a * 10 + i) (b * 10 + k) = nI (lx i k)) (hlx3 : ∀ i k, lx i k ≤ 300) (bpv : pv ≤ 600) (bve : ve ≤ 600) (hvv : ¬ pv = ve) : CE l G yX8_bestJoining cX8_bestJoining 4 (some (.object RX4)) 5 6 13430 [.ref (G.1 + 0), .int (nI a), .int (nI b)] h (some (.ref (G.1 + P))) (fun h1 => ∃ u1 : Nat, ∃ v1 : Nat, ∃ ro1 : Nat, ∃ co1 : Nat, ∃ rc1 : Nat → Nat, ∃ lk1 : Nat → Int32, ∃ bs1 : Nat → Int32, ∃ wy1 : Nat → Int32, ∃ nw1 : Nat → Int32, ∃ su1 : Int32, ∃ wa1 : Int32, ∃ pt1 : Nat → Int32, ∃ ce1 : Nat → Int32, h1[0]? = some (oB 8 (lX G (.ref (G.1 + J)) (bv))) ∧ h1[J]? = some (oB 3 (lJ G J (.ref (G.1 + u1)) (.ref (G.1 + v1)) (nI ro1) (nI co1))) ∧ h1[J + 1]? = some (aI 100 lk1) ∧ h1[J + 2]? = some (aI 11 (nA rc1)) ∧ h1[J + 3]? = some (aI 11264 bs1) ∧ h1[u1]? = some (aI 1024 wy1) ∧ h1[v1]? = some (aI 1024 nw1) ∧ h1[P]? = some (oB 4 (lG G P su1 wa1 (nI ve))) ∧ h1[P + 1]? = some (aI 10 pt1) ∧ h1[P + 2]? = some (aZ 10 ce1) ∧ grw 0 0 P (P + 2) h h1 ∧ (J + 4 ≤ u1 ∧ u1 ≤ J + 5) ∧ (J + 4 ≤ v1 ∧ v1 ≤ J + 5) ∧ (u1 ≠ v1 ∧ wZ wy1 nw1) ∧ (∀ j, j < 11 → rc1 j < 1024) ∧ pB pt1 ∧ jK lx (fi a) (fi b) su1 wa1 pt1 ce1 ∧ h1.length = J + 6) := by
  refine cm_ofQ rfl (Nat.le_of_ble_eq_true rfl) [(0, .ref (G.1 + 0)), (1, .int (nI a)), (2, .int (nI b))] rfl (fun QF hQF => ?_)
  refine aw_aload_n 0 dX8_bestJoining_0 rfl rfl ?_
  refine aw_get fX8_26 dX8_bestJoining_1 h0 rfl ?_
  refine aw_iload_n 1 dX8_bestJoining_4 rfl rfl ?_
  refine aw_iconst (4) dX8_bestJoining_5 (by decide) ?_
  refine aw_imul dX8_bestJoining_6 ?_
  refine aw_toe (nI (a * 4)) (nv_mul (rfl) (rfl)) ?_
  refine aw_iload_n 2 dX8_bestJoining_7 rfl rfl ?_
  refine aw_iadd dX8_bestJoining_8 ?_
  refine aw_toe (nI ((a * 4) + b)) (nv_add (rfl) (rfl)) ?_
  refine aw_aald ((a * 4) + b) (rfl) (by omega) (by decide) dX8_bestJoining_9 h12 ?_
  rw [xj_P eP (by omega)]
  refine aw_astore_n [(3, .ref (G.1 + P)), (0, .ref (G.1 + 0)), (1, .int (nI a)), (2, .int (nI b))] dX8_bestJoining_10 rfl (by decide) rfl ?_
  refine aw_aload_n 0 dX8_bestJoining_11 rfl rfl ?_
  refine aw_get fX8_256 dX8_bestJoining_12 hP rfl ?_
  refine aw_aload_n 1 dX8_bestJoining_15 rfl rfl ?_
  refine aw_get fX8_20 dX8_bestJoining_16 h0 rfl ?_
  refine aw_get fX8_259 dX8_bestJoining_19 h1 rfl ?_
  refine aw_icmp_eq 68 dX8_bestJoining_22 (by decide) (fun c22 => absurd c22 (fun e => hvv ((nv_eq (a := pv) (b := ve) rfl rfl (by omega) (by omega)).mp e))) (fun c22 => ?_)
  refine aw_aload_n 1 dX8_bestJoining_25 rfl rfl ?_
  refine aw_get fX8_9 dX8_bestJoining_26 h0 rfl ?_
  refine aw_nonnullN dX8_bestJoining_29 ?_
  refine aw_aload_n 1 dX8_bestJoining_32 rfl rfl ?_
  refine aw_newQ J nX8_260 dX8_bestJoining_33 [.null, .null, .null, .null, .null, .int 0, .int 0] (by decide) (by decide) (by decide) (by simp [hl] <;> omega) ?_
  refine aw_dup dX8_bestJoining_36 rfl ?_
  refine aw_eN [] [.ref (G.1 + J), .ref (G.1 + 0)] lX8_262 vX3_init mX3_init dX8_bestJoining_37 (KX3_init (a := J) (by simp [hl]) (gp (by simp [hl] <;> omega))) rfl (Nat.le_of_ble_eq_true rfl) (by decide) (by decide) rfl (fun h4260 q4259 => ?_)
  obtain ⟨l4261, f4263, f4264, f4265, f4266, f4267, f4268, k4262⟩ := q4259
  have f4269 := lo_at k4262 (by omega) (ga (h0))
  have f4270 := lo_at k4262 (by omega) (ga (h1))
  have f4271 := lo_at k4262 (by omega) (ga (h2))
  have f4272 := lo_at k4262 (by omega) (ga (h3))
  have f4273 := lo_at k4262 (by omega) (ga (h4))
  have f4274 := lo_at k4262 (by omega) (ga (h5))
  have f4275 := lo_at k4262 (by omega) (ga (h6))
  have f4276 := lo_at k4262 (by omega) (ga (h7))
  have f4277 := lo_at k4262 (by omega) (ga (h8))
  have f4278 := lo_at k4262 (by omega) (ga (h9))
  have f4279 := lo_at k4262 (by omega) (ga (h10))
  have f4280 := lo_at k4262 (by omega) (ga (h11))
  have f4281 := lo_at k4262 (by omega) (ga (h12))
  have f4282 := lo_at k4262 (by omega) (ga (hP))
  have f4283 := lo_at k4262 (by omega) (ga (hP_1))
  have f4284 := lo_at k4262 (by omega) (ga (hP_2))
  refine aw_putQ fX8_9 dX8_bestJoining_40 (lX G (.ref (G.1 + J)) (bv)) f4269 rfl rfl rfl (Nat.le_of_ble_eq_true rfl) rfl ?_
  refine aw_aload_n 1 dX8_bestJoining_43 rfl rfl ?_
  refine aw_get fX8_9 dX8_bestJoining_44 (gs f4269) rfl ?_
  refine aw_aload_n 1 dX8_bestJoining_47 rfl rfl ?_
  refine aw_get fX8_20 dX8_bestJoining_48 (gs f4269) rfl ?_
  refine aw_iload_n 2 dX8_bestJoining_51 rfl rfl ?_
  refine aw_iload_n 3 dX8_bestJoining_52 rfl rfl ?_
  refine aw_aload_n 0 dX8_bestJoining_53 rfl rfl ?_
  refine aw_eW [.ref (G.1 + 1), .int (nI a), .int (nI b), .ref (G.1 + P)] [] lX8_263 vX3_solve mX3_solve dX8_bestJoining_54 (aX3_solve (J := J) (u := J + 4) (v := J + 5) (ro := 0) (co := 0) (rc := fun _ => 0) (lk := fun _ => 0) (bs := fun _ => 0) (wy := fun _ => 0) (nw := fun _ => 0) (P := P) (pv := pv) (su := su) (wa := wa) (pt := pt) (ce := ce) (m := m) (se := se) (ye := ye) (fi := fi) (W := W) (Sn := Sn) (Z := Z) (Ro := Ro) (Co := Co) (Ba := Ba) (nb := nb) (sp := sp) (fa := fa) (ve := ve) (a := a) (b := b) (gn (by omega) (f4263)) (gn (by omega) (f4264)) (gn (by omega) (f4265)) (gn (by omega) (f4266)) (gn (by omega) (f4267)) (gn (by omega) (f4268)) (gn (by omega) (f4282)) (gn (by omega) (f4283)) (gn (by omega) (f4284)) (gn (by decide) (f4270)) (gn (by decide) (f4271)) (gn (by decide) (f4272)) (gn (by decide) (f4273)) (gn (by decide) (f4274)) (gn (by decide) (f4275)) (gn (by decide) (f4276)) (gn (by decide) (f4277)) (gn (by decide) (f4278)) (gn (by decide) (f4279)) (gn (by decide) (f4280)) ⟨by omega, by omega⟩ ⟨by omega, by omega⟩ ⟨by omega, fun _ _ => rfl, fun _ _ => rfl⟩ (fun _ _ => by decide) (by omega) hm hse hfi hye (by omega) (by omega) (by omega) (by omega) (by omega) hlx hlx3) (gn (by omega) (f4263)) rfl rfl rfl (Nat.le_of_ble_eq_true rfl) (by decide) (by decide) rfl (fun h4299 q4298 => ?_)
  obtain ⟨u14285, v14286, ro14287, co14288, rc14289, lk14290, bs14291, wy14292, nw14293, su14294, wa14295, pt14296, ce14297, f4300, f4301, f4302, f4303, f4304, f4305, f4306, f4307, f4308, k4309, p4310, p4311, p4312, p4313, p4314, p4315⟩ := q4298
  have f4316 := rg2_at k4309 (by omega) (gs f4269)
  have f4317 := rg2_at k4309 (by omega) (gn (by decide) (f4270))
  have f4318 := rg2_at k4309 (by omega) (gn (by decide) (f4271))
  have f4319 := rg2_at k4309 (by omega) (gn (by decide) (f4272))
  have f4320 := rg2_at k4309 (by omega) (gn (by decide) (f4273))
  have f4321 := rg2_at k4309 (by omega) (gn (by decide) (f4274))
  have f4322 := rg2_at k4309 (by omega) (gn (by decide) (f4275))
  have f4323 := rg2_at k4309 (by omega) (gn (by decide) (f4276))
  have f4324 := rg2_at k4309 (by omega) (gn (by decide) (f4277))
  have f4325 := rg2_at k4309 (by omega) (gn (by decide) (f4278))
  have f4326 := rg2_at k4309 (by omega) (gn (by decide) (f4279))
  have f4327 := rg2_at k4309 (by omega) (gn (by decide) (f4280))
  have f4328 := rg2_at k4309 (by omega) (gn (by decide) (f4281))
  refine aw_aload_n 0 dX8_bestJoining_57 rfl rfl ?_
  refine aw_aload_n 1 dX8_bestJoining_58 rfl rfl ?_
  refine aw_get fX8_20 dX8_bestJoining_59 f4316 rfl ?_
  refine aw_get fX8_259 dX8_bestJoining_62 f4317 rfl ?_
  refine aw_putQ fX8_256 dX8_bestJoining_65 (lG G P su14294 wa14295 (nI ve)) f4306 rfl rfl rfl (Nat.le_of_ble_eq_true rfl) rfl ?_
  refine aw_aload_n 0 dX8_bestJoining_68 rfl rfl ?_
  subst hQF
  exact aw_aret rfl dX8_bestJoining_69 (by decide) (by decide) ⟨rfl, _, _, _, _, _, _, _, _, _, _, _, _, _, (gn (by omega) (f4316)), (gn (by omega) (f4300)), (gn (by omega) (f4301)), (gn (by omega) (f4302)), (gn (by omega) (f4303)), (gn (by omega) (f4304)), (gn (by omega) (f4305)), (gs f4306), (gn (by omega) (f4307)), (gn (by omega) (f4308)), grw_set (grw_r4 (grw_set (grw_lo (grw_app (grw_rf 0 0 P (P + 2) h)) k4262 (by omega) (by simp [hl, l4261])) (by omega)) k4309 (fun j q1 q2 => by omega)) (by omega), p4310, p4311, p4312, p4313, p4314, p4315, by rw [List.length_set, k4309.1, List.length_set, l4261]⟩
set_option maxHeartbeats 4000000 in
theorem oX8_join_J {l : Launch} {G : xG} {h : List va_E} {bv : Value} {J u v ro co : Nat} {rc : Nat → Nat} {lk bs wy nw : Nat → Int32} {P pv : Nat} {su wa : Int32} {pt ce : Nat → Int32} {m se ye fi : Nat → Nat} {W Sn Z Ro Co : Nat → Int32} {Ba : Nat → Int64} {nb sp fa ve : Nat} {lx : Nat → Nat → Nat} {a b : Nat} (h0 : h[0]? = some (oB 8 (lX G (.ref (G.1 + J)) (bv)))) (h1 : h[1]? = some (oB 1 (lC G (nI nb) (nI sp) (nI fa) (nI ve)))) (h2 : h[2]? = some (aI 20 (nA m))) (h3 : h[3]? = some (aI 20 (nA se))) (h4 : h[4]? = some (aI 4 (nA ye))) (h5 : h[5]? = some (aI 4 (nA fi))) (h6 : h[6]? = some (aI 40 W)) (h7 : h[7]? = some (aI 40 Sn)) (h8 : h[8]? = some (aI 40 Z)) (h9 : h[9]? = some (aI 40 Ro)) (h10 : h[10]? = some (aI 40 Co)) (h11 : h[11]? = some (aL 40 Ba)) (h12 : h[12]? = some (aR 16 (xjo G.1 16))) (hJ : h[J]? = some (oB 3 (lJ G J (.ref (G.1 + u)) (.ref (G.1 + v)) (nI ro) (nI co)))) (hJ_1 : h[J + 1]? = some (aI 100 lk)) (hJ_2 : h[J + 2]? = some (aI 11 (nA rc))) (hJ_3 : h[J + 3]? = some (aI 11264 bs)) (hu : h[u]? = some (aI 1024 wy)) (hv : h[v]? = some (aI 1024 nw)) (hP : h[P]? = some (oB 4 (lG G P su wa (nI pv)))) (hP_1 : h[P + 1]? = some (aI 10 pt)) (hP_2 : h[P + 2]? = some (aZ 10 ce)) (ba : a < 4) (bb : b < 4) (hab : a ≠ b) (qu : J + 4 ≤ u ∧ u ≤ J + 5) (qv : J + 4 ≤ v ∧ v ≤ J + 5) (quv : (u ≠ v ∧ wZ wy nw)) (hrc : ∀ j, j < 11 → rc j < 1024) (qP : P + 2 < J) (hm : ∀ j, j < 20 → m j ≤ j) (hse : ∀ j, j < 20 → se j < 20) (hfi : ∀ j, j < 4 → fi j < 11) (hye : ∀ j, j < 4 → ye j < 1901) (qJ : 125 ≤ J) (qP1 : 12 < P) (hpt : pB pt) (eP : P = 13 + 3 * (a * 4 + b)) (hlx : ∀ i, i < fi a → ∀ k, k < fi b → likeC ye Sn Z Ro Co Ba sp fa (a * 10 + i) (b * 10 + k) = nI (lx i k)) (hlx3 : ∀ i k, lx i k ≤ 300) (bpv : pv ≤ 600) (bve : ve ≤ 600) (hJK : pv = ve → jK lx (fi a) (fi b) su wa pt ce) : CU l G yX8_join cX8_join 3 (some .int) 6 0 0 [.ref (G.1 + 0), .int (nI a), .int (nI b)] h (fun r h1 => ∃ u1 : Nat, ∃ v1 : Nat, ∃ ro1 : Nat, ∃ co1 : Nat, ∃ rc1 : Nat → Nat, ∃ lk1 : Nat → Int32, ∃ bs1 : Nat → Int32, ∃ wy1 : Nat → Int32, ∃ nw1 : Nat → Int32, ∃ su1 : Int32, ∃ wa1 : Int32, ∃ pt1 : Nat → Int32, ∃ ce1 : Nat → Int32, h1[J]? = some (oB 3 (lJ G J (.ref (G.1 + u1)) (.ref (G.1 + v1)) (nI ro1) (nI co1))) ∧ h1[J + 1]? = some (aI 100 lk1) ∧ h1[J + 2]? = some (aI 11 (nA rc1)) ∧ h1[J + 3]? = some (aI 11264 bs1) ∧ h1[u1]? = some (aI 1024 wy1) ∧ h1[v1]? = some (aI 1024 nw1) ∧ h1[P]? = some (oB 4 (lG G P su1 wa1 (nI ve))) ∧ h1[P + 1]? = some (aI 10 pt1) ∧ h1[P + 2]? = some (aZ 10 ce1) ∧ rg2 P (P + 2) J (J + 5) h h1 ∧ (J + 4 ≤ u1 ∧ u1 ≤ J + 5) ∧ (J + 4 ≤ v1 ∧ v1 ≤ J + 5) ∧ (u1 ≠ v1 ∧ wZ wy1 nw1) ∧ (∀ j, j < 11 → rc1 j < 1024) ∧ pB pt1 ∧ jK lx (fi a) (fi b) su1 wa1 pt1 ce1 ∧ r = nI (jS lx (fi b) (fi a) 0 0)) := by
  refine cm_ofQ rfl (Nat.le_of_ble_eq_true rfl) [(0, .ref (G.1 + 0)), (1, .int (nI a)), (2, .int (nI b))] rfl (fun QF hQF => ?_)
  have tt_a : (nI a).toInt = (a : Int) := nI_toInt (by omega)
  have nn_a : tn (nI a) = a := tn_nI (by omega)
  have tt_b : (nI b).toInt = (b : Int) := nI_toInt (by omega)
  have nn_b : tn (nI b) = b := tn_nI (by omega)
  refine aw_iload_n 1 dX8_join_0 rfl rfl ?_
  refine aw_iload_n 2 dX8_join_1 rfl rfl ?_
  refine aw_dS [.int (nI a), .int (nI b)] [] lX8_104 sX8_areTwo mX8_areTwo dX8_join_2 (bX8_areTwo (a := (nI a)) (b := (nI b)) ) rfl (Nat.le_of_ble_eq_true rfl) (by decide) (by decide) rfl ?_
  refine aw_if_ne 14 dX8_join_5 (by decide) (fun c5 => ?_) (fun c5 => ?_)
  · have t5 := ite_1 c5
    refine aw_aload_n 0 dX8_join_14 rfl rfl ?_
    refine aw_iload_n 1 dX8_join_15 rfl rfl ?_
    refine aw_iload_n 2 dX8_join_16 rfl rfl ?_
    refine aw_eV [.int (nI a), .int (nI b)] [] lX8_124 vX8_bestJoining mX8_bestJoining dX8_join_17 (bJ (bv := bv) (J := J) (u := u) (v := v) (ro := ro) (co := co) (rc := rc) (lk := lk) (bs := bs) (wy := wy) (nw := nw) (P := P) (pv := pv) (su := su) (wa := wa) (pt := pt) (ce := ce) (m := m) (se := se) (ye := ye) (fi := fi) (W := W) (Sn := Sn) (Z := Z) (Ro := Ro) (Co := Co) (Ba := Ba) (nb := nb) (sp := sp) (fa := fa) (ve := ve) (a := a) (b := b) h0 h1 h2 h3 h4 h5 h6 h7 h8 h9 h10 h11 h12 hJ hJ_1 hJ_2 hJ_3 hu hv hP hP_1 hP_2 (by omega) (by omega) (by omega) hrc (by omega) hm hse hfi hye (by omega) (by omega) (by omega) (by omega) (by omega) (by omega) hlx hlx3 (by omega) (by omega) hJK) h0 rfl rfl rfl (Nat.le_of_ble_eq_true rfl) (by decide) (by decide) rfl (fun h4343 q4342 => ?_)
    obtain ⟨u14329, v14330, ro14331, co14332, rc14333, lk14334, bs14335, wy14336, nw14337, su14338, wa14339, pt14340, ce14341, f4344, f4345, f4346, f4347, f4348, f4349, f4350, f4351, f4352, k4353, p4354, p4355, p4356, p4357, p4358, p4359⟩ := q4342
    have f4360 := rg2_at k4353 (by omega) h0
    have f4361 := rg2_at k4353 (by omega) h1
    have f4362 := rg2_at k4353 (by omega) h2
    have f4363 := rg2_at k4353 (by omega) h3
    have f4364 := rg2_at k4353 (by omega) h4
    have f4365 := rg2_at k4353 (by omega) h5
    have f4366 := rg2_at k4353 (by omega) h6
    have f4367 := rg2_at k4353 (by omega) h7
    have f4368 := rg2_at k4353 (by omega) h8
    have f4369 := rg2_at k4353 (by omega) h9
    have f4370 := rg2_at k4353 (by omega) h10
    have f4371 := rg2_at k4353 (by omega) h11
    have f4372 := rg2_at k4353 (by omega) h12
    refine aw_get fX8_128 dX8_join_20 f4350 rfl ?_
    subst hQF
    exact aw_iret rfl dX8_join_23 (by decide) (by decide) ⟨_, rfl, _, _, _, _, _, _, _, _, _, _, _, _, _, f4344, f4345, f4346, f4347, f4348, f4349, f4350, f4351, f4352, rg2_tr (rg2_rf P (P + 2) J (J + 5) h) (rg2_w2 k4353 (by omega) (by omega)), p4354, p4355, p4356, p4357, p4358, p4359, p4359.1⟩
  · have t5 := ite_0 c5
    exfalso
    omega
set_option maxHeartbeats 4000000 in
theorem oX8_join_n {l : Launch} {G : xG} {h : List va_E} {bv : Value} {J : Nat} {P pv : Nat} {su wa : Int32} {pt ce : Nat → Int32} {m se ye fi : Nat → Nat} {W Sn Z Ro Co : Nat → Int32} {Ba : Nat → Int64} {nb sp fa ve : Nat} {lx : Nat → Nat → Nat} {a b : Nat} (h0 : h[0]? = some (oB 8 (lX G (.null) (bv)))) (h1 : h[1]? = some (oB 1 (lC G (nI nb) (nI sp) (nI fa) (nI ve)))) (h2 : h[2]? = some (aI 20 (nA m))) (h3 : h[3]? = some (aI 20 (nA se))) (h4 : h[4]? = some (aI 4 (nA ye))) (h5 : h[5]? = some (aI 4 (nA fi))) (h6 : h[6]? = some (aI 40 W)) (h7 : h[7]? = some (aI 40 Sn)) (h8 : h[8]? = some (aI 40 Z)) (h9 : h[9]? = some (aI 40 Ro)) (h10 : h[10]? = some (aI 40 Co)) (h11 : h[11]? = some (aL 40 Ba)) (h12 : h[12]? = some (aR 16 (xjo G.1 16))) (hP : h[P]? = some (oB 4 (lG G P su wa (nI pv)))) (hP_1 : h[P + 1]? = some (aI 10 pt)) (hP_2 : h[P + 2]? = some (aZ 10 ce)) (ba : a < 4) (bb : b < 4) (hab : a ≠ b) (hl : h.length = J) (hm : ∀ j, j < 20 → m j ≤ j) (hse : ∀ j, j < 20 → se j < 20) (hfi : ∀ j, j < 4 → fi j < 11) (hye : ∀ j, j < 4 → ye j < 1901) (qJ : 125 ≤ J) (qP : P + 2 < J) (qP1 : 12 < P) (hpt : pB pt) (eP : P = 13 + 3 * (a * 4 + b)) (hlx : ∀ i, i < fi a → ∀ k, k < fi b → likeC ye Sn Z Ro Co Ba sp fa (a * 10 + i) (b * 10 + k) = nI (lx i k)) (hlx3 : ∀ i k, lx i k ≤ 300) (bpv : pv ≤ 600) (bve : ve ≤ 600) (hvv : ¬ pv = ve) : CU l G yX8_join cX8_join 3 (some .int) 6 6 13430 [.ref (G.1 + 0), .int (nI a), .int (nI b)] h (fun r h1 => ∃ u1 : Nat, ∃ v1 : Nat, ∃ ro1 : Nat, ∃ co1 : Nat, ∃ rc1 : Nat → Nat, ∃ lk1 : Nat → Int32, ∃ bs1 : Nat → Int32, ∃ wy1 : Nat → Int32, ∃ nw1 : Nat → Int32, ∃ su1 : Int32, ∃ wa1 : Int32, ∃ pt1 : Nat → Int32, ∃ ce1 : Nat → Int32, h1[0]? = some (oB 8 (lX G (.ref (G.1 + J)) (bv))) ∧ h1[J]? = some (oB 3 (lJ G J (.ref (G.1 + u1)) (.ref (G.1 + v1)) (nI ro1) (nI co1))) ∧ h1[J + 1]? = some (aI 100 lk1) ∧ h1[J + 2]? = some (aI 11 (nA rc1)) ∧ h1[J + 3]? = some (aI 11264 bs1) ∧ h1[u1]? = some (aI 1024 wy1) ∧ h1[v1]? = some (aI 1024 nw1) ∧ h1[P]? = some (oB 4 (lG G P su1 wa1 (nI ve))) ∧ h1[P + 1]? = some (aI 10 pt1) ∧ h1[P + 2]? = some (aZ 10 ce1) ∧ grw 0 0 P (P + 2) h h1 ∧ (J + 4 ≤ u1 ∧ u1 ≤ J + 5) ∧ (J + 4 ≤ v1 ∧ v1 ≤ J + 5) ∧ (u1 ≠ v1 ∧ wZ wy1 nw1) ∧ (∀ j, j < 11 → rc1 j < 1024) ∧ pB pt1 ∧ jK lx (fi a) (fi b) su1 wa1 pt1 ce1 ∧ h1.length = J + 6 ∧ r = nI (jS lx (fi b) (fi a) 0 0)) := by
  refine cm_ofQ rfl (Nat.le_of_ble_eq_true rfl) [(0, .ref (G.1 + 0)), (1, .int (nI a)), (2, .int (nI b))] rfl (fun QF hQF => ?_)
  have tt_a : (nI a).toInt = (a : Int) := nI_toInt (by omega)
  have nn_a : tn (nI a) = a := tn_nI (by omega)
  have tt_b : (nI b).toInt = (b : Int) := nI_toInt (by omega)
  have nn_b : tn (nI b) = b := tn_nI (by omega)
  refine aw_iload_n 1 dX8_join_0 rfl rfl ?_
  refine aw_iload_n 2 dX8_join_1 rfl rfl ?_
  refine aw_dS [.int (nI a), .int (nI b)] [] lX8_104 sX8_areTwo mX8_areTwo dX8_join_2 (bX8_areTwo (a := (nI a)) (b := (nI b)) ) rfl (Nat.le_of_ble_eq_true rfl) (by decide) (by decide) rfl ?_
  refine aw_if_ne 14 dX8_join_5 (by decide) (fun c5 => ?_) (fun c5 => ?_)
  · have t5 := ite_1 c5
    refine aw_aload_n 0 dX8_join_14 rfl rfl ?_
    refine aw_iload_n 1 dX8_join_15 rfl rfl ?_
    refine aw_iload_n 2 dX8_join_16 rfl rfl ?_
    refine aw_eV [.int (nI a), .int (nI b)] [] lX8_124 vX8_bestJoining mX8_bestJoining dX8_join_17 (bJ_n (bv := bv) (P := P) (pv := pv) (su := su) (wa := wa) (pt := pt) (ce := ce) (m := m) (se := se) (ye := ye) (fi := fi) (W := W) (Sn := Sn) (Z := Z) (Ro := Ro) (Co := Co) (Ba := Ba) (nb := nb) (sp := sp) (fa := fa) (ve := ve) (a := a) (b := b) h0 h1 h2 h3 h4 h5 h6 h7 h8 h9 h10 h11 h12 hP hP_1 hP_2 (by omega) hm hse hfi hye (by omega) (by omega) (by omega) (by omega) (by omega) (by omega) (by omega) hlx hlx3 (by omega) (by omega) (by omega)) h0 rfl rfl rfl (Nat.le_of_ble_eq_true rfl) (by decide) (by decide) rfl (fun h4387 q4386 => ?_)
    obtain ⟨u14373, v14374, ro14375, co14376, rc14377, lk14378, bs14379, wy14380, nw14381, su14382, wa14383, pt14384, ce14385, f4388, f4389, f4390, f4391, f4392, f4393, f4394, f4395, f4396, f4397, k4398, p4399, p4400, p4401, p4402, p4403, p4404, p4405⟩ := q4386
    have f4406 := grw_at k4398 (by omega) h1
    have f4407 := grw_at k4398 (by omega) h2
    have f4408 := grw_at k4398 (by omega) h3
    have f4409 := grw_at k4398 (by omega) h4
    have f4410 := grw_at k4398 (by omega) h5
    have f4411 := grw_at k4398 (by omega) h6
    have f4412 := grw_at k4398 (by omega) h7
    have f4413 := grw_at k4398 (by omega) h8
    have f4414 := grw_at k4398 (by omega) h9
    have f4415 := grw_at k4398 (by omega) h10
    have f4416 := grw_at k4398 (by omega) h11
    have f4417 := grw_at k4398 (by omega) h12
    refine aw_get fX8_128 dX8_join_20 f4395 rfl ?_
    subst hQF
    exact aw_iret rfl dX8_join_23 (by decide) (by decide) ⟨_, rfl, _, _, _, _, _, _, _, _, _, _, _, _, _, f4388, f4389, f4390, f4391, f4392, f4393, f4394, f4395, f4396, f4397, grw_gg (grw_rf 0 0 P (P + 2) h) k4398 (fun j q1 q2 => by omega), p4399, p4400, p4401, p4402, p4403, p4404, p4405, p4404.1⟩
  · have t5 := ite_0 c5
    exfalso
    omega
