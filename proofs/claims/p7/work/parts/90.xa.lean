theorem aX5_lastPlace {l : Launch} {G : xG} {h : List va_E} {th ot dy so kn go od : Nat → Nat} {n : Nat} {wd : Int32} {r : Nat} {t d k : Nat} (hr : h[r]? = some (oB 5 (lR G r (nI n) wd))) (hr_1 : h[r + 1]? = some (aI 60 (nA th))) (hr_2 : h[r + 2]? = some (aI 60 (nA ot))) (hr_3 : h[r + 3]? = some (aI 60 (nA dy))) (hr_4 : h[r + 4]? = some (aI 60 (nA so))) (hr_5 : h[r + 5]? = some (aI 60 (nA kn))) (hr_6 : h[r + 6]? = some (aI 60 (nA go))) (hr_7 : h[r + 7]? = some (aI 60 (nA od))) (hn : n ≤ 60) (hod : srt dy od n) (bth : ∀ j, j < 60 → th j < 12) (bkn : ∀ j, j < 60 → kn j ≤ 80000) (bgo : ∀ j, j < 60 → go j ≤ 80001) (bdy : ∀ j, j < 60 → dy j ≤ 80000) (bt : t < 12) (bd : d ≤ 80000) (bk : k ≤ 80000) : CD l G yX5_lastPlace cX5_lastPlace 7 (some .int) 1 0 0 [.ref (G.1 + r), .int (nI t), .int (nI d), .int (nI k)] h (some (.int (lpF th ot dy kn go od t d k n))) h :=
  gX5_lastPlace ⟨hr, hr_1, hr_2, hr_3, hr_4, hr_5, hr_6, hr_7⟩ hn hod bth bkn bgo bdy rfl bt rfl bd rfl bk
set_option maxHeartbeats 4000000 in
theorem oX8_where {l : Launch} {G : xG} {h : List va_E} {jv bv : Value} {rf : Nat → Int32} {th ot dy so kn go od : Nat → Nat} {n : Nat} {wd : Int32} {t d k : Int32} (h0 : h[0]? = some (oB 8 (lX G (jv) (bv)))) (h87 : h[87]? = some (aI 7 rf)) (h61 : h[61]? = some (oB 5 (lR G 61 (nI n) wd))) (h62 : h[62]? = some (aI 60 (nA th))) (h63 : h[63]? = some (aI 60 (nA ot))) (h64 : h[64]? = some (aI 60 (nA dy))) (h65 : h[65]? = some (aI 60 (nA so))) (h66 : h[66]? = some (aI 60 (nA kn))) (h67 : h[67]? = some (aI 60 (nA go))) (h68 : h[68]? = some (aI 60 (nA od))) (hn : n ≤ 60) (hod : srt dy od n) (bth : ∀ j, j < 60 → th j < 12) (bkn : ∀ j, j < 60 → kn j ≤ 80000) (bgo : ∀ j, j < 60 → go j ≤ 80001) (bdy : ∀ j, j < 60 → dy j ≤ 80000) : CE l G yX8_where cX8_where 5 (some .int) 2 0 0 [.ref (G.1 + 0), .int t, .int d, .int k] h (some (.int (if (0 ≤ t.toInt ∧ t.toInt < 12) then (if dyF d k = 0 then lpF th ot dy kn go od (tn t) (tn d) (tn k) n else dyF d k) else -1))) (fun h1 => ∃ rf1 : Nat → Int32, h1[87]? = some (aI 7 rf1) ∧ rng 87 87 h h1) := by
  refine cm_ofQ rfl (Nat.le_of_ble_eq_true rfl) [(0, .ref (G.1 + 0)), (1, .int t), (2, .int d), (3, .int k)] rfl (fun QF hQF => ?_)
  refine aw_iload_n 1 dX8_where_0 rfl rfl ?_
  refine aw_dS [.int t] [] lX8_154 sX8_isThing mX8_isThing dX8_where_1 (bX8_isThing (x := t) ) rfl (Nat.le_of_ble_eq_true rfl) (by decide) (by decide) rfl ?_
  refine aw_if_ne 13 dX8_where_4 (by decide) (fun c4 => ?_) (fun c4 => ?_)
  · have t4 := ite_1 c4
    refine aw_iload_n 2 dX8_where_13 rfl rfl ?_
    refine aw_iload_n 3 dX8_where_14 rfl rfl ?_
    refine aw_dS [.int d, .int k] [] lX8_157 sX8_daysRefusal mX8_daysRefusal dX8_where_15 (bX8_daysRefusal (x := d) (k := k) ) rfl (Nat.le_of_ble_eq_true rfl) (by decide) (by decide) rfl ?_
    refine aw_istore [(4, .int (dyF d k)), (0, .ref (G.1 + 0)), (1, .int t), (2, .int d), (3, .int k)] dX8_where_18 (by decide) rfl ?_
    refine aw_iload 0 dX8_where_20 rfl ?_
    refine aw_if_eq 32 dX8_where_22 (by decide) (fun c22 => ?_) (fun c22 => ?_)
    · have d22 := (j_eq (a := (dyF d k).toInt) (b := (0)) (rfl) (rfl)).mp c22
      have hdd := dyF_0 c22
      obtain ⟨t0, bb_t0, ee_t0⟩ := i_nat (x := t) (N := 12) (by omega) (by omega)
      subst ee_t0
      have tt_t0 : (nI t0).toInt = (t0 : Int) := nI_toInt (by omega)
      have nn_t0 : tn (nI t0) = t0 := tn_nI (by omega)
      obtain ⟨d0, bb_d0, ee_d0⟩ := i_nat (x := d) (N := 80001) (by omega) (by omega)
      subst ee_d0
      have tt_d0 : (nI d0).toInt = (d0 : Int) := nI_toInt (by omega)
      have nn_d0 : tn (nI d0) = d0 := tn_nI (by omega)
      obtain ⟨k0, bb_k0, ee_k0⟩ := i_nat (x := k) (N := 80001) (by omega) (by omega)
      subst ee_k0
      have tt_k0 : (nI k0).toInt = (k0 : Int) := nI_toInt (by omega)
      have nn_k0 : tn (nI k0) = k0 := tn_nI (by omega)
      refine aw_aload_n 1 dX8_where_32 rfl rfl ?_
      refine aw_get fX8_34 dX8_where_33 h0 rfl ?_
      refine aw_iload_n 2 dX8_where_36 rfl rfl ?_
      refine aw_iload_n 3 dX8_where_37 rfl rfl ?_
      refine aw_iload_n 4 dX8_where_38 rfl rfl ?_
      refine aw_dV [.int (nI t0), .int (nI d0), .int (nI k0)] [] lX8_176 vX5_lastPlace mX5_lastPlace dX8_where_39 (aX5_lastPlace (th := th) (ot := ot) (dy := dy) (so := so) (kn := kn) (go := go) (od := od) (n := n) (wd := wd) (r := 61) (t := t0) (d := d0) (k := k0) h61 h62 h63 h64 h65 h66 h67 h68 (by omega) hod bth bkn bgo bdy (by omega) (by omega) (by omega)) h61 rfl rfl rfl (Nat.le_of_ble_eq_true rfl) (by decide) (by decide) rfl ?_
      subst hQF
      exact aw_iret rfl dX8_where_42 (by decide) (by decide) ⟨by rw [if_pos (by omega), if_pos c22, nn_t0, nn_d0, nn_k0], _, h87, rng_rf 87 87 h⟩
    · have d22 := mt (j_eq (a := (dyF d k).toInt) (b := (0)) (rfl) (rfl)).mpr c22
      refine aw_aload_n 1 dX8_where_25 rfl rfl ?_
      refine aw_iload 0 dX8_where_26 rfl ?_
      obtain ⟨q1713, bq1713, eq1713⟩ := Or.resolve_left (dyF_q d k) (by assumption)
      refine aw_eV [.int (dyF d k)] [] lX8_70 vX8_refuse mX8_refuse dX8_where_28 (bX8_refuse (jv := jv) (bv := bv) (rf := rf) (x := (dyF d k)) (q := q1713) h0 h87 bq1713 eq1713) h0 rfl rfl rfl (Nat.le_of_ble_eq_true rfl) (by decide) (by decide) rfl (fun h1716 q1715 => ?_)
      obtain ⟨rf11714, f1717, k1718⟩ := q1715
      have f1719 := rng_at k1718 (by decide) h0
      have f1720 := rng_at k1718 (by decide) h61
      have f1721 := rng_at k1718 (by decide) h62
      have f1722 := rng_at k1718 (by decide) h63
      have f1723 := rng_at k1718 (by decide) h64
      have f1724 := rng_at k1718 (by decide) h65
      have f1725 := rng_at k1718 (by decide) h66
      have f1726 := rng_at k1718 (by decide) h67
      have f1727 := rng_at k1718 (by decide) h68
      subst hQF
      exact aw_iret rfl dX8_where_31 (by decide) (by decide) ⟨by rw [if_pos (by omega), if_neg c22], _, f1717, rng_tr (rng_rf 87 87 h) (rng_w k1718 (by decide) (by decide))⟩
  · have t4 := ite_0 c4
    refine aw_aload_n 0 dX8_where_7 rfl rfl ?_
    refine aw_iconst (-1) dX8_where_8 (by decide) ?_
    refine aw_eV [.int (-1)] [] lX8_70 vX8_refuse mX8_refuse dX8_where_9 (bX8_refuse (jv := jv) (bv := bv) (rf := rf) (x := (-1)) (q := 1) h0 h87 (by decide) (by decide)) h0 rfl rfl rfl (Nat.le_of_ble_eq_true rfl) (by decide) (by decide) rfl (fun h1730 q1729 => ?_)
    obtain ⟨rf11728, f1731, k1732⟩ := q1729
    have f1733 := rng_at k1732 (by decide) h0
    have f1734 := rng_at k1732 (by decide) h61
    have f1735 := rng_at k1732 (by decide) h62
    have f1736 := rng_at k1732 (by decide) h63
    have f1737 := rng_at k1732 (by decide) h64
    have f1738 := rng_at k1732 (by decide) h65
    have f1739 := rng_at k1732 (by decide) h66
    have f1740 := rng_at k1732 (by decide) h67
    have f1741 := rng_at k1732 (by decide) h68
    subst hQF
    exact aw_iret rfl dX8_where_12 (by decide) (by decide) ⟨by rw [if_neg (by omega)], _, f1731, rng_tr (rng_rf 87 87 h) (rng_w k1732 (by decide) (by decide))⟩
set_option maxHeartbeats 4000000 in
theorem oX8_quarrels {l : Launch} {G : xG} {h : List va_E} {jv bv : Value} {rf : Nat → Int32} {th ot dy so kn go od : Nat → Nat} {n : Nat} {wd : Int32} {t k : Int32} (h0 : h[0]? = some (oB 8 (lX G (jv) (bv)))) (h87 : h[87]? = some (aI 7 rf)) (h61 : h[61]? = some (oB 5 (lR G 61 (nI n) wd))) (h62 : h[62]? = some (aI 60 (nA th))) (h63 : h[63]? = some (aI 60 (nA ot))) (h64 : h[64]? = some (aI 60 (nA dy))) (h65 : h[65]? = some (aI 60 (nA so))) (h66 : h[66]? = some (aI 60 (nA kn))) (h67 : h[67]? = some (aI 60 (nA go))) (h68 : h[68]? = some (aI 60 (nA od))) (hn : n ≤ 60) (hod : srt dy od n) (bth : ∀ j, j < 60 → th j < 12) (bkn : ∀ j, j < 60 → kn j ≤ 80000) (bgo : ∀ j, j < 60 → go j ≤ 80001) (bdy : ∀ j, j < 60 → dy j ≤ 80000) (bot : ∀ j, j < 60 → ot j < 8) : CE l G yX8_quarrels cX8_quarrels 4 (some .int) 2 0 0 [.ref (G.1 + 0), .int t, .int k] h (some (.int (if (0 ≤ t.toInt ∧ t.toInt < 12) then (if dyF k k = 0 then nI (qdF th ot dy kn go od (tn t) (tn k) n).1 else dyF k k) else -1))) (fun h1 => ∃ rf1 : Nat → Int32, h1[87]? = some (aI 7 rf1) ∧ rng 87 87 h h1) := by
  refine cm_ofQ rfl (Nat.le_of_ble_eq_true rfl) [(0, .ref (G.1 + 0)), (1, .int t), (2, .int k)] rfl (fun QF hQF => ?_)
  refine aw_iload_n 1 dX8_quarrels_0 rfl rfl ?_
  refine aw_dS [.int t] [] lX8_154 sX8_isThing mX8_isThing dX8_quarrels_1 (bX8_isThing (x := t) ) rfl (Nat.le_of_ble_eq_true rfl) (by decide) (by decide) rfl ?_
  refine aw_if_ne 13 dX8_quarrels_4 (by decide) (fun c4 => ?_) (fun c4 => ?_)
  · have t4 := ite_1 c4
    refine aw_iload_n 2 dX8_quarrels_13 rfl rfl ?_
    refine aw_iload_n 2 dX8_quarrels_14 rfl rfl ?_
    refine aw_dS [.int k, .int k] [] lX8_157 sX8_daysRefusal mX8_daysRefusal dX8_quarrels_15 (bX8_daysRefusal (x := k) (k := k) ) rfl (Nat.le_of_ble_eq_true rfl) (by decide) (by decide) rfl ?_
    refine aw_istore_n [(3, .int (dyF k k)), (0, .ref (G.1 + 0)), (1, .int t), (2, .int k)] dX8_quarrels_18 rfl (by decide) rfl ?_
    refine aw_iload_n 0 dX8_quarrels_19 rfl rfl ?_
    refine aw_if_eq 29 dX8_quarrels_20 (by decide) (fun c20 => ?_) (fun c20 => ?_)
    · have d20 := (j_eq (a := (dyF k k).toInt) (b := (0)) (rfl) (rfl)).mp c20
      have hdd := dyF_0 c20
      obtain ⟨t0, bb_t0, ee_t0⟩ := i_nat (x := t) (N := 12) (by omega) (by omega)
      subst ee_t0
      have tt_t0 : (nI t0).toInt = (t0 : Int) := nI_toInt (by omega)
      have nn_t0 : tn (nI t0) = t0 := tn_nI (by omega)
      obtain ⟨k0, bb_k0, ee_k0⟩ := i_nat (x := k) (N := 80001) (by omega) (by omega)
      subst ee_k0
      have tt_k0 : (nI k0).toInt = (k0 : Int) := nI_toInt (by omega)
      have nn_k0 : tn (nI k0) = k0 := tn_nI (by omega)
      refine aw_aload_n 1 dX8_quarrels_29 rfl rfl ?_
      refine aw_get fX8_34 dX8_quarrels_30 h0 rfl ?_
      refine aw_iload_n 2 dX8_quarrels_33 rfl rfl ?_
      refine aw_iload_n 3 dX8_quarrels_34 rfl rfl ?_
      refine aw_dV [.int (nI t0), .int (nI k0)] [] lX8_180 vX5_quarrelDays mX5_quarrelDays dX8_quarrels_35 (aX5_quarrelDays (th := th) (ot := ot) (dy := dy) (so := so) (kn := kn) (go := go) (od := od) (n := n) (wd := wd) (r := 61) (t := t0) (k := k0) h61 h62 h63 h64 h65 h66 h67 h68 (by omega) hod bth bkn bgo bdy bot (by omega) (by omega)) h61 rfl rfl rfl (Nat.le_of_ble_eq_true rfl) (by decide) (by decide) rfl ?_
      subst hQF
      exact aw_iret rfl dX8_quarrels_38 (by decide) (by decide) ⟨by rw [if_pos (by omega), if_pos c20, nn_t0, nn_k0], _, h87, rng_rf 87 87 h⟩
    · have d20 := mt (j_eq (a := (dyF k k).toInt) (b := (0)) (rfl) (rfl)).mpr c20
      refine aw_aload_n 1 dX8_quarrels_23 rfl rfl ?_
      refine aw_iload_n 0 dX8_quarrels_24 rfl rfl ?_
      obtain ⟨q1742, bq1742, eq1742⟩ := Or.resolve_left (dyF_q k k) (by assumption)
      refine aw_eV [.int (dyF k k)] [] lX8_70 vX8_refuse mX8_refuse dX8_quarrels_25 (bX8_refuse (jv := jv) (bv := bv) (rf := rf) (x := (dyF k k)) (q := q1742) h0 h87 bq1742 eq1742) h0 rfl rfl rfl (Nat.le_of_ble_eq_true rfl) (by decide) (by decide) rfl (fun h1745 q1744 => ?_)
      obtain ⟨rf11743, f1746, k1747⟩ := q1744
      have f1748 := rng_at k1747 (by decide) h0
      have f1749 := rng_at k1747 (by decide) h61
      have f1750 := rng_at k1747 (by decide) h62
      have f1751 := rng_at k1747 (by decide) h63
      have f1752 := rng_at k1747 (by decide) h64
      have f1753 := rng_at k1747 (by decide) h65
      have f1754 := rng_at k1747 (by decide) h66
      have f1755 := rng_at k1747 (by decide) h67
      have f1756 := rng_at k1747 (by decide) h68
      subst hQF
      exact aw_iret rfl dX8_quarrels_28 (by decide) (by decide) ⟨by rw [if_pos (by omega), if_neg c20], _, f1746, rng_tr (rng_rf 87 87 h) (rng_w k1747 (by decide) (by decide))⟩
  · have t4 := ite_0 c4
    refine aw_aload_n 0 dX8_quarrels_7 rfl rfl ?_
    refine aw_iconst (-1) dX8_quarrels_8 (by decide) ?_
    refine aw_eV [.int (-1)] [] lX8_70 vX8_refuse mX8_refuse dX8_quarrels_9 (bX8_refuse (jv := jv) (bv := bv) (rf := rf) (x := (-1)) (q := 1) h0 h87 (by decide) (by decide)) h0 rfl rfl rfl (Nat.le_of_ble_eq_true rfl) (by decide) (by decide) rfl (fun h1759 q1758 => ?_)
    obtain ⟨rf11757, f1760, k1761⟩ := q1758
    have f1762 := rng_at k1761 (by decide) h0
    have f1763 := rng_at k1761 (by decide) h61
    have f1764 := rng_at k1761 (by decide) h62
    have f1765 := rng_at k1761 (by decide) h63
    have f1766 := rng_at k1761 (by decide) h64
    have f1767 := rng_at k1761 (by decide) h65
    have f1768 := rng_at k1761 (by decide) h66
    have f1769 := rng_at k1761 (by decide) h67
    have f1770 := rng_at k1761 (by decide) h68
    subst hQF
    exact aw_iret rfl dX8_quarrels_12 (by decide) (by decide) ⟨by rw [if_neg (by omega)], _, f1760, rng_tr (rng_rf 87 87 h) (rng_w k1761 (by decide) (by decide))⟩
