set_option maxHeartbeats 4000000 in
theorem bX8_isEntry {l : Launch} {G : xG} {h : List va_E} {jv bv : Value} {fi : Nat → Nat} {nb sp fa ve : Nat} {c i : Int32} (h0 : h[0]? = some (oB 8 (lX G (jv) (bv)))) (h1 : h[1]? = some (oB 1 (lC G (nI nb) (nI sp) (nI fa) (nI ve)))) (h5 : h[5]? = some (aI 4 (nA fi))) (hfi : ∀ j, j < 4 → fi j < 11) : CD l G yX8_isEntry cX8_isEntry 3 (some .boolean) 2 0 0 [.ref (G.1 + 0), .int c, .int i] h (some (.int (if ((0 ≤ c.toInt ∧ c.toInt < 4) ∧ 0 ≤ i.toInt ∧ i.toInt < (fi (tn c) : Int)) then 1 else 0))) h := by
  refine cm_ofQ rfl (Nat.le_of_ble_eq_true rfl) [(0, .ref (G.1 + 0)), (1, .int c), (2, .int i)] rfl (fun QF hQF => ?_)
  refine aw_iload_n 1 dX8_isEntry_0 rfl rfl ?_
  refine aw_dS [.int c] [] lX8_81 sX8_isCatalogue mX8_isCatalogue dX8_isEntry_1 (bX8_isCatalogue (x := c) ) rfl (Nat.le_of_ble_eq_true rfl) (by decide) (by decide) rfl ?_
  refine aw_if_eq 28 dX8_isEntry_4 (by decide) (fun c4 => ?_) (fun c4 => ?_)
  · have t4 := ite_0 c4
    refine aw_iconst (0) dX8_isEntry_28 (by decide) ?_
    subst hQF
    exact aw_zret rfl rfl dX8_isEntry_29 (by decide) (by decide) ⟨by rw [if_neg (by omega)], rfl⟩
  · have t4 := ite_1 c4
    obtain ⟨ca, bb_ca, ee_ca⟩ := i_nat (x := c) (N := 4) (by omega) (by omega)
    subst ee_ca
    have tt_ca : (nI ca).toInt = (ca : Int) := nI_toInt (by omega)
    have nn_ca : tn (nI ca) = ca := tn_nI (by omega)
    refine aw_iload_n 2 dX8_isEntry_7 rfl rfl ?_
    refine aw_if_lt 28 dX8_isEntry_8 (by decide) (fun c8 => ?_) (fun c8 => ?_)
    · have d8 := (j_lt (a := i.toInt) (b := (0)) (rfl) (rfl)).mp c8
      refine aw_iconst (0) dX8_isEntry_28 (by decide) ?_
      subst hQF
      exact aw_zret rfl rfl dX8_isEntry_29 (by decide) (by decide) ⟨by rw [if_neg (by rw [nn_ca]; omega)], rfl⟩
    · have d8 := mt (j_lt (a := i.toInt) (b := (0)) (rfl) (rfl)).mpr c8
      refine aw_iload_n 2 dX8_isEntry_11 rfl rfl ?_
      refine aw_aload_n 0 dX8_isEntry_12 rfl rfl ?_
      refine aw_get fX8_20 dX8_isEntry_13 h0 rfl ?_
      refine aw_get fX8_91 dX8_isEntry_16 h1 rfl ?_
      refine aw_iload_n 1 dX8_isEntry_19 rfl rfl ?_
      refine aw_iald ca (rfl) (by omega) (by decide) dX8_isEntry_20 h5 ?_
      refine aw_toe (nI (fi ca)) (rfl) ?_
      have b1789 := hfi ca (by omega)
      refine aw_icmp_ge 28 dX8_isEntry_21 (by decide) (fun c21 => ?_) (fun c21 => ?_)
      · have d21 := (j_le (a := ((fi ca : Nat) : Int)) (b := i.toInt) (i_toNat (rfl) (by omega)) (rfl)).mp c21
        refine aw_iconst (0) dX8_isEntry_28 (by decide) ?_
        subst hQF
        exact aw_zret rfl rfl dX8_isEntry_29 (by decide) (by decide) ⟨by rw [if_neg (by rw [nn_ca]; omega)], rfl⟩
      · have d21 := mt (j_le (a := ((fi ca : Nat) : Int)) (b := i.toInt) (i_toNat (rfl) (by omega)) (rfl)).mpr c21
        refine aw_iconst (1) dX8_isEntry_24 (by decide) ?_
        refine aw_goto 29 dX8_isEntry_25 (by decide) ?_
        subst hQF
        exact aw_zret rfl rfl dX8_isEntry_29 (by decide) (by decide) ⟨by rw [if_pos (by rw [nn_ca]; omega)], rfl⟩
def baU (Ba : Nat → Int64) (e f : Nat) : Nat → Int64 := vp_updL (vp_updL Ba e (Ba e ||| 1 <<< ((nI f).toInt64 &&& 63))) f (vp_updL Ba e (Ba e ||| 1 <<< ((nI f).toInt64 &&& 63)) f ||| 1 <<< ((nI e).toInt64 &&& 63))
def spBa (ok : Prop) [Decidable ok] (Ba : Nat → Int64) (e f : Nat) : Nat → Int64 := if ok then baU Ba e f else Ba
theorem spBa_y {ok : Prop} [Decidable ok] {Ba : Nat → Int64} {e f : Nat} (h : ok) : spBa ok Ba e f = vp_updL (vp_updL Ba e (Ba e ||| 1 <<< ((nI f).toInt64 &&& 63))) f (vp_updL Ba e (Ba e ||| 1 <<< ((nI f).toInt64 &&& 63)) f ||| 1 <<< ((nI e).toInt64 &&& 63)) := if_pos h
theorem spBa_n {ok : Prop} [Decidable ok] {Ba : Nat → Int64} {e f : Nat} (h : ¬ ok) : spBa ok Ba e f = Ba := if_neg h
set_option maxHeartbeats 4000000 in
theorem oX8_bar {l : Launch} {G : xG} {h : List va_E} {jv bv : Value} {rf : Nat → Int32} {m se ye fi : Nat → Nat} {W Sn Z Ro Co : Nat → Int32} {Ba : Nat → Int64} {nb sp fa ve : Nat} {a i b k : Int32} (h0 : h[0]? = some (oB 8 (lX G (jv) (bv)))) (h87 : h[87]? = some (aI 7 rf)) (h1 : h[1]? = some (oB 1 (lC G (nI nb) (nI sp) (nI fa) (nI ve)))) (h2 : h[2]? = some (aI 20 (nA m))) (h3 : h[3]? = some (aI 20 (nA se))) (h4 : h[4]? = some (aI 4 (nA ye))) (h5 : h[5]? = some (aI 4 (nA fi))) (h6 : h[6]? = some (aI 40 W)) (h7 : h[7]? = some (aI 40 Sn)) (h8 : h[8]? = some (aI 40 Z)) (h9 : h[9]? = some (aI 40 Ro)) (h10 : h[10]? = some (aI 40 Co)) (h11 : h[11]? = some (aL 40 Ba)) (hm : ∀ j, j < 20 → m j ≤ j) (hse : ∀ j, j < 20 → se j < 20) (hfi : ∀ j, j < 4 → fi j < 11) (hye : ∀ j, j < 4 → ye j < 1901) (hnb : nb ≤ 30) : CE l G yX8_bar cX8_bar 7 (some .int) 3 0 0 [.ref (G.1 + 0), .int a, .int i, .int b, .int k] h (some (.int (spBarA fi nb (¬ barF Ba (tn a * 10 + tn i) (nI (tn b * 10 + tn k)) = 0) a i b k))) (fun h1 => ∃ ve1 : Nat, ∃ rf1 : Nat → Int32, h1[1]? = some (oB 1 (lC G (nI (spN ((spBarA fi nb (¬ barF Ba (tn a * 10 + tn i) (nI (tn b * 10 + tn k)) = 0) a i b k) = 1) nb (nb + 1))) (nI sp) (nI fa) (nI ve1))) ∧ h1[2]? = some (aI 20 (nA m)) ∧ h1[3]? = some (aI 20 (nA se)) ∧ h1[4]? = some (aI 4 (nA ye)) ∧ h1[5]? = some (aI 4 (nA fi)) ∧ h1[6]? = some (aI 40 W) ∧ h1[7]? = some (aI 40 Sn) ∧ h1[8]? = some (aI 40 Z) ∧ h1[9]? = some (aI 40 Ro) ∧ h1[10]? = some (aI 40 Co) ∧ h1[11]? = some (aL 40 (spBa ((spBarA fi nb (¬ barF Ba (tn a * 10 + tn i) (nI (tn b * 10 + tn k)) = 0) a i b k) = 1) Ba (tn a * 10 + tn i) (tn b * 10 + tn k))) ∧ h1[87]? = some (aI 7 rf1) ∧ rg2 1 11 87 87 h h1 ∧ (ve1 = ve + 1 ∨ (ve1 = ve ∧ ¬ ((spBarA fi nb (¬ barF Ba (tn a * 10 + tn i) (nI (tn b * 10 + tn k)) = 0) a i b k) = 1)))) := by
  refine cm_ofQ rfl (Nat.le_of_ble_eq_true rfl) [(0, .ref (G.1 + 0)), (1, .int a), (2, .int i), (3, .int b), (4, .int k)] rfl (fun QF hQF => ?_)
  refine aw_iload_n 1 dX8_bar_0 rfl rfl ?_
  refine aw_iload_n 3 dX8_bar_1 rfl rfl ?_
  refine aw_dS [.int a, .int b] [] lX8_104 sX8_areTwo mX8_areTwo dX8_bar_2 (bX8_areTwo (a := a) (b := b) ) rfl (Nat.le_of_ble_eq_true rfl) (by decide) (by decide) rfl ?_
  refine aw_if_eq 27 dX8_bar_5 (by decide) (fun c5 => ?_) (fun c5 => ?_)
  · have t5 := ite_0 c5
    refine aw_aload_n 0 dX8_bar_27 rfl rfl ?_
    refine aw_iconst (-1) dX8_bar_28 (by decide) ?_
    refine aw_eV [.int (-1)] [] lX8_70 vX8_refuse mX8_refuse dX8_bar_29 (bX8_refuse (jv := jv) (bv := bv) (rf := rf) (x := (-1)) (q := 1) h0 h87 (by decide) (by decide)) h0 rfl rfl rfl (Nat.le_of_ble_eq_true rfl) (by decide) (by decide) rfl (fun h1792 q1791 => ?_)
    obtain ⟨rf11790, f1793, k1794⟩ := q1791
    have f1795 := rng_at k1794 (by decide) h0
    have f1796 := rng_at k1794 (by decide) h1
    have f1797 := rng_at k1794 (by decide) h2
    have f1798 := rng_at k1794 (by decide) h3
    have f1799 := rng_at k1794 (by decide) h4
    have f1800 := rng_at k1794 (by decide) h5
    have f1801 := rng_at k1794 (by decide) h6
    have f1802 := rng_at k1794 (by decide) h7
    have f1803 := rng_at k1794 (by decide) h8
    have f1804 := rng_at k1794 (by decide) h9
    have f1805 := rng_at k1794 (by decide) h10
    have f1806 := rng_at k1794 (by decide) h11
    subst hQF
    have eS : (spBarA fi nb (¬ barF Ba (tn a * 10 + tn i) (nI (tn b * 10 + tn k)) = 0) a i b k) = (-1) := by unfold spBarA; (repeat' split) <;> first | (exfalso; omega) | rfl | contradiction
    have ok9 : ¬ (spBarA fi nb (¬ barF Ba (tn a * 10 + tn i) (nI (tn b * 10 + tn k)) = 0) a i b k) = 1 := by rw [eS]; decide
    exact aw_iret rfl dX8_bar_32 (by decide) (by decide) ⟨by rw [eS], _, _, by rw [spN_n ok9]; exact f1796, f1797, f1798, f1799, f1800, f1801, f1802, f1803, f1804, f1805, by rw [spBa_n ok9]; exact f1806, f1793, rg2_tr (rg2_rf 1 11 87 87 h) (rg2_w k1794 (by decide)), Or.inr ⟨rfl, ok9⟩⟩
  · have t5 := ite_1 c5
    refine aw_aload_n 0 dX8_bar_8 rfl rfl ?_
    refine aw_iload_n 1 dX8_bar_9 rfl rfl ?_
    refine aw_iload_n 2 dX8_bar_10 rfl rfl ?_
    refine aw_dV [.int a, .int i] [] lX8_107 vX8_isEntry mX8_isEntry dX8_bar_11 (bX8_isEntry (jv := jv) (bv := bv) (fi := fi) (nb := nb) (sp := sp) (fa := fa) (ve := ve) (c := a) (i := i) h0 h1 h5 hfi) h0 rfl rfl rfl (Nat.le_of_ble_eq_true rfl) (by decide) (by decide) rfl ?_
    refine aw_if_eq 27 dX8_bar_14 (by decide) (fun c14 => ?_) (fun c14 => ?_)
    · have t14 := ite_0 c14
      refine aw_aload_n 0 dX8_bar_27 rfl rfl ?_
      refine aw_iconst (-1) dX8_bar_28 (by decide) ?_
      refine aw_eV [.int (-1)] [] lX8_70 vX8_refuse mX8_refuse dX8_bar_29 (bX8_refuse (jv := jv) (bv := bv) (rf := rf) (x := (-1)) (q := 1) h0 h87 (by decide) (by decide)) h0 rfl rfl rfl (Nat.le_of_ble_eq_true rfl) (by decide) (by decide) rfl (fun h1809 q1808 => ?_)
      obtain ⟨rf11807, f1810, k1811⟩ := q1808
      have f1812 := rng_at k1811 (by decide) h0
      have f1813 := rng_at k1811 (by decide) h1
      have f1814 := rng_at k1811 (by decide) h2
      have f1815 := rng_at k1811 (by decide) h3
      have f1816 := rng_at k1811 (by decide) h4
      have f1817 := rng_at k1811 (by decide) h5
      have f1818 := rng_at k1811 (by decide) h6
      have f1819 := rng_at k1811 (by decide) h7
      have f1820 := rng_at k1811 (by decide) h8
      have f1821 := rng_at k1811 (by decide) h9
      have f1822 := rng_at k1811 (by decide) h10
      have f1823 := rng_at k1811 (by decide) h11
      subst hQF
      have eS : (spBarA fi nb (¬ barF Ba (tn a * 10 + tn i) (nI (tn b * 10 + tn k)) = 0) a i b k) = (-1) := by unfold spBarA; (repeat' split) <;> first | (exfalso; omega) | rfl | contradiction
      have ok9 : ¬ (spBarA fi nb (¬ barF Ba (tn a * 10 + tn i) (nI (tn b * 10 + tn k)) = 0) a i b k) = 1 := by rw [eS]; decide
      exact aw_iret rfl dX8_bar_32 (by decide) (by decide) ⟨by rw [eS], _, _, by rw [spN_n ok9]; exact f1813, f1814, f1815, f1816, f1817, f1818, f1819, f1820, f1821, f1822, by rw [spBa_n ok9]; exact f1823, f1810, rg2_tr (rg2_rf 1 11 87 87 h) (rg2_w k1811 (by decide)), Or.inr ⟨rfl, ok9⟩⟩
    · have t14 := ite_1 c14
      refine aw_aload_n 0 dX8_bar_17 rfl rfl ?_
      refine aw_iload_n 3 dX8_bar_18 rfl rfl ?_
      refine aw_iload 4 dX8_bar_19 rfl ?_
      refine aw_dV [.int b, .int k] [] lX8_107 vX8_isEntry mX8_isEntry dX8_bar_21 (bX8_isEntry (jv := jv) (bv := bv) (fi := fi) (nb := nb) (sp := sp) (fa := fa) (ve := ve) (c := b) (i := k) h0 h1 h5 hfi) h0 rfl rfl rfl (Nat.le_of_ble_eq_true rfl) (by decide) (by decide) rfl ?_
      refine aw_if_ne 33 dX8_bar_24 (by decide) (fun c24 => ?_) (fun c24 => ?_)
      · have t24 := ite_1 c24
        have fa0 := hfi (tn a) (by unfold tn; omega)
        have fb0 := hfi (tn b) (by unfold tn; omega)
        obtain ⟨a0, bb_a0, ee_a0⟩ := i_nat (x := a) (N := 4) (by omega) (by omega)
        subst ee_a0
        have tt_a0 : (nI a0).toInt = (a0 : Int) := nI_toInt (by omega)
        have nn_a0 : tn (nI a0) = a0 := tn_nI (by omega)
        obtain ⟨b0, bb_b0, ee_b0⟩ := i_nat (x := b) (N := 4) (by omega) (by omega)
        subst ee_b0
        have tt_b0 : (nI b0).toInt = (b0 : Int) := nI_toInt (by omega)
        have nn_b0 : tn (nI b0) = b0 := tn_nI (by omega)
        rw [nn_a0] at t14 fa0
        rw [nn_b0] at t24 fb0
        obtain ⟨i0, bb_i0, ee_i0⟩ := i_nat (x := i) (N := 10) (by omega) (by omega)
        subst ee_i0
        have tt_i0 : (nI i0).toInt = (i0 : Int) := nI_toInt (by omega)
        have nn_i0 : tn (nI i0) = i0 := tn_nI (by omega)
        obtain ⟨k0, bb_k0, ee_k0⟩ := i_nat (x := k) (N := 10) (by omega) (by omega)
        subst ee_k0
        have tt_k0 : (nI k0).toInt = (k0 : Int) := nI_toInt (by omega)
        have nn_k0 : tn (nI k0) = k0 := tn_nI (by omega)
        refine aw_iload_n 1 dX8_bar_33 rfl rfl ?_
        refine aw_bipush (10) dX8_bar_34 (by decide) ?_
        refine aw_imul dX8_bar_36 ?_
        refine aw_toe (nI (a0 * 10)) (nv_mul (rfl) (rfl)) ?_
        refine aw_iload_n 2 dX8_bar_37 rfl rfl ?_
        refine aw_iadd dX8_bar_38 ?_
        refine aw_toe (nI ((a0 * 10) + i0)) (nv_add (rfl) (rfl)) ?_
        refine aw_istore [(5, .int (nI ((a0 * 10) + i0))), (0, .ref (G.1 + 0)), (1, .int (nI a0)), (2, .int (nI i0)), (3, .int (nI b0)), (4, .int (nI k0))] dX8_bar_39 (by decide) rfl ?_
        refine aw_iload_n 4 dX8_bar_41 rfl rfl ?_
        refine aw_bipush (10) dX8_bar_42 (by decide) ?_
        refine aw_imul dX8_bar_44 ?_
        refine aw_toe (nI (b0 * 10)) (nv_mul (rfl) (rfl)) ?_
        refine aw_iload 5 dX8_bar_45 rfl ?_
        refine aw_iadd dX8_bar_47 ?_
        refine aw_toe (nI ((b0 * 10) + k0)) (nv_add (rfl) (rfl)) ?_
        refine aw_istore [(6, .int (nI ((b0 * 10) + k0))), (5, .int (nI ((a0 * 10) + i0))), (0, .ref (G.1 + 0)), (1, .int (nI a0)), (2, .int (nI i0)), (3, .int (nI b0)), (4, .int (nI k0))] dX8_bar_48 (by decide) rfl ?_
        refine aw_aload_n 2 dX8_bar_50 rfl rfl ?_
        refine aw_get fX8_20 dX8_bar_51 h0 rfl ?_
        refine aw_iload 1 dX8_bar_54 rfl ?_
        refine aw_iload 0 dX8_bar_56 rfl ?_
        refine aw_dV [.int (nI ((a0 * 10) + i0)), .int (nI ((b0 * 10) + k0))] [] lX8_110 vX1_isBarTold mX1_isBarTold dX8_bar_58 (aX1_isBarTold (m := m) (se := se) (ye := ye) (fi := fi) (W := W) (Sn := Sn) (Z := Z) (Ro := Ro) (Co := Co) (Ba := Ba) (nb := nb) (sp := sp) (fa := fa) (ve := ve) (e := (a0 * 10) + i0) (f := (b0 * 10) + k0) h1 h2 h3 h4 h5 h6 h7 h8 h9 h10 h11 hm hse hfi hye (by omega) (by omega)) h1 rfl rfl rfl (Nat.le_of_ble_eq_true rfl) (by decide) (by decide) rfl ?_
        refine aw_if_eq 66 dX8_bar_61 (by decide) (fun c61 => ?_) (fun c61 => ?_)
        · have d61 := (j_eq (a := (barF Ba ((a0 * 10) + i0) (nI ((b0 * 10) + k0))).toInt) (b := (0)) (rfl) (rfl)).mp c61
          refine aw_aload_n 2 dX8_bar_66 rfl rfl ?_
          refine aw_get fX8_20 dX8_bar_67 h0 rfl ?_
          refine aw_get fX8_113 dX8_bar_70 h1 rfl ?_
          refine aw_bipush (30) dX8_bar_73 (by decide) ?_
          refine aw_icmp_lt 85 dX8_bar_75 (by decide) (fun c75 => ?_) (fun c75 => ?_)
          · have d75 := (nv_lt (a := nb) (b := 30) (rfl) (rfl) (by omega) (by omega)).mp c75
            refine aw_aload_n 2 dX8_bar_85 rfl rfl ?_
            refine aw_get fX8_20 dX8_bar_86 h0 rfl ?_
            refine aw_iload 1 dX8_bar_89 rfl ?_
            refine aw_iload 0 dX8_bar_91 rfl ?_
            refine aw_eW [.int (nI ((a0 * 10) + i0)), .int (nI ((b0 * 10) + k0))] [] lX8_117 vX1_tellBar mX1_tellBar dX8_bar_93 (aX1_tellBar (m := m) (se := se) (ye := ye) (fi := fi) (W := W) (Sn := Sn) (Z := Z) (Ro := Ro) (Co := Co) (Ba := Ba) (nb := nb) (sp := sp) (fa := fa) (ve := ve) (e := (a0 * 10) + i0) (f := (b0 * 10) + k0) h1 h2 h3 h4 h5 h6 h7 h8 h9 h10 h11 (by omega) (by omega)) h1 rfl rfl rfl (Nat.le_of_ble_eq_true rfl) (by decide) (by decide) rfl (fun h1825 q1824 => ?_)
            obtain ⟨f1826, f1827, f1828, f1829, f1830, f1831, f1832, f1833, f1834, f1835, f1836, k1837⟩ := q1824
            have f1838 := rng_at k1837 (by decide) h0
            have f1839 := rng_at k1837 (by decide) h87
            refine aw_iconst (1) dX8_bar_96 (by decide) ?_
            subst hQF
            have eS : (spBarA fi nb (¬ barF Ba (tn (nI a0) * 10 + tn (nI i0)) (nI (tn (nI b0) * 10 + tn (nI k0))) = 0) (nI a0) (nI i0) (nI b0) (nI k0)) = 1 := by unfold spBarA; simp only [nn_a0, nn_b0, nn_i0, nn_k0]; (repeat' split) <;> first | (exfalso; omega) | rfl | contradiction
            have ok9 : (spBarA fi nb (¬ barF Ba (tn (nI a0) * 10 + tn (nI i0)) (nI (tn (nI b0) * 10 + tn (nI k0))) = 0) (nI a0) (nI i0) (nI b0) (nI k0)) = 1 := by rw [eS]
            exact aw_iret rfl dX8_bar_97 (by decide) (by decide) ⟨by rw [eS], _, _, by rw [spN_y ok9]; exact f1826, f1827, f1828, f1829, f1830, f1831, f1832, f1833, f1834, f1835, by rw [spBa_y ok9, nn_a0, nn_i0, nn_b0, nn_k0]; exact f1836, f1839, rg2_tr (rg2_rf 1 11 87 87 h) (rg2_w k1837 (by decide)), Or.inl rfl⟩
          · have d75 := mt (nv_lt (a := nb) (b := 30) (rfl) (rfl) (by omega) (by omega)).mpr c75
            refine aw_aload_n 2 dX8_bar_78 rfl rfl ?_
            refine aw_bipush (-6) dX8_bar_79 (by decide) ?_
            refine aw_eV [.int (-6)] [] lX8_70 vX8_refuse mX8_refuse dX8_bar_81 (bX8_refuse (jv := jv) (bv := bv) (rf := rf) (x := (-6)) (q := 6) h0 h87 (by decide) (by decide)) h0 rfl rfl rfl (Nat.le_of_ble_eq_true rfl) (by decide) (by decide) rfl (fun h1842 q1841 => ?_)
            obtain ⟨rf11840, f1843, k1844⟩ := q1841
            have f1845 := rng_at k1844 (by decide) h0
            have f1846 := rng_at k1844 (by decide) h1
            have f1847 := rng_at k1844 (by decide) h2
            have f1848 := rng_at k1844 (by decide) h3
            have f1849 := rng_at k1844 (by decide) h4
            have f1850 := rng_at k1844 (by decide) h5
            have f1851 := rng_at k1844 (by decide) h6
            have f1852 := rng_at k1844 (by decide) h7
            have f1853 := rng_at k1844 (by decide) h8
            have f1854 := rng_at k1844 (by decide) h9
            have f1855 := rng_at k1844 (by decide) h10
            have f1856 := rng_at k1844 (by decide) h11
            subst hQF
            have eS : (spBarA fi nb (¬ barF Ba (tn (nI a0) * 10 + tn (nI i0)) (nI (tn (nI b0) * 10 + tn (nI k0))) = 0) (nI a0) (nI i0) (nI b0) (nI k0)) = (-6) := by unfold spBarA; simp only [nn_a0, nn_b0, nn_i0, nn_k0]; (repeat' split) <;> first | (exfalso; omega) | rfl | contradiction
            have ok9 : ¬ (spBarA fi nb (¬ barF Ba (tn (nI a0) * 10 + tn (nI i0)) (nI (tn (nI b0) * 10 + tn (nI k0))) = 0) (nI a0) (nI i0) (nI b0) (nI k0)) = 1 := by rw [eS]; decide
            exact aw_iret rfl dX8_bar_84 (by decide) (by decide) ⟨by rw [eS], _, _, by rw [spN_n ok9]; exact f1846, f1847, f1848, f1849, f1850, f1851, f1852, f1853, f1854, f1855, by rw [spBa_n ok9]; exact f1856, f1843, rg2_tr (rg2_rf 1 11 87 87 h) (rg2_w k1844 (by decide)), Or.inr ⟨rfl, ok9⟩⟩
        · have d61 := mt (j_eq (a := (barF Ba ((a0 * 10) + i0) (nI ((b0 * 10) + k0))).toInt) (b := (0)) (rfl) (rfl)).mpr c61
          refine aw_iconst (0) dX8_bar_64 (by decide) ?_
          subst hQF
          have eS : (spBarA fi nb (¬ barF Ba (tn (nI a0) * 10 + tn (nI i0)) (nI (tn (nI b0) * 10 + tn (nI k0))) = 0) (nI a0) (nI i0) (nI b0) (nI k0)) = 0 := by unfold spBarA; simp only [nn_a0, nn_b0, nn_i0, nn_k0]; (repeat' split) <;> first | (exfalso; omega) | rfl | contradiction
          have ok9 : ¬ (spBarA fi nb (¬ barF Ba (tn (nI a0) * 10 + tn (nI i0)) (nI (tn (nI b0) * 10 + tn (nI k0))) = 0) (nI a0) (nI i0) (nI b0) (nI k0)) = 1 := by rw [eS]; decide
          exact aw_iret rfl dX8_bar_65 (by decide) (by decide) ⟨by rw [eS], _, _, by rw [spN_n ok9]; exact h1, h2, h3, h4, h5, h6, h7, h8, h9, h10, by rw [spBa_n ok9]; exact h11, h87, rg2_rf 1 11 87 87 h, Or.inr ⟨rfl, ok9⟩⟩
      · have t24 := ite_0 c24
        refine aw_aload_n 0 dX8_bar_27 rfl rfl ?_
        refine aw_iconst (-1) dX8_bar_28 (by decide) ?_
        refine aw_eV [.int (-1)] [] lX8_70 vX8_refuse mX8_refuse dX8_bar_29 (bX8_refuse (jv := jv) (bv := bv) (rf := rf) (x := (-1)) (q := 1) h0 h87 (by decide) (by decide)) h0 rfl rfl rfl (Nat.le_of_ble_eq_true rfl) (by decide) (by decide) rfl (fun h1859 q1858 => ?_)
        obtain ⟨rf11857, f1860, k1861⟩ := q1858
        have f1862 := rng_at k1861 (by decide) h0
        have f1863 := rng_at k1861 (by decide) h1
        have f1864 := rng_at k1861 (by decide) h2
        have f1865 := rng_at k1861 (by decide) h3
        have f1866 := rng_at k1861 (by decide) h4
        have f1867 := rng_at k1861 (by decide) h5
        have f1868 := rng_at k1861 (by decide) h6
        have f1869 := rng_at k1861 (by decide) h7
        have f1870 := rng_at k1861 (by decide) h8
        have f1871 := rng_at k1861 (by decide) h9
        have f1872 := rng_at k1861 (by decide) h10
        have f1873 := rng_at k1861 (by decide) h11
        subst hQF
        have eS : (spBarA fi nb (¬ barF Ba (tn a * 10 + tn i) (nI (tn b * 10 + tn k)) = 0) a i b k) = (-1) := by unfold spBarA; (repeat' split) <;> first | (exfalso; omega) | rfl | contradiction
        have ok9 : ¬ (spBarA fi nb (¬ barF Ba (tn a * 10 + tn i) (nI (tn b * 10 + tn k)) = 0) a i b k) = 1 := by rw [eS]; decide
        exact aw_iret rfl dX8_bar_32 (by decide) (by decide) ⟨by rw [eS], _, _, by rw [spN_n ok9]; exact f1863, f1864, f1865, f1866, f1867, f1868, f1869, f1870, f1871, f1872, by rw [spBa_n ok9]; exact f1873, f1860, rg2_tr (rg2_rf 1 11 87 87 h) (rg2_w k1861 (by decide)), Or.inr ⟨rfl, ok9⟩⟩
