set_option maxHeartbeats 4000000 in
theorem oX8_like {l : Launch} {G : xG} {h : List va_E} {jv bv : Value} {rf : Nat → Int32} {m se ye fi : Nat → Nat} {W Sn Z Ro Co : Nat → Int32} {Ba : Nat → Int64} {nb sp fa ve : Nat} {a i b k : Int32} (h0 : h[0]? = some (oB 8 (lX G (jv) (bv)))) (h87 : h[87]? = some (aI 7 rf)) (h1 : h[1]? = some (oB 1 (lC G (nI nb) (nI sp) (nI fa) (nI ve)))) (h2 : h[2]? = some (aI 20 (nA m))) (h3 : h[3]? = some (aI 20 (nA se))) (h4 : h[4]? = some (aI 4 (nA ye))) (h5 : h[5]? = some (aI 4 (nA fi))) (h6 : h[6]? = some (aI 40 W)) (h7 : h[7]? = some (aI 40 Sn)) (h8 : h[8]? = some (aI 40 Z)) (h9 : h[9]? = some (aI 40 Ro)) (h10 : h[10]? = some (aI 40 Co)) (h11 : h[11]? = some (aL 40 Ba)) (hm : ∀ j, j < 20 → m j ≤ j) (hse : ∀ j, j < 20 → se j < 20) (hfi : ∀ j, j < 4 → fi j < 11) (hye : ∀ j, j < 4 → ye j < 1901) : CE l G yX8_like cX8_like 5 (some .int) 3 0 0 [.ref (G.1 + 0), .int a, .int i, .int b, .int k] h (some (.int (if (((0 ≤ a.toInt ∧ a.toInt < 4) ∧ 0 ≤ i.toInt ∧ i.toInt < (fi (tn a) : Int)) ∧ ((0 ≤ b.toInt ∧ b.toInt < 4) ∧ 0 ≤ k.toInt ∧ k.toInt < (fi (tn b) : Int)) ∧ a.toInt ≠ b.toInt) then likeC ye Sn Z Ro Co Ba sp fa (tn a * 10 + tn i) (tn b * 10 + tn k) else -1))) (fun h1 => ∃ rf1 : Nat → Int32, h1[87]? = some (aI 7 rf1) ∧ rng 87 87 h h1) := by
  refine cm_ofQ rfl (Nat.le_of_ble_eq_true rfl) [(0, .ref (G.1 + 0)), (1, .int a), (2, .int i), (3, .int b), (4, .int k)] rfl (fun QF hQF => ?_)
  refine aw_iload_n 1 dX8_like_0 rfl rfl ?_
  refine aw_iload_n 3 dX8_like_1 rfl rfl ?_
  refine aw_dS [.int a, .int b] [] lX8_104 sX8_areTwo mX8_areTwo dX8_like_2 (bX8_areTwo (a := a) (b := b) ) rfl (Nat.le_of_ble_eq_true rfl) (by decide) (by decide) rfl ?_
  refine aw_if_eq 27 dX8_like_5 (by decide) (fun c5 => ?_) (fun c5 => ?_)
  · have t5 := ite_0 c5
    refine aw_aload_n 0 dX8_like_27 rfl rfl ?_
    refine aw_iconst (-1) dX8_like_28 (by decide) ?_
    refine aw_eV [.int (-1)] [] lX8_70 vX8_refuse mX8_refuse dX8_like_29 (bX8_refuse (jv := jv) (bv := bv) (rf := rf) (x := (-1)) (q := 1) h0 h87 (by decide) (by decide)) h0 rfl rfl rfl (Nat.le_of_ble_eq_true rfl) (by decide) (by decide) rfl (fun h1876 q1875 => ?_)
    obtain ⟨rf11874, f1877, k1878⟩ := q1875
    have f1879 := rng_at k1878 (by decide) h0
    have f1880 := rng_at k1878 (by decide) h1
    have f1881 := rng_at k1878 (by decide) h2
    have f1882 := rng_at k1878 (by decide) h3
    have f1883 := rng_at k1878 (by decide) h4
    have f1884 := rng_at k1878 (by decide) h5
    have f1885 := rng_at k1878 (by decide) h6
    have f1886 := rng_at k1878 (by decide) h7
    have f1887 := rng_at k1878 (by decide) h8
    have f1888 := rng_at k1878 (by decide) h9
    have f1889 := rng_at k1878 (by decide) h10
    have f1890 := rng_at k1878 (by decide) h11
    subst hQF
    exact aw_iret rfl dX8_like_32 (by decide) (by decide) ⟨by rw [if_neg (by omega)], _, f1877, rng_tr (rng_rf 87 87 h) (rng_w k1878 (by decide) (by decide))⟩
  · have t5 := ite_1 c5
    refine aw_aload_n 0 dX8_like_8 rfl rfl ?_
    refine aw_iload_n 1 dX8_like_9 rfl rfl ?_
    refine aw_iload_n 2 dX8_like_10 rfl rfl ?_
    refine aw_dV [.int a, .int i] [] lX8_107 vX8_isEntry mX8_isEntry dX8_like_11 (bX8_isEntry (jv := jv) (bv := bv) (fi := fi) (nb := nb) (sp := sp) (fa := fa) (ve := ve) (c := a) (i := i) h0 h1 h5 hfi) h0 rfl rfl rfl (Nat.le_of_ble_eq_true rfl) (by decide) (by decide) rfl ?_
    refine aw_if_eq 27 dX8_like_14 (by decide) (fun c14 => ?_) (fun c14 => ?_)
    · have t14 := ite_0 c14
      refine aw_aload_n 0 dX8_like_27 rfl rfl ?_
      refine aw_iconst (-1) dX8_like_28 (by decide) ?_
      refine aw_eV [.int (-1)] [] lX8_70 vX8_refuse mX8_refuse dX8_like_29 (bX8_refuse (jv := jv) (bv := bv) (rf := rf) (x := (-1)) (q := 1) h0 h87 (by decide) (by decide)) h0 rfl rfl rfl (Nat.le_of_ble_eq_true rfl) (by decide) (by decide) rfl (fun h1893 q1892 => ?_)
      obtain ⟨rf11891, f1894, k1895⟩ := q1892
      have f1896 := rng_at k1895 (by decide) h0
      have f1897 := rng_at k1895 (by decide) h1
      have f1898 := rng_at k1895 (by decide) h2
      have f1899 := rng_at k1895 (by decide) h3
      have f1900 := rng_at k1895 (by decide) h4
      have f1901 := rng_at k1895 (by decide) h5
      have f1902 := rng_at k1895 (by decide) h6
      have f1903 := rng_at k1895 (by decide) h7
      have f1904 := rng_at k1895 (by decide) h8
      have f1905 := rng_at k1895 (by decide) h9
      have f1906 := rng_at k1895 (by decide) h10
      have f1907 := rng_at k1895 (by decide) h11
      subst hQF
      exact aw_iret rfl dX8_like_32 (by decide) (by decide) ⟨by rw [if_neg (by omega)], _, f1894, rng_tr (rng_rf 87 87 h) (rng_w k1895 (by decide) (by decide))⟩
    · have t14 := ite_1 c14
      refine aw_aload_n 0 dX8_like_17 rfl rfl ?_
      refine aw_iload_n 3 dX8_like_18 rfl rfl ?_
      refine aw_iload 4 dX8_like_19 rfl ?_
      refine aw_dV [.int b, .int k] [] lX8_107 vX8_isEntry mX8_isEntry dX8_like_21 (bX8_isEntry (jv := jv) (bv := bv) (fi := fi) (nb := nb) (sp := sp) (fa := fa) (ve := ve) (c := b) (i := k) h0 h1 h5 hfi) h0 rfl rfl rfl (Nat.le_of_ble_eq_true rfl) (by decide) (by decide) rfl ?_
      refine aw_if_ne 33 dX8_like_24 (by decide) (fun c24 => ?_) (fun c24 => ?_)
      · have t24 := ite_1 c24
        have fa0 := hfi (tn a) (by unfold tn; omega)
        have fb0 := hfi (tn b) (by unfold tn; omega)
        obtain ⟨a0, bb_a0, ee_a0⟩ := i_nat (x := a) (N := 4) (by omega) (by omega)
        subst ee_a0
        have tt_a0 : (nI a0).toInt = (a0 : Int) := nI_toInt (by omega)
        have nn_a0 : tn (nI a0) = a0 := tn_nI (by omega)
        obtain ⟨b0, bb_b0, ee_b0⟩ := i_nat (x := b) (N := 4) (by omega) (by omega)
        subst ee_b0
        have tt_b0 : (nI b0).toInt = (b0 : Int) := nI_toInt (by omega)
        have nn_b0 : tn (nI b0) = b0 := tn_nI (by omega)
        rw [nn_a0] at t14 fa0
        rw [nn_b0] at t24 fb0
        obtain ⟨i0, bb_i0, ee_i0⟩ := i_nat (x := i) (N := 10) (by omega) (by omega)
        subst ee_i0
        have tt_i0 : (nI i0).toInt = (i0 : Int) := nI_toInt (by omega)
        have nn_i0 : tn (nI i0) = i0 := tn_nI (by omega)
        obtain ⟨k0, bb_k0, ee_k0⟩ := i_nat (x := k) (N := 10) (by omega) (by omega)
        subst ee_k0
        have tt_k0 : (nI k0).toInt = (k0 : Int) := nI_toInt (by omega)
        have nn_k0 : tn (nI k0) = k0 := tn_nI (by omega)
        refine aw_aload_n 0 dX8_like_33 rfl rfl ?_
        refine aw_get fX8_20 dX8_like_34 h0 rfl ?_
        refine aw_iload_n 1 dX8_like_37 rfl rfl ?_
        refine aw_bipush (10) dX8_like_38 (by decide) ?_
        refine aw_imul dX8_like_40 ?_
        refine aw_toe (nI (a0 * 10)) (nv_mul (rfl) (rfl)) ?_
        refine aw_iload_n 2 dX8_like_41 rfl rfl ?_
        refine aw_iadd dX8_like_42 ?_
        refine aw_toe (nI ((a0 * 10) + i0)) (nv_add (rfl) (rfl)) ?_
        refine aw_iload_n 3 dX8_like_43 rfl rfl ?_
        refine aw_bipush (10) dX8_like_44 (by decide) ?_
        refine aw_imul dX8_like_46 ?_
        refine aw_toe (nI (b0 * 10)) (nv_mul (rfl) (rfl)) ?_
        refine aw_iload 4 dX8_like_47 rfl ?_
        refine aw_iadd dX8_like_49 ?_
        refine aw_toe (nI ((b0 * 10) + k0)) (nv_add (rfl) (rfl)) ?_
        refine aw_dV [.int (nI ((a0 * 10) + i0)), .int (nI ((b0 * 10) + k0))] [] lX8_121 vX1_likeness mX1_likeness dX8_like_50 (aX1_likeness (m := m) (se := se) (ye := ye) (fi := fi) (W := W) (Sn := Sn) (Z := Z) (Ro := Ro) (Co := Co) (Ba := Ba) (nb := nb) (sp := sp) (fa := fa) (ve := ve) (e := (a0 * 10) + i0) (f := (b0 * 10) + k0) h1 h2 h3 h4 h5 h6 h7 h8 h9 h10 h11 hm hse hfi hye (by omega) (by omega)) h1 rfl rfl rfl (Nat.le_of_ble_eq_true rfl) (by decide) (by decide) rfl ?_
        subst hQF
        exact aw_iret rfl dX8_like_53 (by decide) (by decide) ⟨by rw [if_pos (by rw [nn_a0, nn_b0]; omega), nn_a0, nn_b0, nn_i0, nn_k0], _, h87, rng_rf 87 87 h⟩
      · have t24 := ite_0 c24
        refine aw_aload_n 0 dX8_like_27 rfl rfl ?_
        refine aw_iconst (-1) dX8_like_28 (by decide) ?_
        refine aw_eV [.int (-1)] [] lX8_70 vX8_refuse mX8_refuse dX8_like_29 (bX8_refuse (jv := jv) (bv := bv) (rf := rf) (x := (-1)) (q := 1) h0 h87 (by decide) (by decide)) h0 rfl rfl rfl (Nat.le_of_ble_eq_true rfl) (by decide) (by decide) rfl (fun h1910 q1909 => ?_)
        obtain ⟨rf11908, f1911, k1912⟩ := q1909
        have f1913 := rng_at k1912 (by decide) h0
        have f1914 := rng_at k1912 (by decide) h1
        have f1915 := rng_at k1912 (by decide) h2
        have f1916 := rng_at k1912 (by decide) h3
        have f1917 := rng_at k1912 (by decide) h4
        have f1918 := rng_at k1912 (by decide) h5
        have f1919 := rng_at k1912 (by decide) h6
        have f1920 := rng_at k1912 (by decide) h7
        have f1921 := rng_at k1912 (by decide) h8
        have f1922 := rng_at k1912 (by decide) h9
        have f1923 := rng_at k1912 (by decide) h10
        have f1924 := rng_at k1912 (by decide) h11
        subst hQF
        exact aw_iret rfl dX8_like_32 (by decide) (by decide) ⟨by rw [if_neg (by omega)], _, f1911, rng_tr (rng_rf 87 87 h) (rng_w k1912 (by decide) (by decide))⟩
