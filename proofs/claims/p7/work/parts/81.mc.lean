set_option maxHeartbeats 4000000 in
theorem oX9_join {l : Launch} {G : xG} {h : List va_E} {sp fa nb ns nm nv sh : Nat} {ho ow sl : Int32} {rg : Nat → Int32} {m ye b1 b2 : Nat → Nat} {W Z Ro Co : Nat → Int32} {fi : Nat → Nat} {lk su jd wy : Nat → Int32} {lx : Nat → Nat → Nat → Nat → Nat} {a b : Int32} (h88 : h[88]? = some (oB 9 (lM G (nI sp) (nI fa) (nI nb) (nI ns) (nI nm) ho ow sl (nI nv) (nI sh)))) (h89 : h[89]? = some (aI 7 rg)) (h90 : h[90]? = some (aI 20 (nA m))) (h91 : h[91]? = some (aI 4 (nA ye))) (h93 : h[93]? = some (aI 40 W)) (h94 : h[94]? = some (aI 40 Z)) (h95 : h[95]? = some (aI 40 Ro)) (h96 : h[96]? = some (aI 40 Co)) (h97 : h[97]? = some (aI 30 (nA b1))) (h98 : h[98]? = some (aI 30 (nA b2))) (h92 : h[92]? = some (aI 4 (nA fi))) (h99 : h[99]? = some (aI 100 lk)) (h100 : h[100]? = some (aI 11264 su)) (h101 : h[101]? = some (aI 10 jd)) (h102 : h[102]? = some (aI 11264 wy)) (hm : ∀ j, j < 20 → m j ≤ j) (hye : ∀ j, j < 4 → ye j < 1901) (hnb : nb ≤ 30) (bb1 : ∀ j, j < 30 → b1 j < 40) (bb2 : ∀ j, j < 30 → b2 j < 40) (hsp : sp ≤ 50) (hfd : fa ≤ 9) (hfi : ∀ j, j < 4 → fi j < 11) (hjd : pB jd) (hlx : ∀ a, a < 4 → ∀ b, b < 4 → ∀ i, i < fi a → ∀ k, k < fi b → (lkS ye (fun j => snF (root m) (W j) 20) Z Ro Co (brF b1 b2 (a * 10 + i) (b * 10 + k) nb = true) sp fa a i b k) = nI (lx a b i k)) (hlx3 : ∀ a b i k, lx a b i k ≤ 300) : CE l G yX9_join cX9_join 3 (some .int) 6 0 0 [.ref (G.1 + 88), .int a, .int b] h (some (.int (if ((0 ≤ a.toInt ∧ a.toInt < 4) ∧ (0 ≤ b.toInt ∧ b.toInt < 4) ∧ a.toInt ≠ b.toInt) then nI (jS (lx (tn a) (tn b)) (fi (tn b)) (fi (tn a)) 0 0) else -1))) (fun h1 => ∃ lk1 : Nat → Int32, ∃ su1 : Nat → Int32, ∃ jd1 : Nat → Int32, ∃ wy1 : Nat → Int32, ∃ rg1 : Nat → Int32, h1[99]? = some (aI 100 lk1) ∧ h1[100]? = some (aI 11264 su1) ∧ h1[101]? = some (aI 10 jd1) ∧ h1[102]? = some (aI 11264 wy1) ∧ h1[89]? = some (aI 7 rg1) ∧ rg2 89 89 99 102 h h1 ∧ pB jd1) := by
  refine cm_ofQ rfl (Nat.le_of_ble_eq_true rfl) [(0, .ref (G.1 + 88)), (1, .int a), (2, .int b)] rfl (fun QF hQF => ?_)
  refine aw_aload_n 0 dX9_join_0 rfl rfl ?_
  refine aw_iload_n 1 dX9_join_1 rfl rfl ?_
  refine aw_iload_n 2 dX9_join_2 rfl rfl ?_
  refine aw_dV [.int a, .int b] [] lX9_184 vX9_areBooks mX9_areBooks dX9_join_3 (bX9_areBooks (a := a) (b := b) ) h88 rfl rfl rfl (Nat.le_of_ble_eq_true rfl) (by decide) (by decide) rfl ?_
  refine aw_if_eq 18 dX9_join_6 (by decide) (fun c6 => ?_) (fun c6 => ?_)
  · have t6 := ite_0 c6
    refine aw_aload_n 0 dX9_join_18 rfl rfl ?_
    refine aw_iconst (-1) dX9_join_19 (by decide) ?_
    refine aw_eV [.int (-1)] [] lX9_130 vX9_refuse mX9_refuse dX9_join_20 (bX9_refuse (sp := sp) (fa := fa) (nb := nb) (ns := ns) (nm := nm) (nv := nv) (sh := sh) (ho := ho) (ow := ow) (sl := sl) (rg := rg) (x := (-1)) (q := 1) h88 h89 (by decide) (by decide)) h88 rfl rfl rfl (Nat.le_of_ble_eq_true rfl) (by decide) (by decide) rfl (fun h1867 q1866 => ?_)
    obtain ⟨rg11865, f1868, k1869⟩ := q1866
    have f1870 := rng_at k1869 (by decide) h88
    have f1871 := rng_at k1869 (by decide) h90
    have f1872 := rng_at k1869 (by decide) h91
    have f1873 := rng_at k1869 (by decide) h93
    have f1874 := rng_at k1869 (by decide) h94
    have f1875 := rng_at k1869 (by decide) h95
    have f1876 := rng_at k1869 (by decide) h96
    have f1877 := rng_at k1869 (by decide) h97
    have f1878 := rng_at k1869 (by decide) h98
    have f1879 := rng_at k1869 (by decide) h92
    have f1880 := rng_at k1869 (by decide) h99
    have f1881 := rng_at k1869 (by decide) h100
    have f1882 := rng_at k1869 (by decide) h101
    have f1883 := rng_at k1869 (by decide) h102
    subst hQF
    exact aw_iret rfl dX9_join_23 (by decide) (by decide) ⟨by rw [if_neg (by omega)], _, _, _, _, _, f1880, f1881, f1882, f1883, f1868, rg2_tr (rg2_rf 89 89 99 102 h) (rg2_w k1869 (by decide)), hjd⟩
  · have t6 := ite_1 c6
    obtain ⟨a0, bb_a0, ee_a0⟩ := i_nat (x := a) (N := 4) (by omega) (by omega)
    subst ee_a0
    have tt_a0 : (nI a0).toInt = (a0 : Int) := nI_toInt (by omega)
    have nn_a0 : tn (nI a0) = a0 := tn_nI (by omega)
    obtain ⟨b0, bb_b0, ee_b0⟩ := i_nat (x := b) (N := 4) (by omega) (by omega)
    subst ee_b0
    have tt_b0 : (nI b0).toInt = (b0 : Int) := nI_toInt (by omega)
    have nn_b0 : tn (nI b0) = b0 := tn_nI (by omega)
    refine aw_aload_n 0 dX9_join_9 rfl rfl ?_
    refine aw_iload_n 1 dX9_join_10 rfl rfl ?_
    refine aw_iload_n 2 dX9_join_11 rfl rfl ?_
    refine aw_eV [.int (nI a0), .int (nI b0)] [] lX9_187 vX9_joins mX9_joins dX9_join_12 (bX9_joins (sp := sp) (fa := fa) (nb := nb) (ns := ns) (nm := nm) (nv := nv) (sh := sh) (ho := ho) (ow := ow) (sl := sl) (m := m) (ye := ye) (b1 := b1) (b2 := b2) (W := W) (Z := Z) (Ro := Ro) (Co := Co) (fi := fi) (lk := lk) (su := su) (jd := jd) (wy := wy) (a := a0) (b := b0) (lx := lx a0 b0) h88 h90 h91 h93 h94 h95 h96 h97 h98 h92 h99 h100 h101 h102 hm hye (by omega) bb1 bb2 (by omega) (by omega) hfi (by omega) (by omega) (by omega) (hlx a0 (by omega) b0 (by omega)) (hlx3 a0 b0)) h88 rfl rfl rfl (Nat.le_of_ble_eq_true rfl) (by decide) (by decide) rfl (fun h1889 q1888 => ?_)
    obtain ⟨lk11884, su11885, jd11886, wy11887, f1890, f1891, f1892, f1893, k1894, p1895, p1896, p1897, p1898⟩ := q1888
    have f1899 := rng_at k1894 (by decide) h88
    have f1900 := rng_at k1894 (by decide) h89
    have f1901 := rng_at k1894 (by decide) h90
    have f1902 := rng_at k1894 (by decide) h91
    have f1903 := rng_at k1894 (by decide) h93
    have f1904 := rng_at k1894 (by decide) h94
    have f1905 := rng_at k1894 (by decide) h95
    have f1906 := rng_at k1894 (by decide) h96
    have f1907 := rng_at k1894 (by decide) h97
    have f1908 := rng_at k1894 (by decide) h98
    have f1909 := rng_at k1894 (by decide) h92
    refine aw_goto 23 dX9_join_15 (by decide) ?_
    subst hQF
    exact aw_iret rfl dX9_join_23 (by decide) (by decide) ⟨by rw [nn_a0, nn_b0, if_pos (by omega)], _, _, _, _, _, f1890, f1891, f1892, f1893, f1900, rg2_tr (rg2_rf 89 89 99 102 h) (rg2_w k1894 (by decide)), p1895⟩
set_option maxHeartbeats 4000000 in
theorem oX9_joined {l : Launch} {G : xG} {h : List va_E} {sp fa nb ns nm nv sh : Nat} {ho ow sl : Int32} {rg : Nat → Int32} {m ye b1 b2 : Nat → Nat} {W Z Ro Co : Nat → Int32} {fi : Nat → Nat} {lk su jd wy : Nat → Int32} {lx : Nat → Nat → Nat → Nat → Nat} {a i b : Int32} (h88 : h[88]? = some (oB 9 (lM G (nI sp) (nI fa) (nI nb) (nI ns) (nI nm) ho ow sl (nI nv) (nI sh)))) (h89 : h[89]? = some (aI 7 rg)) (h90 : h[90]? = some (aI 20 (nA m))) (h91 : h[91]? = some (aI 4 (nA ye))) (h93 : h[93]? = some (aI 40 W)) (h94 : h[94]? = some (aI 40 Z)) (h95 : h[95]? = some (aI 40 Ro)) (h96 : h[96]? = some (aI 40 Co)) (h97 : h[97]? = some (aI 30 (nA b1))) (h98 : h[98]? = some (aI 30 (nA b2))) (h92 : h[92]? = some (aI 4 (nA fi))) (h99 : h[99]? = some (aI 100 lk)) (h100 : h[100]? = some (aI 11264 su)) (h101 : h[101]? = some (aI 10 jd)) (h102 : h[102]? = some (aI 11264 wy)) (hm : ∀ j, j < 20 → m j ≤ j) (hye : ∀ j, j < 4 → ye j < 1901) (hnb : nb ≤ 30) (bb1 : ∀ j, j < 30 → b1 j < 40) (bb2 : ∀ j, j < 30 → b2 j < 40) (hsp : sp ≤ 50) (hfd : fa ≤ 9) (hfi : ∀ j, j < 4 → fi j < 11) (hjd : pB jd) (hlx : ∀ a, a < 4 → ∀ b, b < 4 → ∀ i, i < fi a → ∀ k, k < fi b → (lkS ye (fun j => snF (root m) (W j) 20) Z Ro Co (brF b1 b2 (a * 10 + i) (b * 10 + k) nb = true) sp fa a i b k) = nI (lx a b i k)) (hlx3 : ∀ a b i k, lx a b i k ≤ 300) : CE l G yX9_joined cX9_joined 5 (some .int) 6 0 0 [.ref (G.1 + 88), .int a, .int i, .int b] h (some (.int (if (((0 ≤ a.toInt ∧ a.toInt < 4) ∧ (0 ≤ b.toInt ∧ b.toInt < 4) ∧ a.toInt ≠ b.toInt) ∧ ((0 ≤ a.toInt ∧ a.toInt < 4) ∧ 0 ≤ i.toInt ∧ i.toInt < (fi (tn a) : Int))) then jP (lx (tn a) (tn b)) (fi (tn b)) (fi (tn a)) (tn i) else -1))) (fun h1 => ∃ lk1 : Nat → Int32, ∃ su1 : Nat → Int32, ∃ jd1 : Nat → Int32, ∃ wy1 : Nat → Int32, ∃ rg1 : Nat → Int32, h1[99]? = some (aI 100 lk1) ∧ h1[100]? = some (aI 11264 su1) ∧ h1[101]? = some (aI 10 jd1) ∧ h1[102]? = some (aI 11264 wy1) ∧ h1[89]? = some (aI 7 rg1) ∧ rg2 89 89 99 102 h h1 ∧ pB jd1) := by
  refine cm_ofQ rfl (Nat.le_of_ble_eq_true rfl) [(0, .ref (G.1 + 88)), (1, .int a), (2, .int i), (3, .int b)] rfl (fun QF hQF => ?_)
  refine aw_aload_n 0 dX9_joined_0 rfl rfl ?_
  refine aw_iload_n 1 dX9_joined_1 rfl rfl ?_
  refine aw_iload_n 3 dX9_joined_2 rfl rfl ?_
  refine aw_dV [.int a, .int b] [] lX9_184 vX9_areBooks mX9_areBooks dX9_joined_3 (bX9_areBooks (a := a) (b := b) ) h88 rfl rfl rfl (Nat.le_of_ble_eq_true rfl) (by decide) (by decide) rfl ?_
  refine aw_if_eq 22 dX9_joined_6 (by decide) (fun c6 => ?_) (fun c6 => ?_)
  · have t6 := ite_0 c6
    refine aw_aload_n 0 dX9_joined_22 rfl rfl ?_
    refine aw_iconst (-1) dX9_joined_23 (by decide) ?_
    refine aw_eV [.int (-1)] [] lX9_130 vX9_refuse mX9_refuse dX9_joined_24 (bX9_refuse (sp := sp) (fa := fa) (nb := nb) (ns := ns) (nm := nm) (nv := nv) (sh := sh) (ho := ho) (ow := ow) (sl := sl) (rg := rg) (x := (-1)) (q := 1) h88 h89 (by decide) (by decide)) h88 rfl rfl rfl (Nat.le_of_ble_eq_true rfl) (by decide) (by decide) rfl (fun h1912 q1911 => ?_)
    obtain ⟨rg11910, f1913, k1914⟩ := q1911
    have f1915 := rng_at k1914 (by decide) h88
    have f1916 := rng_at k1914 (by decide) h90
    have f1917 := rng_at k1914 (by decide) h91
    have f1918 := rng_at k1914 (by decide) h93
    have f1919 := rng_at k1914 (by decide) h94
    have f1920 := rng_at k1914 (by decide) h95
    have f1921 := rng_at k1914 (by decide) h96
    have f1922 := rng_at k1914 (by decide) h97
    have f1923 := rng_at k1914 (by decide) h98
    have f1924 := rng_at k1914 (by decide) h92
    have f1925 := rng_at k1914 (by decide) h99
    have f1926 := rng_at k1914 (by decide) h100
    have f1927 := rng_at k1914 (by decide) h101
    have f1928 := rng_at k1914 (by decide) h102
    subst hQF
    exact aw_iret rfl dX9_joined_27 (by decide) (by decide) ⟨by rw [if_neg (by omega)], _, _, _, _, _, f1925, f1926, f1927, f1928, f1913, rg2_tr (rg2_rf 89 89 99 102 h) (rg2_w k1914 (by decide)), hjd⟩
  · have t6 := ite_1 c6
    obtain ⟨a0, bb_a0, ee_a0⟩ := i_nat (x := a) (N := 4) (by omega) (by omega)
    subst ee_a0
    have tt_a0 : (nI a0).toInt = (a0 : Int) := nI_toInt (by omega)
    have nn_a0 : tn (nI a0) = a0 := tn_nI (by omega)
    obtain ⟨b0, bb_b0, ee_b0⟩ := i_nat (x := b) (N := 4) (by omega) (by omega)
    subst ee_b0
    have tt_b0 : (nI b0).toInt = (b0 : Int) := nI_toInt (by omega)
    have nn_b0 : tn (nI b0) = b0 := tn_nI (by omega)
    refine aw_iload_n 2 dX9_joined_9 rfl rfl ?_
    refine aw_aload_n 0 dX9_joined_10 rfl rfl ?_
    refine aw_get fX9_19 dX9_joined_11 h88 rfl ?_
    refine aw_iload_n 1 dX9_joined_14 rfl rfl ?_
    refine aw_iald a0 (rfl) (by omega) (by decide) dX9_joined_15 h92 ?_
    refine aw_toe (nI (fi a0)) (rfl) ?_
    have b1929 := hfi a0 (by omega)
    refine aw_dS [.int i, .int (nI (fi a0))] [] lX9_126 sX9_isIn mX9_isIn dX9_joined_16 (bX9_isIn (x := i) (n := fi a0) (by omega)) rfl (Nat.le_of_ble_eq_true rfl) (by decide) (by decide) rfl ?_
    refine aw_if_ne 28 dX9_joined_19 (by decide) (fun c19 => ?_) (fun c19 => ?_)
    · have t19 := ite_1 c19
      have fa0 := hfi a0 (by omega)
      obtain ⟨i0, bb_i0, ee_i0⟩ := i_nat (x := i) (N := 10) (by omega) (by omega)
      subst ee_i0
      have tt_i0 : (nI i0).toInt = (i0 : Int) := nI_toInt (by omega)
      have nn_i0 : tn (nI i0) = i0 := tn_nI (by omega)
      refine aw_aload_n 0 dX9_joined_28 rfl rfl ?_
      refine aw_iload_n 1 dX9_joined_29 rfl rfl ?_
      refine aw_iload_n 3 dX9_joined_30 rfl rfl ?_
      refine aw_eV [.int (nI a0), .int (nI b0)] [] lX9_187 vX9_joins mX9_joins dX9_joined_31 (bX9_joins (sp := sp) (fa := fa) (nb := nb) (ns := ns) (nm := nm) (nv := nv) (sh := sh) (ho := ho) (ow := ow) (sl := sl) (m := m) (ye := ye) (b1 := b1) (b2 := b2) (W := W) (Z := Z) (Ro := Ro) (Co := Co) (fi := fi) (lk := lk) (su := su) (jd := jd) (wy := wy) (a := a0) (b := b0) (lx := lx a0 b0) h88 h90 h91 h93 h94 h95 h96 h97 h98 h92 h99 h100 h101 h102 hm hye (by omega) bb1 bb2 (by omega) (by omega) hfi (by omega) (by omega) (by omega) (hlx a0 (by omega) b0 (by omega)) (hlx3 a0 b0)) h88 rfl rfl rfl (Nat.le_of_ble_eq_true rfl) (by decide) (by decide) rfl (fun h1935 q1934 => ?_)
      obtain ⟨lk11930, su11931, jd11932, wy11933, f1936, f1937, f1938, f1939, k1940, p1941, p1942, p1943, p1944⟩ := q1934
      have f1945 := rng_at k1940 (by decide) h88
      have f1946 := rng_at k1940 (by decide) h89
      have f1947 := rng_at k1940 (by decide) h90
      have f1948 := rng_at k1940 (by decide) h91
      have f1949 := rng_at k1940 (by decide) h93
      have f1950 := rng_at k1940 (by decide) h94
      have f1951 := rng_at k1940 (by decide) h95
      have f1952 := rng_at k1940 (by decide) h96
      have f1953 := rng_at k1940 (by decide) h97
      have f1954 := rng_at k1940 (by decide) h98
      have f1955 := rng_at k1940 (by decide) h92
      refine aw_istore [(4, .int (nI (jS (lx a0 b0) (fi b0) (fi a0) 0 0))), (0, .ref (G.1 + 88)), (1, .int (nI a0)), (2, .int (nI i0)), (3, .int (nI b0))] dX9_joined_34 (by decide) rfl ?_
      refine aw_aload_n 1 dX9_joined_36 rfl rfl ?_
      refine aw_get fX9_53 dX9_joined_37 f1945 rfl ?_
      refine aw_iload_n 3 dX9_joined_40 rfl rfl ?_
      refine aw_iald i0 (rfl) (by omega) (by decide) dX9_joined_41 f1938 ?_
      subst hQF
      exact aw_iret rfl dX9_joined_42 (by decide) (by decide) ⟨by rw [nn_a0, nn_b0, nn_i0, if_pos (by omega), p1942 i0 (by omega)], _, _, _, _, _, f1936, f1937, f1938, f1939, f1946, rg2_tr (rg2_rf 89 89 99 102 h) (rg2_w k1940 (by decide)), p1941⟩
    · have t19 := ite_0 c19
      refine aw_aload_n 0 dX9_joined_22 rfl rfl ?_
      refine aw_iconst (-1) dX9_joined_23 (by decide) ?_
      refine aw_eV [.int (-1)] [] lX9_130 vX9_refuse mX9_refuse dX9_joined_24 (bX9_refuse (sp := sp) (fa := fa) (nb := nb) (ns := ns) (nm := nm) (nv := nv) (sh := sh) (ho := ho) (ow := ow) (sl := sl) (rg := rg) (x := (-1)) (q := 1) h88 h89 (by decide) (by decide)) h88 rfl rfl rfl (Nat.le_of_ble_eq_true rfl) (by decide) (by decide) rfl (fun h1958 q1957 => ?_)
      obtain ⟨rg11956, f1959, k1960⟩ := q1957
      have f1961 := rng_at k1960 (by decide) h88
      have f1962 := rng_at k1960 (by decide) h90
      have f1963 := rng_at k1960 (by decide) h91
      have f1964 := rng_at k1960 (by decide) h93
      have f1965 := rng_at k1960 (by decide) h94
      have f1966 := rng_at k1960 (by decide) h95
      have f1967 := rng_at k1960 (by decide) h96
      have f1968 := rng_at k1960 (by decide) h97
      have f1969 := rng_at k1960 (by decide) h98
      have f1970 := rng_at k1960 (by decide) h92
      have f1971 := rng_at k1960 (by decide) h99
      have f1972 := rng_at k1960 (by decide) h100
      have f1973 := rng_at k1960 (by decide) h101
      have f1974 := rng_at k1960 (by decide) h102
      subst hQF
      exact aw_iret rfl dX9_joined_27 (by decide) (by decide) ⟨by rw [nn_a0, if_neg (by omega)], _, _, _, _, _, f1971, f1972, f1973, f1974, f1959, rg2_tr (rg2_rf 89 89 99 102 h) (rg2_w k1960 (by decide)), hjd⟩
set_option maxHeartbeats 4000000 in
theorem oX9_bests {l : Launch} {G : xG} {h : List va_E} {sp fa nb ns nm nv sh : Nat} {ho ow sl : Int32} {rg : Nat → Int32} {m ye b1 b2 : Nat → Nat} {W Z Ro Co : Nat → Int32} {fi : Nat → Nat} {lk su jd wy : Nat → Int32} {lx : Nat → Nat → Nat → Nat → Nat} {a b : Int32} (h88 : h[88]? = some (oB 9 (lM G (nI sp) (nI fa) (nI nb) (nI ns) (nI nm) ho ow sl (nI nv) (nI sh)))) (h89 : h[89]? = some (aI 7 rg)) (h90 : h[90]? = some (aI 20 (nA m))) (h91 : h[91]? = some (aI 4 (nA ye))) (h93 : h[93]? = some (aI 40 W)) (h94 : h[94]? = some (aI 40 Z)) (h95 : h[95]? = some (aI 40 Ro)) (h96 : h[96]? = some (aI 40 Co)) (h97 : h[97]? = some (aI 30 (nA b1))) (h98 : h[98]? = some (aI 30 (nA b2))) (h92 : h[92]? = some (aI 4 (nA fi))) (h99 : h[99]? = some (aI 100 lk)) (h100 : h[100]? = some (aI 11264 su)) (h101 : h[101]? = some (aI 10 jd)) (h102 : h[102]? = some (aI 11264 wy)) (hm : ∀ j, j < 20 → m j ≤ j) (hye : ∀ j, j < 4 → ye j < 1901) (hnb : nb ≤ 30) (bb1 : ∀ j, j < 30 → b1 j < 40) (bb2 : ∀ j, j < 30 → b2 j < 40) (hsp : sp ≤ 50) (hfd : fa ≤ 9) (hfi : ∀ j, j < 4 → fi j < 11) (hjd : pB jd) (hlx : ∀ a, a < 4 → ∀ b, b < 4 → ∀ i, i < fi a → ∀ k, k < fi b → (lkS ye (fun j => snF (root m) (W j) 20) Z Ro Co (brF b1 b2 (a * 10 + i) (b * 10 + k) nb = true) sp fa a i b k) = nI (lx a b i k)) (hlx3 : ∀ a b i k, lx a b i k ≤ 300) : CE l G yX9_bests cX9_bests 4 (some .int) 6 0 0 [.ref (G.1 + 88), .int a, .int b] h (some (.int (if ((0 ≤ a.toInt ∧ a.toInt < 4) ∧ (0 ≤ b.toInt ∧ b.toInt < 4) ∧ a.toInt ≠ b.toInt) then nI (min 1000000 (jC (lx (tn a) (tn b)) (fi (tn b)) (fi (tn a)) 0 0)) else -1))) (fun h1 => ∃ lk1 : Nat → Int32, ∃ su1 : Nat → Int32, ∃ jd1 : Nat → Int32, ∃ wy1 : Nat → Int32, ∃ rg1 : Nat → Int32, h1[99]? = some (aI 100 lk1) ∧ h1[100]? = some (aI 11264 su1) ∧ h1[101]? = some (aI 10 jd1) ∧ h1[102]? = some (aI 11264 wy1) ∧ h1[89]? = some (aI 7 rg1) ∧ rg2 89 89 99 102 h h1 ∧ pB jd1) := by
  refine cm_ofQ rfl (Nat.le_of_ble_eq_true rfl) [(0, .ref (G.1 + 88)), (1, .int a), (2, .int b)] rfl (fun QF hQF => ?_)
  refine aw_aload_n 0 dX9_bests_0 rfl rfl ?_
  refine aw_iload_n 1 dX9_bests_1 rfl rfl ?_
  refine aw_iload_n 2 dX9_bests_2 rfl rfl ?_
  refine aw_dV [.int a, .int b] [] lX9_184 vX9_areBooks mX9_areBooks dX9_bests_3 (bX9_areBooks (a := a) (b := b) ) h88 rfl rfl rfl (Nat.le_of_ble_eq_true rfl) (by decide) (by decide) rfl ?_
  refine aw_if_ne 15 dX9_bests_6 (by decide) (fun c6 => ?_) (fun c6 => ?_)
  · have t6 := ite_1 c6
    obtain ⟨a0, bb_a0, ee_a0⟩ := i_nat (x := a) (N := 4) (by omega) (by omega)
    subst ee_a0
    have tt_a0 : (nI a0).toInt = (a0 : Int) := nI_toInt (by omega)
    have nn_a0 : tn (nI a0) = a0 := tn_nI (by omega)
    obtain ⟨b0, bb_b0, ee_b0⟩ := i_nat (x := b) (N := 4) (by omega) (by omega)
    subst ee_b0
    have tt_b0 : (nI b0).toInt = (b0 : Int) := nI_toInt (by omega)
    have nn_b0 : tn (nI b0) = b0 := tn_nI (by omega)
    refine aw_aload_n 0 dX9_bests_15 rfl rfl ?_
    refine aw_iload_n 1 dX9_bests_16 rfl rfl ?_
    refine aw_iload_n 2 dX9_bests_17 rfl rfl ?_
    refine aw_eV [.int (nI a0), .int (nI b0)] [] lX9_187 vX9_joins mX9_joins dX9_bests_18 (bX9_joins (sp := sp) (fa := fa) (nb := nb) (ns := ns) (nm := nm) (nv := nv) (sh := sh) (ho := ho) (ow := ow) (sl := sl) (m := m) (ye := ye) (b1 := b1) (b2 := b2) (W := W) (Z := Z) (Ro := Ro) (Co := Co) (fi := fi) (lk := lk) (su := su) (jd := jd) (wy := wy) (a := a0) (b := b0) (lx := lx a0 b0) h88 h90 h91 h93 h94 h95 h96 h97 h98 h92 h99 h100 h101 h102 hm hye (by omega) bb1 bb2 (by omega) (by omega) hfi (by omega) (by omega) (by omega) (hlx a0 (by omega) b0 (by omega)) (hlx3 a0 b0)) h88 rfl rfl rfl (Nat.le_of_ble_eq_true rfl) (by decide) (by decide) rfl (fun h1980 q1979 => ?_)
    obtain ⟨lk11975, su11976, jd11977, wy11978, f1981, f1982, f1983, f1984, k1985, p1986, p1987, p1988, p1989⟩ := q1979
    have f1990 := rng_at k1985 (by decide) h88
    have f1991 := rng_at k1985 (by decide) h89
    have f1992 := rng_at k1985 (by decide) h90
    have f1993 := rng_at k1985 (by decide) h91
    have f1994 := rng_at k1985 (by decide) h93
    have f1995 := rng_at k1985 (by decide) h94
    have f1996 := rng_at k1985 (by decide) h95
    have f1997 := rng_at k1985 (by decide) h96
    have f1998 := rng_at k1985 (by decide) h97
    have f1999 := rng_at k1985 (by decide) h98
    have f2000 := rng_at k1985 (by decide) h92
    refine aw_istore_n [(3, .int (nI (jS (lx a0 b0) (fi b0) (fi a0) 0 0))), (0, .ref (G.1 + 88)), (1, .int (nI a0)), (2, .int (nI b0))] dX9_bests_21 rfl (by decide) rfl ?_
    refine aw_aload_n 1 dX9_bests_22 rfl rfl ?_
    refine aw_get fX9_56 dX9_bests_23 f1990 rfl ?_
    refine aw_iconst (0) dX9_bests_26 (by decide) ?_
    refine aw_iald 0 (rfl) (by decide) (by decide) dX9_bests_27 f1984 ?_
    subst hQF
    exact aw_iret rfl dX9_bests_28 (by decide) (by decide) ⟨by rw [nn_a0, nn_b0, if_pos (by omega), p1989], _, _, _, _, _, f1981, f1982, f1983, f1984, f1991, rg2_tr (rg2_rf 89 89 99 102 h) (rg2_w k1985 (by decide)), p1986⟩
  · have t6 := ite_0 c6
    refine aw_aload_n 0 dX9_bests_9 rfl rfl ?_
    refine aw_iconst (-1) dX9_bests_10 (by decide) ?_
    refine aw_eV [.int (-1)] [] lX9_130 vX9_refuse mX9_refuse dX9_bests_11 (bX9_refuse (sp := sp) (fa := fa) (nb := nb) (ns := ns) (nm := nm) (nv := nv) (sh := sh) (ho := ho) (ow := ow) (sl := sl) (rg := rg) (x := (-1)) (q := 1) h88 h89 (by decide) (by decide)) h88 rfl rfl rfl (Nat.le_of_ble_eq_true rfl) (by decide) (by decide) rfl (fun h2003 q2002 => ?_)
    obtain ⟨rg12001, f2004, k2005⟩ := q2002
    have f2006 := rng_at k2005 (by decide) h88
    have f2007 := rng_at k2005 (by decide) h90
    have f2008 := rng_at k2005 (by decide) h91
    have f2009 := rng_at k2005 (by decide) h93
    have f2010 := rng_at k2005 (by decide) h94
    have f2011 := rng_at k2005 (by decide) h95
    have f2012 := rng_at k2005 (by decide) h96
    have f2013 := rng_at k2005 (by decide) h97
    have f2014 := rng_at k2005 (by decide) h98
    have f2015 := rng_at k2005 (by decide) h92
    have f2016 := rng_at k2005 (by decide) h99
    have f2017 := rng_at k2005 (by decide) h100
    have f2018 := rng_at k2005 (by decide) h101
    have f2019 := rng_at k2005 (by decide) h102
    subst hQF
    exact aw_iret rfl dX9_bests_14 (by decide) (by decide) ⟨by rw [if_neg (by omega)], _, _, _, _, _, f2016, f2017, f2018, f2019, f2004, rg2_tr (rg2_rf 89 89 99 102 h) (rg2_w k2005 (by decide)), hjd⟩
set_option maxHeartbeats 4000000 in
theorem oX9_sure {l : Launch} {G : xG} {h : List va_E} {sp fa nb ns nm nv sh : Nat} {ho ow sl : Int32} {rg : Nat → Int32} {m ye b1 b2 : Nat → Nat} {W Z Ro Co : Nat → Int32} {fi : Nat → Nat} {lk su jd wy : Nat → Int32} {lx : Nat → Nat → Nat → Nat → Nat} {a i b : Int32} (h88 : h[88]? = some (oB 9 (lM G (nI sp) (nI fa) (nI nb) (nI ns) (nI nm) ho ow sl (nI nv) (nI sh)))) (h89 : h[89]? = some (aI 7 rg)) (h90 : h[90]? = some (aI 20 (nA m))) (h91 : h[91]? = some (aI 4 (nA ye))) (h93 : h[93]? = some (aI 40 W)) (h94 : h[94]? = some (aI 40 Z)) (h95 : h[95]? = some (aI 40 Ro)) (h96 : h[96]? = some (aI 40 Co)) (h97 : h[97]? = some (aI 30 (nA b1))) (h98 : h[98]? = some (aI 30 (nA b2))) (h92 : h[92]? = some (aI 4 (nA fi))) (h99 : h[99]? = some (aI 100 lk)) (h100 : h[100]? = some (aI 11264 su)) (h101 : h[101]? = some (aI 10 jd)) (h102 : h[102]? = some (aI 11264 wy)) (hm : ∀ j, j < 20 → m j ≤ j) (hye : ∀ j, j < 4 → ye j < 1901) (hnb : nb ≤ 30) (bb1 : ∀ j, j < 30 → b1 j < 40) (bb2 : ∀ j, j < 30 → b2 j < 40) (hsp : sp ≤ 50) (hfd : fa ≤ 9) (hfi : ∀ j, j < 4 → fi j < 11) (hjd : pB jd) (hlx : ∀ a, a < 4 → ∀ b, b < 4 → ∀ i, i < fi a → ∀ k, k < fi b → (lkS ye (fun j => snF (root m) (W j) 20) Z Ro Co (brF b1 b2 (a * 10 + i) (b * 10 + k) nb = true) sp fa a i b k) = nI (lx a b i k)) (hlx3 : ∀ a b i k, lx a b i k ≤ 300) : CE l G yX9_sure cX9_sure 4 (some .int) 6 0 0 [.ref (G.1 + 88), .int a, .int i, .int b] h (some (.int (if (((0 ≤ a.toInt ∧ a.toInt < 4) ∧ (0 ≤ b.toInt ∧ b.toInt < 4) ∧ a.toInt ≠ b.toInt) ∧ ((0 ≤ a.toInt ∧ a.toInt < 4) ∧ 0 ≤ i.toInt ∧ i.toInt < (fi (tn a) : Int))) then (if jU (lx (tn a) (tn b)) (fi (tn b)) (fi (tn a)) (tn i) then 1 else 0) else -1))) (fun h1 => ∃ lk1 : Nat → Int32, ∃ su1 : Nat → Int32, ∃ jd1 : Nat → Int32, ∃ wy1 : Nat → Int32, ∃ rg1 : Nat → Int32, h1[99]? = some (aI 100 lk1) ∧ h1[100]? = some (aI 11264 su1) ∧ h1[101]? = some (aI 10 jd1) ∧ h1[102]? = some (aI 11264 wy1) ∧ h1[89]? = some (aI 7 rg1) ∧ rg2 89 89 99 102 h h1 ∧ pB jd1) := by
  refine cm_ofQ rfl (Nat.le_of_ble_eq_true rfl) [(0, .ref (G.1 + 88)), (1, .int a), (2, .int i), (3, .int b)] rfl (fun QF hQF => ?_)
  refine aw_aload_n 0 dX9_sure_0 rfl rfl ?_
  refine aw_iload_n 1 dX9_sure_1 rfl rfl ?_
  refine aw_iload_n 3 dX9_sure_2 rfl rfl ?_
  refine aw_dV [.int a, .int b] [] lX9_184 vX9_areBooks mX9_areBooks dX9_sure_3 (bX9_areBooks (a := a) (b := b) ) h88 rfl rfl rfl (Nat.le_of_ble_eq_true rfl) (by decide) (by decide) rfl ?_
  refine aw_if_eq 22 dX9_sure_6 (by decide) (fun c6 => ?_) (fun c6 => ?_)
  · have t6 := ite_0 c6
    refine aw_aload_n 0 dX9_sure_22 rfl rfl ?_
    refine aw_iconst (-1) dX9_sure_23 (by decide) ?_
    refine aw_eV [.int (-1)] [] lX9_130 vX9_refuse mX9_refuse dX9_sure_24 (bX9_refuse (sp := sp) (fa := fa) (nb := nb) (ns := ns) (nm := nm) (nv := nv) (sh := sh) (ho := ho) (ow := ow) (sl := sl) (rg := rg) (x := (-1)) (q := 1) h88 h89 (by decide) (by decide)) h88 rfl rfl rfl (Nat.le_of_ble_eq_true rfl) (by decide) (by decide) rfl (fun h2022 q2021 => ?_)
    obtain ⟨rg12020, f2023, k2024⟩ := q2021
    have f2025 := rng_at k2024 (by decide) h88
    have f2026 := rng_at k2024 (by decide) h90
    have f2027 := rng_at k2024 (by decide) h91
    have f2028 := rng_at k2024 (by decide) h93
    have f2029 := rng_at k2024 (by decide) h94
    have f2030 := rng_at k2024 (by decide) h95
    have f2031 := rng_at k2024 (by decide) h96
    have f2032 := rng_at k2024 (by decide) h97
    have f2033 := rng_at k2024 (by decide) h98
    have f2034 := rng_at k2024 (by decide) h92
    have f2035 := rng_at k2024 (by decide) h99
    have f2036 := rng_at k2024 (by decide) h100
    have f2037 := rng_at k2024 (by decide) h101
    have f2038 := rng_at k2024 (by decide) h102
    subst hQF
    exact aw_iret rfl dX9_sure_27 (by decide) (by decide) ⟨by rw [if_neg (by omega)], _, _, _, _, _, f2035, f2036, f2037, f2038, f2023, rg2_tr (rg2_rf 89 89 99 102 h) (rg2_w k2024 (by decide)), hjd⟩
  · have t6 := ite_1 c6
    obtain ⟨a0, bb_a0, ee_a0⟩ := i_nat (x := a) (N := 4) (by omega) (by omega)
    subst ee_a0
    have tt_a0 : (nI a0).toInt = (a0 : Int) := nI_toInt (by omega)
    have nn_a0 : tn (nI a0) = a0 := tn_nI (by omega)
    obtain ⟨b0, bb_b0, ee_b0⟩ := i_nat (x := b) (N := 4) (by omega) (by omega)
    subst ee_b0
    have tt_b0 : (nI b0).toInt = (b0 : Int) := nI_toInt (by omega)
    have nn_b0 : tn (nI b0) = b0 := tn_nI (by omega)
    refine aw_iload_n 2 dX9_sure_9 rfl rfl ?_
    refine aw_aload_n 0 dX9_sure_10 rfl rfl ?_
    refine aw_get fX9_19 dX9_sure_11 h88 rfl ?_
    refine aw_iload_n 1 dX9_sure_14 rfl rfl ?_
    refine aw_iald a0 (rfl) (by omega) (by decide) dX9_sure_15 h92 ?_
    refine aw_toe (nI (fi a0)) (rfl) ?_
    have b2039 := hfi a0 (by omega)
    refine aw_dS [.int i, .int (nI (fi a0))] [] lX9_126 sX9_isIn mX9_isIn dX9_sure_16 (bX9_isIn (x := i) (n := fi a0) (by omega)) rfl (Nat.le_of_ble_eq_true rfl) (by decide) (by decide) rfl ?_
    refine aw_if_ne 28 dX9_sure_19 (by decide) (fun c19 => ?_) (fun c19 => ?_)
    · have t19 := ite_1 c19
      have fa0 := hfi a0 (by omega)
      obtain ⟨i0, bb_i0, ee_i0⟩ := i_nat (x := i) (N := 10) (by omega) (by omega)
      subst ee_i0
      have tt_i0 : (nI i0).toInt = (i0 : Int) := nI_toInt (by omega)
      have nn_i0 : tn (nI i0) = i0 := tn_nI (by omega)
      refine aw_aload_n 0 dX9_sure_28 rfl rfl ?_
      refine aw_iload_n 1 dX9_sure_29 rfl rfl ?_
      refine aw_iload_n 2 dX9_sure_30 rfl rfl ?_
      refine aw_iload_n 3 dX9_sure_31 rfl rfl ?_
      refine aw_eV [.int (nI a0), .int (nI i0), .int (nI b0)] [] lX9_190 vX9_isSure mX9_isSure dX9_sure_32 (bX9_isSure (sp := sp) (fa := fa) (nb := nb) (ns := ns) (nm := nm) (nv := nv) (sh := sh) (ho := ho) (ow := ow) (sl := sl) (m := m) (ye := ye) (b1 := b1) (b2 := b2) (W := W) (Z := Z) (Ro := Ro) (Co := Co) (fi := fi) (lk := lk) (su := su) (jd := jd) (wy := wy) (a := a0) (b := b0) (i := i0) (lx := lx a0 b0) h88 h90 h91 h93 h94 h95 h96 h97 h98 h92 h99 h100 h101 h102 hm hye (by omega) bb1 bb2 (by omega) (by omega) hfi (by omega) (by omega) (by omega) (by omega) (by omega) (hlx a0 (by omega) b0 (by omega)) (hlx3 a0 b0)) h88 rfl rfl rfl (Nat.le_of_ble_eq_true rfl) (by decide) (by decide) rfl (fun h2045 q2044 => ?_)
      obtain ⟨lk12040, su12041, jd12042, wy12043, f2046, f2047, f2048, f2049, k2050, p2051, p2052⟩ := q2044
      have f2053 := rng_at k2050 (by decide) h88
      have f2054 := rng_at k2050 (by decide) h89
      have f2055 := rng_at k2050 (by decide) h90
      have f2056 := rng_at k2050 (by decide) h91
      have f2057 := rng_at k2050 (by decide) h93
      have f2058 := rng_at k2050 (by decide) h94
      have f2059 := rng_at k2050 (by decide) h95
      have f2060 := rng_at k2050 (by decide) h96
      have f2061 := rng_at k2050 (by decide) h97
      have f2062 := rng_at k2050 (by decide) h98
      have f2063 := rng_at k2050 (by decide) h92
      refine aw_if_eq 42 dX9_sure_35 (by decide) (fun c35 => ?_) (fun c35 => ?_)
      · have t35 := ite_0 c35
        refine aw_iconst (0) dX9_sure_42 (by decide) ?_
        subst hQF
        exact aw_iret rfl dX9_sure_43 (by decide) (by decide) ⟨by rw [nn_a0, nn_b0, nn_i0, if_pos (by omega), if_neg (by assumption)], _, _, _, _, _, f2046, f2047, f2048, f2049, f2054, rg2_tr (rg2_rf 89 89 99 102 h) (rg2_w k2050 (by decide)), p2051⟩
      · have t35 := ite_1 c35
        refine aw_iconst (1) dX9_sure_38 (by decide) ?_
        refine aw_goto 43 dX9_sure_39 (by decide) ?_
        subst hQF
        exact aw_iret rfl dX9_sure_43 (by decide) (by decide) ⟨by rw [nn_a0, nn_b0, nn_i0, if_pos (by omega), if_pos (by assumption)], _, _, _, _, _, f2046, f2047, f2048, f2049, f2054, rg2_tr (rg2_rf 89 89 99 102 h) (rg2_w k2050 (by decide)), p2051⟩
    · have t19 := ite_0 c19
      refine aw_aload_n 0 dX9_sure_22 rfl rfl ?_
      refine aw_iconst (-1) dX9_sure_23 (by decide) ?_
      refine aw_eV [.int (-1)] [] lX9_130 vX9_refuse mX9_refuse dX9_sure_24 (bX9_refuse (sp := sp) (fa := fa) (nb := nb) (ns := ns) (nm := nm) (nv := nv) (sh := sh) (ho := ho) (ow := ow) (sl := sl) (rg := rg) (x := (-1)) (q := 1) h88 h89 (by decide) (by decide)) h88 rfl rfl rfl (Nat.le_of_ble_eq_true rfl) (by decide) (by decide) rfl (fun h2066 q2065 => ?_)
      obtain ⟨rg12064, f2067, k2068⟩ := q2065
      have f2069 := rng_at k2068 (by decide) h88
      have f2070 := rng_at k2068 (by decide) h90
      have f2071 := rng_at k2068 (by decide) h91
      have f2072 := rng_at k2068 (by decide) h93
      have f2073 := rng_at k2068 (by decide) h94
      have f2074 := rng_at k2068 (by decide) h95
      have f2075 := rng_at k2068 (by decide) h96
      have f2076 := rng_at k2068 (by decide) h97
      have f2077 := rng_at k2068 (by decide) h98
      have f2078 := rng_at k2068 (by decide) h92
      have f2079 := rng_at k2068 (by decide) h99
      have f2080 := rng_at k2068 (by decide) h100
      have f2081 := rng_at k2068 (by decide) h101
      have f2082 := rng_at k2068 (by decide) h102
      subst hQF
      exact aw_iret rfl dX9_sure_27 (by decide) (by decide) ⟨by rw [nn_a0, if_neg (by omega)], _, _, _, _, _, f2079, f2080, f2081, f2082, f2067, rg2_tr (rg2_rf 89 89 99 102 h) (rg2_w k2068 (by decide)), hjd⟩
