set_option maxHeartbeats 4000000 in
theorem oX9_join {l : Launch} {G : xG} {h : List va_E} {sp fa nb ns nm nv sh : Nat} {ho ow sl : Int32} {rg : Nat → Int32} {m ye b1 b2 : Nat → Nat} {W Z Ro Co : Nat → Int32} {fi : Nat → Nat} {lk su jd wy : Nat → Int32} {a b : Int32} (h88 : h[88]? = some (oB 9 (lM G (nI sp) (nI fa) (nI nb) (nI ns) (nI nm) ho ow sl (nI nv) (nI sh)))) (h89 : h[89]? = some (aI 7 rg)) (h90 : h[90]? = some (aI 20 (nA m))) (h91 : h[91]? = some (aI 4 (nA ye))) (h93 : h[93]? = some (aI 40 W)) (h94 : h[94]? = some (aI 40 Z)) (h95 : h[95]? = some (aI 40 Ro)) (h96 : h[96]? = some (aI 40 Co)) (h97 : h[97]? = some (aI 30 (nA b1))) (h98 : h[98]? = some (aI 30 (nA b2))) (h92 : h[92]? = some (aI 4 (nA fi))) (h99 : h[99]? = some (aI 100 lk)) (h100 : h[100]? = some (aI 11264 su)) (h101 : h[101]? = some (aI 10 jd)) (h102 : h[102]? = some (aI 11264 wy)) (hm : ∀ j, j < 20 → m j ≤ j) (hye : ∀ j, j < 4 → ye j < 1901) (hnb : nb ≤ 30) (bb1 : ∀ j, j < 30 → b1 j < 40) (bb2 : ∀ j, j < 30 → b2 j < 40) (hfi : ∀ j, j < 4 → fi j < 11) (hjd : pB jd) : CU l G yX9_join cX9_join 3 (some .int) 6 0 0 [.ref (G.1 + 88), .int a, .int b] h (fun r h1 => ∃ lk1 : Nat → Int32, ∃ su1 : Nat → Int32, ∃ jd1 : Nat → Int32, ∃ wy1 : Nat → Int32, ∃ rg1 : Nat → Int32, h1[99]? = some (aI 100 lk1) ∧ h1[100]? = some (aI 11264 su1) ∧ h1[101]? = some (aI 10 jd1) ∧ h1[102]? = some (aI 11264 wy1) ∧ h1[89]? = some (aI 7 rg1) ∧ rg2 89 89 99 102 h h1 ∧ pB jd1 ∧ True) := by
  refine cm_ofQ rfl (Nat.le_of_ble_eq_true rfl) [(0, .ref (G.1 + 88)), (1, .int a), (2, .int b)] rfl (fun QF hQF => ?_)
  refine aw_aload_n 0 dX9_join_0 rfl rfl ?_
  refine aw_iload_n 1 dX9_join_1 rfl rfl ?_
  refine aw_iload_n 2 dX9_join_2 rfl rfl ?_
  refine aw_dV [.int a, .int b] [] lX9_184 vX9_areBooks mX9_areBooks dX9_join_3 (bX9_areBooks (a := a) (b := b) ) h88 rfl rfl rfl (Nat.le_of_ble_eq_true rfl) (by decide) (by decide) rfl ?_
  refine aw_if_eq 18 dX9_join_6 (by decide) (fun c6 => ?_) (fun c6 => ?_)
  · have t6 := ite_0 c6
    refine aw_aload_n 0 dX9_join_18 rfl rfl ?_
    refine aw_iconst (-1) dX9_join_19 (by decide) ?_
    refine aw_eV [.int (-1)] [] lX9_130 vX9_refuse mX9_refuse dX9_join_20 (bX9_refuse (sp := sp) (fa := fa) (nb := nb) (ns := ns) (nm := nm) (nv := nv) (sh := sh) (ho := ho) (ow := ow) (sl := sl) (rg := rg) (x := (-1)) (q := 1) h88 h89 (by decide) (by decide)) h88 rfl rfl rfl (Nat.le_of_ble_eq_true rfl) (by decide) (by decide) rfl (fun h1874 q1873 => ?_)
    obtain ⟨rg11872, f1875, k1876⟩ := q1873
    have f1877 := rng_at k1876 (by decide) h88
    have f1878 := rng_at k1876 (by decide) h90
    have f1879 := rng_at k1876 (by decide) h91
    have f1880 := rng_at k1876 (by decide) h93
    have f1881 := rng_at k1876 (by decide) h94
    have f1882 := rng_at k1876 (by decide) h95
    have f1883 := rng_at k1876 (by decide) h96
    have f1884 := rng_at k1876 (by decide) h97
    have f1885 := rng_at k1876 (by decide) h98
    have f1886 := rng_at k1876 (by decide) h92
    have f1887 := rng_at k1876 (by decide) h99
    have f1888 := rng_at k1876 (by decide) h100
    have f1889 := rng_at k1876 (by decide) h101
    have f1890 := rng_at k1876 (by decide) h102
    subst hQF
    exact aw_iret rfl dX9_join_23 (by decide) (by decide) ⟨_, rfl, _, _, _, _, _, f1887, f1888, f1889, f1890, f1875, rg2_tr (rg2_rf 89 89 99 102 h) (rg2_w k1876 (by decide)), hjd, trivial⟩
  · have t6 := ite_1 c6
    obtain ⟨a0, bb_a0, ee_a0⟩ := i_nat (x := a) (N := 4) (by omega) (by omega)
    subst ee_a0
    have tt_a0 : (nI a0).toInt = (a0 : Int) := nI_toInt (by omega)
    have nn_a0 : tn (nI a0) = a0 := tn_nI (by omega)
    obtain ⟨b0, bb_b0, ee_b0⟩ := i_nat (x := b) (N := 4) (by omega) (by omega)
    subst ee_b0
    have tt_b0 : (nI b0).toInt = (b0 : Int) := nI_toInt (by omega)
    have nn_b0 : tn (nI b0) = b0 := tn_nI (by omega)
    refine aw_aload_n 0 dX9_join_9 rfl rfl ?_
    refine aw_iload_n 1 dX9_join_10 rfl rfl ?_
    refine aw_iload_n 2 dX9_join_11 rfl rfl ?_
    refine aw_uV [.int (nI a0), .int (nI b0)] [] lX9_187 vX9_joins mX9_joins dX9_join_12 (bX9_joins (sp := sp) (fa := fa) (nb := nb) (ns := ns) (nm := nm) (nv := nv) (sh := sh) (ho := ho) (ow := ow) (sl := sl) (m := m) (ye := ye) (b1 := b1) (b2 := b2) (W := W) (Z := Z) (Ro := Ro) (Co := Co) (fi := fi) (lk := lk) (su := su) (jd := jd) (wy := wy) (a := a0) (b := b0) h88 h90 h91 h93 h94 h95 h96 h97 h98 h92 h99 h100 h101 h102 hm hye (by omega) bb1 bb2 hfi (by omega) (by omega) (by omega)) h88 rfl rfl rfl (Nat.le_of_ble_eq_true rfl) (by decide) (by decide) rfl (fun r1896 h1897 q1895 => ?_)
    obtain ⟨lk11891, su11892, jd11893, wy11894, f1898, f1899, f1900, f1901, k1902, p1903, u1904⟩ := q1895
    have f1905 := rng_at k1902 (by decide) h88
    have f1906 := rng_at k1902 (by decide) h89
    have f1907 := rng_at k1902 (by decide) h90
    have f1908 := rng_at k1902 (by decide) h91
    have f1909 := rng_at k1902 (by decide) h93
    have f1910 := rng_at k1902 (by decide) h94
    have f1911 := rng_at k1902 (by decide) h95
    have f1912 := rng_at k1902 (by decide) h96
    have f1913 := rng_at k1902 (by decide) h97
    have f1914 := rng_at k1902 (by decide) h98
    have f1915 := rng_at k1902 (by decide) h92
    refine aw_goto 23 dX9_join_15 (by decide) ?_
    subst hQF
    exact aw_iret rfl dX9_join_23 (by decide) (by decide) ⟨_, rfl, _, _, _, _, _, f1898, f1899, f1900, f1901, f1906, rg2_tr (rg2_rf 89 89 99 102 h) (rg2_w k1902 (by decide)), p1903, trivial⟩
set_option maxHeartbeats 4000000 in
theorem oX9_joined {l : Launch} {G : xG} {h : List va_E} {sp fa nb ns nm nv sh : Nat} {ho ow sl : Int32} {rg : Nat → Int32} {m ye b1 b2 : Nat → Nat} {W Z Ro Co : Nat → Int32} {fi : Nat → Nat} {lk su jd wy : Nat → Int32} {a i b : Int32} (h88 : h[88]? = some (oB 9 (lM G (nI sp) (nI fa) (nI nb) (nI ns) (nI nm) ho ow sl (nI nv) (nI sh)))) (h89 : h[89]? = some (aI 7 rg)) (h90 : h[90]? = some (aI 20 (nA m))) (h91 : h[91]? = some (aI 4 (nA ye))) (h93 : h[93]? = some (aI 40 W)) (h94 : h[94]? = some (aI 40 Z)) (h95 : h[95]? = some (aI 40 Ro)) (h96 : h[96]? = some (aI 40 Co)) (h97 : h[97]? = some (aI 30 (nA b1))) (h98 : h[98]? = some (aI 30 (nA b2))) (h92 : h[92]? = some (aI 4 (nA fi))) (h99 : h[99]? = some (aI 100 lk)) (h100 : h[100]? = some (aI 11264 su)) (h101 : h[101]? = some (aI 10 jd)) (h102 : h[102]? = some (aI 11264 wy)) (hm : ∀ j, j < 20 → m j ≤ j) (hye : ∀ j, j < 4 → ye j < 1901) (hnb : nb ≤ 30) (bb1 : ∀ j, j < 30 → b1 j < 40) (bb2 : ∀ j, j < 30 → b2 j < 40) (hfi : ∀ j, j < 4 → fi j < 11) (hjd : pB jd) : CU l G yX9_joined cX9_joined 5 (some .int) 6 0 0 [.ref (G.1 + 88), .int a, .int i, .int b] h (fun r h1 => ∃ lk1 : Nat → Int32, ∃ su1 : Nat → Int32, ∃ jd1 : Nat → Int32, ∃ wy1 : Nat → Int32, ∃ rg1 : Nat → Int32, h1[99]? = some (aI 100 lk1) ∧ h1[100]? = some (aI 11264 su1) ∧ h1[101]? = some (aI 10 jd1) ∧ h1[102]? = some (aI 11264 wy1) ∧ h1[89]? = some (aI 7 rg1) ∧ rg2 89 89 99 102 h h1 ∧ pB jd1 ∧ True) := by
  refine cm_ofQ rfl (Nat.le_of_ble_eq_true rfl) [(0, .ref (G.1 + 88)), (1, .int a), (2, .int i), (3, .int b)] rfl (fun QF hQF => ?_)
  refine aw_aload_n 0 dX9_joined_0 rfl rfl ?_
  refine aw_iload_n 1 dX9_joined_1 rfl rfl ?_
  refine aw_iload_n 3 dX9_joined_2 rfl rfl ?_
  refine aw_dV [.int a, .int b] [] lX9_184 vX9_areBooks mX9_areBooks dX9_joined_3 (bX9_areBooks (a := a) (b := b) ) h88 rfl rfl rfl (Nat.le_of_ble_eq_true rfl) (by decide) (by decide) rfl ?_
  refine aw_if_eq 22 dX9_joined_6 (by decide) (fun c6 => ?_) (fun c6 => ?_)
  · have t6 := ite_0 c6
    refine aw_aload_n 0 dX9_joined_22 rfl rfl ?_
    refine aw_iconst (-1) dX9_joined_23 (by decide) ?_
    refine aw_eV [.int (-1)] [] lX9_130 vX9_refuse mX9_refuse dX9_joined_24 (bX9_refuse (sp := sp) (fa := fa) (nb := nb) (ns := ns) (nm := nm) (nv := nv) (sh := sh) (ho := ho) (ow := ow) (sl := sl) (rg := rg) (x := (-1)) (q := 1) h88 h89 (by decide) (by decide)) h88 rfl rfl rfl (Nat.le_of_ble_eq_true rfl) (by decide) (by decide) rfl (fun h1918 q1917 => ?_)
    obtain ⟨rg11916, f1919, k1920⟩ := q1917
    have f1921 := rng_at k1920 (by decide) h88
    have f1922 := rng_at k1920 (by decide) h90
    have f1923 := rng_at k1920 (by decide) h91
    have f1924 := rng_at k1920 (by decide) h93
    have f1925 := rng_at k1920 (by decide) h94
    have f1926 := rng_at k1920 (by decide) h95
    have f1927 := rng_at k1920 (by decide) h96
    have f1928 := rng_at k1920 (by decide) h97
    have f1929 := rng_at k1920 (by decide) h98
    have f1930 := rng_at k1920 (by decide) h92
    have f1931 := rng_at k1920 (by decide) h99
    have f1932 := rng_at k1920 (by decide) h100
    have f1933 := rng_at k1920 (by decide) h101
    have f1934 := rng_at k1920 (by decide) h102
    subst hQF
    exact aw_iret rfl dX9_joined_27 (by decide) (by decide) ⟨_, rfl, _, _, _, _, _, f1931, f1932, f1933, f1934, f1919, rg2_tr (rg2_rf 89 89 99 102 h) (rg2_w k1920 (by decide)), hjd, trivial⟩
  · have t6 := ite_1 c6
    obtain ⟨a0, bb_a0, ee_a0⟩ := i_nat (x := a) (N := 4) (by omega) (by omega)
    subst ee_a0
    have tt_a0 : (nI a0).toInt = (a0 : Int) := nI_toInt (by omega)
    have nn_a0 : tn (nI a0) = a0 := tn_nI (by omega)
    obtain ⟨b0, bb_b0, ee_b0⟩ := i_nat (x := b) (N := 4) (by omega) (by omega)
    subst ee_b0
    have tt_b0 : (nI b0).toInt = (b0 : Int) := nI_toInt (by omega)
    have nn_b0 : tn (nI b0) = b0 := tn_nI (by omega)
    refine aw_iload_n 2 dX9_joined_9 rfl rfl ?_
    refine aw_aload_n 0 dX9_joined_10 rfl rfl ?_
    refine aw_get fX9_19 dX9_joined_11 h88 rfl ?_
    refine aw_iload_n 1 dX9_joined_14 rfl rfl ?_
    refine aw_iald a0 (rfl) (by omega) (by decide) dX9_joined_15 h92 ?_
    refine aw_toe (nI (fi a0)) (rfl) ?_
    have b1935 := hfi a0 (by omega)
    refine aw_dS [.int i, .int (nI (fi a0))] [] lX9_126 sX9_isIn mX9_isIn dX9_joined_16 (bX9_isIn (x := i) (n := fi a0) (by omega)) rfl (Nat.le_of_ble_eq_true rfl) (by decide) (by decide) rfl ?_
    refine aw_if_ne 28 dX9_joined_19 (by decide) (fun c19 => ?_) (fun c19 => ?_)
    · have t19 := ite_1 c19
      have fa0 := hfi a0 (by omega)
      obtain ⟨i0, bb_i0, ee_i0⟩ := i_nat (x := i) (N := 10) (by omega) (by omega)
      subst ee_i0
      have tt_i0 : (nI i0).toInt = (i0 : Int) := nI_toInt (by omega)
      have nn_i0 : tn (nI i0) = i0 := tn_nI (by omega)
      refine aw_aload_n 0 dX9_joined_28 rfl rfl ?_
      refine aw_iload_n 1 dX9_joined_29 rfl rfl ?_
      refine aw_iload_n 3 dX9_joined_30 rfl rfl ?_
      refine aw_uV [.int (nI a0), .int (nI b0)] [] lX9_187 vX9_joins mX9_joins dX9_joined_31 (bX9_joins (sp := sp) (fa := fa) (nb := nb) (ns := ns) (nm := nm) (nv := nv) (sh := sh) (ho := ho) (ow := ow) (sl := sl) (m := m) (ye := ye) (b1 := b1) (b2 := b2) (W := W) (Z := Z) (Ro := Ro) (Co := Co) (fi := fi) (lk := lk) (su := su) (jd := jd) (wy := wy) (a := a0) (b := b0) h88 h90 h91 h93 h94 h95 h96 h97 h98 h92 h99 h100 h101 h102 hm hye (by omega) bb1 bb2 hfi (by omega) (by omega) (by omega)) h88 rfl rfl rfl (Nat.le_of_ble_eq_true rfl) (by decide) (by decide) rfl (fun r1941 h1942 q1940 => ?_)
      obtain ⟨lk11936, su11937, jd11938, wy11939, f1943, f1944, f1945, f1946, k1947, p1948, u1949⟩ := q1940
      have f1950 := rng_at k1947 (by decide) h88
      have f1951 := rng_at k1947 (by decide) h89
      have f1952 := rng_at k1947 (by decide) h90
      have f1953 := rng_at k1947 (by decide) h91
      have f1954 := rng_at k1947 (by decide) h93
      have f1955 := rng_at k1947 (by decide) h94
      have f1956 := rng_at k1947 (by decide) h95
      have f1957 := rng_at k1947 (by decide) h96
      have f1958 := rng_at k1947 (by decide) h97
      have f1959 := rng_at k1947 (by decide) h98
      have f1960 := rng_at k1947 (by decide) h92
      refine aw_istore [(4, .int r1941), (0, .ref (G.1 + 88)), (1, .int (nI a0)), (2, .int (nI i0)), (3, .int (nI b0))] dX9_joined_34 (by decide) rfl ?_
      refine aw_aload_n 1 dX9_joined_36 rfl rfl ?_
      refine aw_get fX9_53 dX9_joined_37 f1950 rfl ?_
      refine aw_iload_n 3 dX9_joined_40 rfl rfl ?_
      refine aw_iald i0 (rfl) (by omega) (by decide) dX9_joined_41 f1945 ?_
      subst hQF
      exact aw_iret rfl dX9_joined_42 (by decide) (by decide) ⟨_, rfl, _, _, _, _, _, f1943, f1944, f1945, f1946, f1951, rg2_tr (rg2_rf 89 89 99 102 h) (rg2_w k1947 (by decide)), p1948, trivial⟩
    · have t19 := ite_0 c19
      refine aw_aload_n 0 dX9_joined_22 rfl rfl ?_
      refine aw_iconst (-1) dX9_joined_23 (by decide) ?_
      refine aw_eV [.int (-1)] [] lX9_130 vX9_refuse mX9_refuse dX9_joined_24 (bX9_refuse (sp := sp) (fa := fa) (nb := nb) (ns := ns) (nm := nm) (nv := nv) (sh := sh) (ho := ho) (ow := ow) (sl := sl) (rg := rg) (x := (-1)) (q := 1) h88 h89 (by decide) (by decide)) h88 rfl rfl rfl (Nat.le_of_ble_eq_true rfl) (by decide) (by decide) rfl (fun h1963 q1962 => ?_)
      obtain ⟨rg11961, f1964, k1965⟩ := q1962
      have f1966 := rng_at k1965 (by decide) h88
      have f1967 := rng_at k1965 (by decide) h90
      have f1968 := rng_at k1965 (by decide) h91
      have f1969 := rng_at k1965 (by decide) h93
      have f1970 := rng_at k1965 (by decide) h94
      have f1971 := rng_at k1965 (by decide) h95
      have f1972 := rng_at k1965 (by decide) h96
      have f1973 := rng_at k1965 (by decide) h97
      have f1974 := rng_at k1965 (by decide) h98
      have f1975 := rng_at k1965 (by decide) h92
      have f1976 := rng_at k1965 (by decide) h99
      have f1977 := rng_at k1965 (by decide) h100
      have f1978 := rng_at k1965 (by decide) h101
      have f1979 := rng_at k1965 (by decide) h102
      subst hQF
      exact aw_iret rfl dX9_joined_27 (by decide) (by decide) ⟨_, rfl, _, _, _, _, _, f1976, f1977, f1978, f1979, f1964, rg2_tr (rg2_rf 89 89 99 102 h) (rg2_w k1965 (by decide)), hjd, trivial⟩
set_option maxHeartbeats 4000000 in
theorem oX9_bests {l : Launch} {G : xG} {h : List va_E} {sp fa nb ns nm nv sh : Nat} {ho ow sl : Int32} {rg : Nat → Int32} {m ye b1 b2 : Nat → Nat} {W Z Ro Co : Nat → Int32} {fi : Nat → Nat} {lk su jd wy : Nat → Int32} {a b : Int32} (h88 : h[88]? = some (oB 9 (lM G (nI sp) (nI fa) (nI nb) (nI ns) (nI nm) ho ow sl (nI nv) (nI sh)))) (h89 : h[89]? = some (aI 7 rg)) (h90 : h[90]? = some (aI 20 (nA m))) (h91 : h[91]? = some (aI 4 (nA ye))) (h93 : h[93]? = some (aI 40 W)) (h94 : h[94]? = some (aI 40 Z)) (h95 : h[95]? = some (aI 40 Ro)) (h96 : h[96]? = some (aI 40 Co)) (h97 : h[97]? = some (aI 30 (nA b1))) (h98 : h[98]? = some (aI 30 (nA b2))) (h92 : h[92]? = some (aI 4 (nA fi))) (h99 : h[99]? = some (aI 100 lk)) (h100 : h[100]? = some (aI 11264 su)) (h101 : h[101]? = some (aI 10 jd)) (h102 : h[102]? = some (aI 11264 wy)) (hm : ∀ j, j < 20 → m j ≤ j) (hye : ∀ j, j < 4 → ye j < 1901) (hnb : nb ≤ 30) (bb1 : ∀ j, j < 30 → b1 j < 40) (bb2 : ∀ j, j < 30 → b2 j < 40) (hfi : ∀ j, j < 4 → fi j < 11) (hjd : pB jd) : CU l G yX9_bests cX9_bests 4 (some .int) 6 0 0 [.ref (G.1 + 88), .int a, .int b] h (fun r h1 => ∃ lk1 : Nat → Int32, ∃ su1 : Nat → Int32, ∃ jd1 : Nat → Int32, ∃ wy1 : Nat → Int32, ∃ rg1 : Nat → Int32, h1[99]? = some (aI 100 lk1) ∧ h1[100]? = some (aI 11264 su1) ∧ h1[101]? = some (aI 10 jd1) ∧ h1[102]? = some (aI 11264 wy1) ∧ h1[89]? = some (aI 7 rg1) ∧ rg2 89 89 99 102 h h1 ∧ pB jd1 ∧ True) := by
  refine cm_ofQ rfl (Nat.le_of_ble_eq_true rfl) [(0, .ref (G.1 + 88)), (1, .int a), (2, .int b)] rfl (fun QF hQF => ?_)
  refine aw_aload_n 0 dX9_bests_0 rfl rfl ?_
  refine aw_iload_n 1 dX9_bests_1 rfl rfl ?_
  refine aw_iload_n 2 dX9_bests_2 rfl rfl ?_
  refine aw_dV [.int a, .int b] [] lX9_184 vX9_areBooks mX9_areBooks dX9_bests_3 (bX9_areBooks (a := a) (b := b) ) h88 rfl rfl rfl (Nat.le_of_ble_eq_true rfl) (by decide) (by decide) rfl ?_
  refine aw_if_ne 15 dX9_bests_6 (by decide) (fun c6 => ?_) (fun c6 => ?_)
  · have t6 := ite_1 c6
    obtain ⟨a0, bb_a0, ee_a0⟩ := i_nat (x := a) (N := 4) (by omega) (by omega)
    subst ee_a0
    have tt_a0 : (nI a0).toInt = (a0 : Int) := nI_toInt (by omega)
    have nn_a0 : tn (nI a0) = a0 := tn_nI (by omega)
    obtain ⟨b0, bb_b0, ee_b0⟩ := i_nat (x := b) (N := 4) (by omega) (by omega)
    subst ee_b0
    have tt_b0 : (nI b0).toInt = (b0 : Int) := nI_toInt (by omega)
    have nn_b0 : tn (nI b0) = b0 := tn_nI (by omega)
    refine aw_aload_n 0 dX9_bests_15 rfl rfl ?_
    refine aw_iload_n 1 dX9_bests_16 rfl rfl ?_
    refine aw_iload_n 2 dX9_bests_17 rfl rfl ?_
    refine aw_uV [.int (nI a0), .int (nI b0)] [] lX9_187 vX9_joins mX9_joins dX9_bests_18 (bX9_joins (sp := sp) (fa := fa) (nb := nb) (ns := ns) (nm := nm) (nv := nv) (sh := sh) (ho := ho) (ow := ow) (sl := sl) (m := m) (ye := ye) (b1 := b1) (b2 := b2) (W := W) (Z := Z) (Ro := Ro) (Co := Co) (fi := fi) (lk := lk) (su := su) (jd := jd) (wy := wy) (a := a0) (b := b0) h88 h90 h91 h93 h94 h95 h96 h97 h98 h92 h99 h100 h101 h102 hm hye (by omega) bb1 bb2 hfi (by omega) (by omega) (by omega)) h88 rfl rfl rfl (Nat.le_of_ble_eq_true rfl) (by decide) (by decide) rfl (fun r1985 h1986 q1984 => ?_)
    obtain ⟨lk11980, su11981, jd11982, wy11983, f1987, f1988, f1989, f1990, k1991, p1992, u1993⟩ := q1984
    have f1994 := rng_at k1991 (by decide) h88
    have f1995 := rng_at k1991 (by decide) h89
    have f1996 := rng_at k1991 (by decide) h90
    have f1997 := rng_at k1991 (by decide) h91
    have f1998 := rng_at k1991 (by decide) h93
    have f1999 := rng_at k1991 (by decide) h94
    have f2000 := rng_at k1991 (by decide) h95
    have f2001 := rng_at k1991 (by decide) h96
    have f2002 := rng_at k1991 (by decide) h97
    have f2003 := rng_at k1991 (by decide) h98
    have f2004 := rng_at k1991 (by decide) h92
    refine aw_istore_n [(3, .int r1985), (0, .ref (G.1 + 88)), (1, .int (nI a0)), (2, .int (nI b0))] dX9_bests_21 rfl (by decide) rfl ?_
    refine aw_aload_n 1 dX9_bests_22 rfl rfl ?_
    refine aw_get fX9_56 dX9_bests_23 f1994 rfl ?_
    refine aw_iconst (0) dX9_bests_26 (by decide) ?_
    refine aw_iald 0 (rfl) (by decide) (by decide) dX9_bests_27 f1990 ?_
    subst hQF
    exact aw_iret rfl dX9_bests_28 (by decide) (by decide) ⟨_, rfl, _, _, _, _, _, f1987, f1988, f1989, f1990, f1995, rg2_tr (rg2_rf 89 89 99 102 h) (rg2_w k1991 (by decide)), p1992, trivial⟩
  · have t6 := ite_0 c6
    refine aw_aload_n 0 dX9_bests_9 rfl rfl ?_
    refine aw_iconst (-1) dX9_bests_10 (by decide) ?_
    refine aw_eV [.int (-1)] [] lX9_130 vX9_refuse mX9_refuse dX9_bests_11 (bX9_refuse (sp := sp) (fa := fa) (nb := nb) (ns := ns) (nm := nm) (nv := nv) (sh := sh) (ho := ho) (ow := ow) (sl := sl) (rg := rg) (x := (-1)) (q := 1) h88 h89 (by decide) (by decide)) h88 rfl rfl rfl (Nat.le_of_ble_eq_true rfl) (by decide) (by decide) rfl (fun h2007 q2006 => ?_)
    obtain ⟨rg12005, f2008, k2009⟩ := q2006
    have f2010 := rng_at k2009 (by decide) h88
    have f2011 := rng_at k2009 (by decide) h90
    have f2012 := rng_at k2009 (by decide) h91
    have f2013 := rng_at k2009 (by decide) h93
    have f2014 := rng_at k2009 (by decide) h94
    have f2015 := rng_at k2009 (by decide) h95
    have f2016 := rng_at k2009 (by decide) h96
    have f2017 := rng_at k2009 (by decide) h97
    have f2018 := rng_at k2009 (by decide) h98
    have f2019 := rng_at k2009 (by decide) h92
    have f2020 := rng_at k2009 (by decide) h99
    have f2021 := rng_at k2009 (by decide) h100
    have f2022 := rng_at k2009 (by decide) h101
    have f2023 := rng_at k2009 (by decide) h102
    subst hQF
    exact aw_iret rfl dX9_bests_14 (by decide) (by decide) ⟨_, rfl, _, _, _, _, _, f2020, f2021, f2022, f2023, f2008, rg2_tr (rg2_rf 89 89 99 102 h) (rg2_w k2009 (by decide)), hjd, trivial⟩
set_option maxHeartbeats 4000000 in
theorem oX9_sure {l : Launch} {G : xG} {h : List va_E} {sp fa nb ns nm nv sh : Nat} {ho ow sl : Int32} {rg : Nat → Int32} {m ye b1 b2 : Nat → Nat} {W Z Ro Co : Nat → Int32} {fi : Nat → Nat} {lk su jd wy : Nat → Int32} {a i b : Int32} (h88 : h[88]? = some (oB 9 (lM G (nI sp) (nI fa) (nI nb) (nI ns) (nI nm) ho ow sl (nI nv) (nI sh)))) (h89 : h[89]? = some (aI 7 rg)) (h90 : h[90]? = some (aI 20 (nA m))) (h91 : h[91]? = some (aI 4 (nA ye))) (h93 : h[93]? = some (aI 40 W)) (h94 : h[94]? = some (aI 40 Z)) (h95 : h[95]? = some (aI 40 Ro)) (h96 : h[96]? = some (aI 40 Co)) (h97 : h[97]? = some (aI 30 (nA b1))) (h98 : h[98]? = some (aI 30 (nA b2))) (h92 : h[92]? = some (aI 4 (nA fi))) (h99 : h[99]? = some (aI 100 lk)) (h100 : h[100]? = some (aI 11264 su)) (h101 : h[101]? = some (aI 10 jd)) (h102 : h[102]? = some (aI 11264 wy)) (hm : ∀ j, j < 20 → m j ≤ j) (hye : ∀ j, j < 4 → ye j < 1901) (hnb : nb ≤ 30) (bb1 : ∀ j, j < 30 → b1 j < 40) (bb2 : ∀ j, j < 30 → b2 j < 40) (hfi : ∀ j, j < 4 → fi j < 11) (hjd : pB jd) : CU l G yX9_sure cX9_sure 4 (some .int) 6 0 0 [.ref (G.1 + 88), .int a, .int i, .int b] h (fun r h1 => ∃ lk1 : Nat → Int32, ∃ su1 : Nat → Int32, ∃ jd1 : Nat → Int32, ∃ wy1 : Nat → Int32, ∃ rg1 : Nat → Int32, h1[99]? = some (aI 100 lk1) ∧ h1[100]? = some (aI 11264 su1) ∧ h1[101]? = some (aI 10 jd1) ∧ h1[102]? = some (aI 11264 wy1) ∧ h1[89]? = some (aI 7 rg1) ∧ rg2 89 89 99 102 h h1 ∧ pB jd1 ∧ True) := by
  refine cm_ofQ rfl (Nat.le_of_ble_eq_true rfl) [(0, .ref (G.1 + 88)), (1, .int a), (2, .int i), (3, .int b)] rfl (fun QF hQF => ?_)
  refine aw_aload_n 0 dX9_sure_0 rfl rfl ?_
  refine aw_iload_n 1 dX9_sure_1 rfl rfl ?_
  refine aw_iload_n 3 dX9_sure_2 rfl rfl ?_
  refine aw_dV [.int a, .int b] [] lX9_184 vX9_areBooks mX9_areBooks dX9_sure_3 (bX9_areBooks (a := a) (b := b) ) h88 rfl rfl rfl (Nat.le_of_ble_eq_true rfl) (by decide) (by decide) rfl ?_
  refine aw_if_eq 22 dX9_sure_6 (by decide) (fun c6 => ?_) (fun c6 => ?_)
  · have t6 := ite_0 c6
    refine aw_aload_n 0 dX9_sure_22 rfl rfl ?_
    refine aw_iconst (-1) dX9_sure_23 (by decide) ?_
    refine aw_eV [.int (-1)] [] lX9_130 vX9_refuse mX9_refuse dX9_sure_24 (bX9_refuse (sp := sp) (fa := fa) (nb := nb) (ns := ns) (nm := nm) (nv := nv) (sh := sh) (ho := ho) (ow := ow) (sl := sl) (rg := rg) (x := (-1)) (q := 1) h88 h89 (by decide) (by decide)) h88 rfl rfl rfl (Nat.le_of_ble_eq_true rfl) (by decide) (by decide) rfl (fun h2026 q2025 => ?_)
    obtain ⟨rg12024, f2027, k2028⟩ := q2025
    have f2029 := rng_at k2028 (by decide) h88
    have f2030 := rng_at k2028 (by decide) h90
    have f2031 := rng_at k2028 (by decide) h91
    have f2032 := rng_at k2028 (by decide) h93
    have f2033 := rng_at k2028 (by decide) h94
    have f2034 := rng_at k2028 (by decide) h95
    have f2035 := rng_at k2028 (by decide) h96
    have f2036 := rng_at k2028 (by decide) h97
    have f2037 := rng_at k2028 (by decide) h98
    have f2038 := rng_at k2028 (by decide) h92
    have f2039 := rng_at k2028 (by decide) h99
    have f2040 := rng_at k2028 (by decide) h100
    have f2041 := rng_at k2028 (by decide) h101
    have f2042 := rng_at k2028 (by decide) h102
    subst hQF
    exact aw_iret rfl dX9_sure_27 (by decide) (by decide) ⟨_, rfl, _, _, _, _, _, f2039, f2040, f2041, f2042, f2027, rg2_tr (rg2_rf 89 89 99 102 h) (rg2_w k2028 (by decide)), hjd, trivial⟩
  · have t6 := ite_1 c6
    obtain ⟨a0, bb_a0, ee_a0⟩ := i_nat (x := a) (N := 4) (by omega) (by omega)
    subst ee_a0
    have tt_a0 : (nI a0).toInt = (a0 : Int) := nI_toInt (by omega)
    have nn_a0 : tn (nI a0) = a0 := tn_nI (by omega)
    obtain ⟨b0, bb_b0, ee_b0⟩ := i_nat (x := b) (N := 4) (by omega) (by omega)
    subst ee_b0
    have tt_b0 : (nI b0).toInt = (b0 : Int) := nI_toInt (by omega)
    have nn_b0 : tn (nI b0) = b0 := tn_nI (by omega)
    refine aw_iload_n 2 dX9_sure_9 rfl rfl ?_
    refine aw_aload_n 0 dX9_sure_10 rfl rfl ?_
    refine aw_get fX9_19 dX9_sure_11 h88 rfl ?_
    refine aw_iload_n 1 dX9_sure_14 rfl rfl ?_
    refine aw_iald a0 (rfl) (by omega) (by decide) dX9_sure_15 h92 ?_
    refine aw_toe (nI (fi a0)) (rfl) ?_
    have b2043 := hfi a0 (by omega)
    refine aw_dS [.int i, .int (nI (fi a0))] [] lX9_126 sX9_isIn mX9_isIn dX9_sure_16 (bX9_isIn (x := i) (n := fi a0) (by omega)) rfl (Nat.le_of_ble_eq_true rfl) (by decide) (by decide) rfl ?_
    refine aw_if_ne 28 dX9_sure_19 (by decide) (fun c19 => ?_) (fun c19 => ?_)
    · have t19 := ite_1 c19
      have fa0 := hfi a0 (by omega)
      obtain ⟨i0, bb_i0, ee_i0⟩ := i_nat (x := i) (N := 10) (by omega) (by omega)
      subst ee_i0
      have tt_i0 : (nI i0).toInt = (i0 : Int) := nI_toInt (by omega)
      have nn_i0 : tn (nI i0) = i0 := tn_nI (by omega)
      refine aw_aload_n 0 dX9_sure_28 rfl rfl ?_
      refine aw_iload_n 1 dX9_sure_29 rfl rfl ?_
      refine aw_iload_n 2 dX9_sure_30 rfl rfl ?_
      refine aw_iload_n 3 dX9_sure_31 rfl rfl ?_
      refine aw_uV [.int (nI a0), .int (nI i0), .int (nI b0)] [] lX9_190 vX9_isSure mX9_isSure dX9_sure_32 (bX9_isSure (sp := sp) (fa := fa) (nb := nb) (ns := ns) (nm := nm) (nv := nv) (sh := sh) (ho := ho) (ow := ow) (sl := sl) (m := m) (ye := ye) (b1 := b1) (b2 := b2) (W := W) (Z := Z) (Ro := Ro) (Co := Co) (fi := fi) (lk := lk) (su := su) (jd := jd) (wy := wy) (a := a0) (b := b0) (i := i0) h88 h90 h91 h93 h94 h95 h96 h97 h98 h92 h99 h100 h101 h102 hm hye (by omega) bb1 bb2 hfi (by omega) (by omega) (by omega) (by omega)) h88 rfl rfl rfl (Nat.le_of_ble_eq_true rfl) (by decide) (by decide) rfl (fun r2049 h2050 q2048 => ?_)
      obtain ⟨lk12044, su12045, jd12046, wy12047, f2051, f2052, f2053, f2054, k2055, p2056, u2057⟩ := q2048
      have f2058 := rng_at k2055 (by decide) h88
      have f2059 := rng_at k2055 (by decide) h89
      have f2060 := rng_at k2055 (by decide) h90
      have f2061 := rng_at k2055 (by decide) h91
      have f2062 := rng_at k2055 (by decide) h93
      have f2063 := rng_at k2055 (by decide) h94
      have f2064 := rng_at k2055 (by decide) h95
      have f2065 := rng_at k2055 (by decide) h96
      have f2066 := rng_at k2055 (by decide) h97
      have f2067 := rng_at k2055 (by decide) h98
      have f2068 := rng_at k2055 (by decide) h92
      refine aw_if_eq 42 dX9_sure_35 (by decide) (fun c35 => ?_) (fun c35 => ?_)
      · have d35 := (j_eq (a := r2049.toInt) (b := (0)) (rfl) (rfl)).mp c35
        refine aw_iconst (0) dX9_sure_42 (by decide) ?_
        subst hQF
        exact aw_iret rfl dX9_sure_43 (by decide) (by decide) ⟨_, rfl, _, _, _, _, _, f2051, f2052, f2053, f2054, f2059, rg2_tr (rg2_rf 89 89 99 102 h) (rg2_w k2055 (by decide)), p2056, trivial⟩
      · have d35 := mt (j_eq (a := r2049.toInt) (b := (0)) (rfl) (rfl)).mpr c35
        refine aw_iconst (1) dX9_sure_38 (by decide) ?_
        refine aw_goto 43 dX9_sure_39 (by decide) ?_
        subst hQF
        exact aw_iret rfl dX9_sure_43 (by decide) (by decide) ⟨_, rfl, _, _, _, _, _, f2051, f2052, f2053, f2054, f2059, rg2_tr (rg2_rf 89 89 99 102 h) (rg2_w k2055 (by decide)), p2056, trivial⟩
    · have t19 := ite_0 c19
      refine aw_aload_n 0 dX9_sure_22 rfl rfl ?_
      refine aw_iconst (-1) dX9_sure_23 (by decide) ?_
      refine aw_eV [.int (-1)] [] lX9_130 vX9_refuse mX9_refuse dX9_sure_24 (bX9_refuse (sp := sp) (fa := fa) (nb := nb) (ns := ns) (nm := nm) (nv := nv) (sh := sh) (ho := ho) (ow := ow) (sl := sl) (rg := rg) (x := (-1)) (q := 1) h88 h89 (by decide) (by decide)) h88 rfl rfl rfl (Nat.le_of_ble_eq_true rfl) (by decide) (by decide) rfl (fun h2071 q2070 => ?_)
      obtain ⟨rg12069, f2072, k2073⟩ := q2070
      have f2074 := rng_at k2073 (by decide) h88
      have f2075 := rng_at k2073 (by decide) h90
      have f2076 := rng_at k2073 (by decide) h91
      have f2077 := rng_at k2073 (by decide) h93
      have f2078 := rng_at k2073 (by decide) h94
      have f2079 := rng_at k2073 (by decide) h95
      have f2080 := rng_at k2073 (by decide) h96
      have f2081 := rng_at k2073 (by decide) h97
      have f2082 := rng_at k2073 (by decide) h98
      have f2083 := rng_at k2073 (by decide) h92
      have f2084 := rng_at k2073 (by decide) h99
      have f2085 := rng_at k2073 (by decide) h100
      have f2086 := rng_at k2073 (by decide) h101
      have f2087 := rng_at k2073 (by decide) h102
      subst hQF
      exact aw_iret rfl dX9_sure_27 (by decide) (by decide) ⟨_, rfl, _, _, _, _, _, f2084, f2085, f2086, f2087, f2072, rg2_tr (rg2_rf 89 89 99 102 h) (rg2_w k2073 (by decide)), hjd, trivial⟩
