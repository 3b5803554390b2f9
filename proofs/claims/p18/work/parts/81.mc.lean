set_option maxHeartbeats 4000000 in
theorem oX9_join {l : Launch} {G : xG} {h : List va_E} {sp fa nb ns nm nv sh : Nat} {ho ow sl : Int32} {rg : Nat → Int32} {m ye b1 b2 : Nat → Nat} {W Z Ro Co : Nat → Int32} {fi : Nat → Nat} {lk su jd wy : Nat → Int32} {a b : Int32} (h88 : h[88]? = some (oB 9 (lM G (nI sp) (nI fa) (nI nb) (nI ns) (nI nm) ho ow sl (nI nv) (nI sh)))) (h89 : h[89]? = some (aI 7 rg)) (h90 : h[90]? = some (aI 20 (nA m))) (h91 : h[91]? = some (aI 4 (nA ye))) (h93 : h[93]? = some (aI 40 W)) (h94 : h[94]? = some (aI 40 Z)) (h95 : h[95]? = some (aI 40 Ro)) (h96 : h[96]? = some (aI 40 Co)) (h97 : h[97]? = some (aI 30 (nA b1))) (h98 : h[98]? = some (aI 30 (nA b2))) (h92 : h[92]? = some (aI 4 (nA fi))) (h99 : h[99]? = some (aI 100 lk)) (h100 : h[100]? = some (aI 11264 su)) (h101 : h[101]? = some (aI 10 jd)) (h102 : h[102]? = some (aI 11264 wy)) (hm : ∀ j, j < 20 → m j ≤ j) (hye : ∀ j, j < 4 → ye j < 1901) (hnb : nb ≤ 30) (bb1 : ∀ j, j < 30 → b1 j < 40) (bb2 : ∀ j, j < 30 → b2 j < 40) (hsp : sp ≤ 50) (hfd : fa ≤ 9) (hfi : ∀ j, j < 4 → fi j < 11) (hjd : pB jd) : CU l G yX9_join cX9_join 3 (some .int) 6 0 0 [.ref (G.1 + 88), .int a, .int b] h (fun r h1 => ∃ lk1 : Nat → Int32, ∃ su1 : Nat → Int32, ∃ jd1 : Nat → Int32, ∃ wy1 : Nat → Int32, ∃ rg1 : Nat → Int32, h1[99]? = some (aI 100 lk1) ∧ h1[100]? = some (aI 11264 su1) ∧ h1[101]? = some (aI 10 jd1) ∧ h1[102]? = some (aI 11264 wy1) ∧ h1[89]? = some (aI 7 rg1) ∧ rg2 89 89 99 102 h h1 ∧ pB jd1 ∧ True) := by
  refine cm_ofQ rfl (Nat.le_of_ble_eq_true rfl) [(0, .ref (G.1 + 88)), (1, .int a), (2, .int b)] rfl (fun QF hQF => ?_)
  refine aw_aload_n 0 dX9_join_0 rfl rfl ?_
  refine aw_iload_n 1 dX9_join_1 rfl rfl ?_
  refine aw_iload_n 2 dX9_join_2 rfl rfl ?_
  refine aw_dV [.int a, .int b] [] lX9_184 vX9_areBooks mX9_areBooks dX9_join_3 (bX9_areBooks (a := a) (b := b) ) h88 rfl rfl rfl (Nat.le_of_ble_eq_true rfl) (by decide) (by decide) rfl ?_
  refine aw_if_eq 18 dX9_join_6 (by decide) (fun c6 => ?_) (fun c6 => ?_)
  · have t6 := ite_0 c6
    refine aw_aload_n 0 dX9_join_18 rfl rfl ?_
    refine aw_iconst (-1) dX9_join_19 (by decide) ?_
    refine aw_eV [.int (-1)] [] lX9_130 vX9_refuse mX9_refuse dX9_join_20 (bX9_refuse (sp := sp) (fa := fa) (nb := nb) (ns := ns) (nm := nm) (nv := nv) (sh := sh) (ho := ho) (ow := ow) (sl := sl) (rg := rg) (x := (-1)) (q := 1) h88 h89 (by decide) (by decide)) h88 rfl rfl rfl (Nat.le_of_ble_eq_true rfl) (by decide) (by decide) rfl (fun h1876 q1875 => ?_)
    obtain ⟨rg11874, f1877, k1878⟩ := q1875
    have f1879 := rng_at k1878 (by decide) h88
    have f1880 := rng_at k1878 (by decide) h90
    have f1881 := rng_at k1878 (by decide) h91
    have f1882 := rng_at k1878 (by decide) h93
    have f1883 := rng_at k1878 (by decide) h94
    have f1884 := rng_at k1878 (by decide) h95
    have f1885 := rng_at k1878 (by decide) h96
    have f1886 := rng_at k1878 (by decide) h97
    have f1887 := rng_at k1878 (by decide) h98
    have f1888 := rng_at k1878 (by decide) h92
    have f1889 := rng_at k1878 (by decide) h99
    have f1890 := rng_at k1878 (by decide) h100
    have f1891 := rng_at k1878 (by decide) h101
    have f1892 := rng_at k1878 (by decide) h102
    subst hQF
    exact aw_iret rfl dX9_join_23 (by decide) (by decide) ⟨_, rfl, _, _, _, _, _, f1889, f1890, f1891, f1892, f1877, rg2_tr (rg2_rf 89 89 99 102 h) (rg2_w k1878 (by decide)), hjd, trivial⟩
  · have t6 := ite_1 c6
    obtain ⟨a0, bb_a0, ee_a0⟩ := i_nat (x := a) (N := 4) (by omega) (by omega)
    subst ee_a0
    have tt_a0 : (nI a0).toInt = (a0 : Int) := nI_toInt (by omega)
    have nn_a0 : tn (nI a0) = a0 := tn_nI (by omega)
    obtain ⟨b0, bb_b0, ee_b0⟩ := i_nat (x := b) (N := 4) (by omega) (by omega)
    subst ee_b0
    have tt_b0 : (nI b0).toInt = (b0 : Int) := nI_toInt (by omega)
    have nn_b0 : tn (nI b0) = b0 := tn_nI (by omega)
    refine aw_aload_n 0 dX9_join_9 rfl rfl ?_
    refine aw_iload_n 1 dX9_join_10 rfl rfl ?_
    refine aw_iload_n 2 dX9_join_11 rfl rfl ?_
    refine aw_uV [.int (nI a0), .int (nI b0)] [] lX9_187 vX9_joins mX9_joins dX9_join_12 (bX9_joins (sp := sp) (fa := fa) (nb := nb) (ns := ns) (nm := nm) (nv := nv) (sh := sh) (ho := ho) (ow := ow) (sl := sl) (m := m) (ye := ye) (b1 := b1) (b2 := b2) (W := W) (Z := Z) (Ro := Ro) (Co := Co) (fi := fi) (lk := lk) (su := su) (jd := jd) (wy := wy) (a := a0) (b := b0) h88 h90 h91 h93 h94 h95 h96 h97 h98 h92 h99 h100 h101 h102 hm hye (by omega) bb1 bb2 (by omega) (by omega) hfi (by omega) (by omega) (by omega)) h88 rfl rfl rfl (Nat.le_of_ble_eq_true rfl) (by decide) (by decide) rfl (fun r1898 h1899 q1897 => ?_)
    obtain ⟨lk11893, su11894, jd11895, wy11896, f1900, f1901, f1902, f1903, k1904, p1905, u1906⟩ := q1897
    have f1907 := rng_at k1904 (by decide) h88
    have f1908 := rng_at k1904 (by decide) h89
    have f1909 := rng_at k1904 (by decide) h90
    have f1910 := rng_at k1904 (by decide) h91
    have f1911 := rng_at k1904 (by decide) h93
    have f1912 := rng_at k1904 (by decide) h94
    have f1913 := rng_at k1904 (by decide) h95
    have f1914 := rng_at k1904 (by decide) h96
    have f1915 := rng_at k1904 (by decide) h97
    have f1916 := rng_at k1904 (by decide) h98
    have f1917 := rng_at k1904 (by decide) h92
    refine aw_goto 23 dX9_join_15 (by decide) ?_
    subst hQF
    exact aw_iret rfl dX9_join_23 (by decide) (by decide) ⟨_, rfl, _, _, _, _, _, f1900, f1901, f1902, f1903, f1908, rg2_tr (rg2_rf 89 89 99 102 h) (rg2_w k1904 (by decide)), p1905, trivial⟩
set_option maxHeartbeats 4000000 in
theorem oX9_joined {l : Launch} {G : xG} {h : List va_E} {sp fa nb ns nm nv sh : Nat} {ho ow sl : Int32} {rg : Nat → Int32} {m ye b1 b2 : Nat → Nat} {W Z Ro Co : Nat → Int32} {fi : Nat → Nat} {lk su jd wy : Nat → Int32} {a i b : Int32} (h88 : h[88]? = some (oB 9 (lM G (nI sp) (nI fa) (nI nb) (nI ns) (nI nm) ho ow sl (nI nv) (nI sh)))) (h89 : h[89]? = some (aI 7 rg)) (h90 : h[90]? = some (aI 20 (nA m))) (h91 : h[91]? = some (aI 4 (nA ye))) (h93 : h[93]? = some (aI 40 W)) (h94 : h[94]? = some (aI 40 Z)) (h95 : h[95]? = some (aI 40 Ro)) (h96 : h[96]? = some (aI 40 Co)) (h97 : h[97]? = some (aI 30 (nA b1))) (h98 : h[98]? = some (aI 30 (nA b2))) (h92 : h[92]? = some (aI 4 (nA fi))) (h99 : h[99]? = some (aI 100 lk)) (h100 : h[100]? = some (aI 11264 su)) (h101 : h[101]? = some (aI 10 jd)) (h102 : h[102]? = some (aI 11264 wy)) (hm : ∀ j, j < 20 → m j ≤ j) (hye : ∀ j, j < 4 → ye j < 1901) (hnb : nb ≤ 30) (bb1 : ∀ j, j < 30 → b1 j < 40) (bb2 : ∀ j, j < 30 → b2 j < 40) (hsp : sp ≤ 50) (hfd : fa ≤ 9) (hfi : ∀ j, j < 4 → fi j < 11) (hjd : pB jd) : CU l G yX9_joined cX9_joined 5 (some .int) 6 0 0 [.ref (G.1 + 88), .int a, .int i, .int b] h (fun r h1 => ∃ lk1 : Nat → Int32, ∃ su1 : Nat → Int32, ∃ jd1 : Nat → Int32, ∃ wy1 : Nat → Int32, ∃ rg1 : Nat → Int32, h1[99]? = some (aI 100 lk1) ∧ h1[100]? = some (aI 11264 su1) ∧ h1[101]? = some (aI 10 jd1) ∧ h1[102]? = some (aI 11264 wy1) ∧ h1[89]? = some (aI 7 rg1) ∧ rg2 89 89 99 102 h h1 ∧ pB jd1 ∧ True) := by
  refine cm_ofQ rfl (Nat.le_of_ble_eq_true rfl) [(0, .ref (G.1 + 88)), (1, .int a), (2, .int i), (3, .int b)] rfl (fun QF hQF => ?_)
  refine aw_aload_n 0 dX9_joined_0 rfl rfl ?_
  refine aw_iload_n 1 dX9_joined_1 rfl rfl ?_
  refine aw_iload_n 3 dX9_joined_2 rfl rfl ?_
  refine aw_dV [.int a, .int b] [] lX9_184 vX9_areBooks mX9_areBooks dX9_joined_3 (bX9_areBooks (a := a) (b := b) ) h88 rfl rfl rfl (Nat.le_of_ble_eq_true rfl) (by decide) (by decide) rfl ?_
  refine aw_if_eq 22 dX9_joined_6 (by decide) (fun c6 => ?_) (fun c6 => ?_)
  · have t6 := ite_0 c6
    refine aw_aload_n 0 dX9_joined_22 rfl rfl ?_
    refine aw_iconst (-1) dX9_joined_23 (by decide) ?_
    refine aw_eV [.int (-1)] [] lX9_130 vX9_refuse mX9_refuse dX9_joined_24 (bX9_refuse (sp := sp) (fa := fa) (nb := nb) (ns := ns) (nm := nm) (nv := nv) (sh := sh) (ho := ho) (ow := ow) (sl := sl) (rg := rg) (x := (-1)) (q := 1) h88 h89 (by decide) (by decide)) h88 rfl rfl rfl (Nat.le_of_ble_eq_true rfl) (by decide) (by decide) rfl (fun h1920 q1919 => ?_)
    obtain ⟨rg11918, f1921, k1922⟩ := q1919
    have f1923 := rng_at k1922 (by decide) h88
    have f1924 := rng_at k1922 (by decide) h90
    have f1925 := rng_at k1922 (by decide) h91
    have f1926 := rng_at k1922 (by decide) h93
    have f1927 := rng_at k1922 (by decide) h94
    have f1928 := rng_at k1922 (by decide) h95
    have f1929 := rng_at k1922 (by decide) h96
    have f1930 := rng_at k1922 (by decide) h97
    have f1931 := rng_at k1922 (by decide) h98
    have f1932 := rng_at k1922 (by decide) h92
    have f1933 := rng_at k1922 (by decide) h99
    have f1934 := rng_at k1922 (by decide) h100
    have f1935 := rng_at k1922 (by decide) h101
    have f1936 := rng_at k1922 (by decide) h102
    subst hQF
    exact aw_iret rfl dX9_joined_27 (by decide) (by decide) ⟨_, rfl, _, _, _, _, _, f1933, f1934, f1935, f1936, f1921, rg2_tr (rg2_rf 89 89 99 102 h) (rg2_w k1922 (by decide)), hjd, trivial⟩
  · have t6 := ite_1 c6
    obtain ⟨a0, bb_a0, ee_a0⟩ := i_nat (x := a) (N := 4) (by omega) (by omega)
    subst ee_a0
    have tt_a0 : (nI a0).toInt = (a0 : Int) := nI_toInt (by omega)
    have nn_a0 : tn (nI a0) = a0 := tn_nI (by omega)
    obtain ⟨b0, bb_b0, ee_b0⟩ := i_nat (x := b) (N := 4) (by omega) (by omega)
    subst ee_b0
    have tt_b0 : (nI b0).toInt = (b0 : Int) := nI_toInt (by omega)
    have nn_b0 : tn (nI b0) = b0 := tn_nI (by omega)
    refine aw_iload_n 2 dX9_joined_9 rfl rfl ?_
    refine aw_aload_n 0 dX9_joined_10 rfl rfl ?_
    refine aw_get fX9_19 dX9_joined_11 h88 rfl ?_
    refine aw_iload_n 1 dX9_joined_14 rfl rfl ?_
    refine aw_iald a0 (rfl) (by omega) (by decide) dX9_joined_15 h92 ?_
    refine aw_toe (nI (fi a0)) (rfl) ?_
    have b1937 := hfi a0 (by omega)
    refine aw_dS [.int i, .int (nI (fi a0))] [] lX9_126 sX9_isIn mX9_isIn dX9_joined_16 (bX9_isIn (x := i) (n := fi a0) (by omega)) rfl (Nat.le_of_ble_eq_true rfl) (by decide) (by decide) rfl ?_
    refine aw_if_ne 28 dX9_joined_19 (by decide) (fun c19 => ?_) (fun c19 => ?_)
    · have t19 := ite_1 c19
      have fa0 := hfi a0 (by omega)
      obtain ⟨i0, bb_i0, ee_i0⟩ := i_nat (x := i) (N := 10) (by omega) (by omega)
      subst ee_i0
      have tt_i0 : (nI i0).toInt = (i0 : Int) := nI_toInt (by omega)
      have nn_i0 : tn (nI i0) = i0 := tn_nI (by omega)
      refine aw_aload_n 0 dX9_joined_28 rfl rfl ?_
      refine aw_iload_n 1 dX9_joined_29 rfl rfl ?_
      refine aw_iload_n 3 dX9_joined_30 rfl rfl ?_
      refine aw_uV [.int (nI a0), .int (nI b0)] [] lX9_187 vX9_joins mX9_joins dX9_joined_31 (bX9_joins (sp := sp) (fa := fa) (nb := nb) (ns := ns) (nm := nm) (nv := nv) (sh := sh) (ho := ho) (ow := ow) (sl := sl) (m := m) (ye := ye) (b1 := b1) (b2 := b2) (W := W) (Z := Z) (Ro := Ro) (Co := Co) (fi := fi) (lk := lk) (su := su) (jd := jd) (wy := wy) (a := a0) (b := b0) h88 h90 h91 h93 h94 h95 h96 h97 h98 h92 h99 h100 h101 h102 hm hye (by omega) bb1 bb2 (by omega) (by omega) hfi (by omega) (by omega) (by omega)) h88 rfl rfl rfl (Nat.le_of_ble_eq_true rfl) (by decide) (by decide) rfl (fun r1943 h1944 q1942 => ?_)
      obtain ⟨lk11938, su11939, jd11940, wy11941, f1945, f1946, f1947, f1948, k1949, p1950, u1951⟩ := q1942
      have f1952 := rng_at k1949 (by decide) h88
      have f1953 := rng_at k1949 (by decide) h89
      have f1954 := rng_at k1949 (by decide) h90
      have f1955 := rng_at k1949 (by decide) h91
      have f1956 := rng_at k1949 (by decide) h93
      have f1957 := rng_at k1949 (by decide) h94
      have f1958 := rng_at k1949 (by decide) h95
      have f1959 := rng_at k1949 (by decide) h96
      have f1960 := rng_at k1949 (by decide) h97
      have f1961 := rng_at k1949 (by decide) h98
      have f1962 := rng_at k1949 (by decide) h92
      refine aw_istore [(4, .int r1943), (0, .ref (G.1 + 88)), (1, .int (nI a0)), (2, .int (nI i0)), (3, .int (nI b0))] dX9_joined_34 (by decide) rfl ?_
      refine aw_aload_n 1 dX9_joined_36 rfl rfl ?_
      refine aw_get fX9_53 dX9_joined_37 f1952 rfl ?_
      refine aw_iload_n 3 dX9_joined_40 rfl rfl ?_
      refine aw_iald i0 (rfl) (by omega) (by decide) dX9_joined_41 f1947 ?_
      subst hQF
      exact aw_iret rfl dX9_joined_42 (by decide) (by decide) ⟨_, rfl, _, _, _, _, _, f1945, f1946, f1947, f1948, f1953, rg2_tr (rg2_rf 89 89 99 102 h) (rg2_w k1949 (by decide)), p1950, trivial⟩
    · have t19 := ite_0 c19
      refine aw_aload_n 0 dX9_joined_22 rfl rfl ?_
      refine aw_iconst (-1) dX9_joined_23 (by decide) ?_
      refine aw_eV [.int (-1)] [] lX9_130 vX9_refuse mX9_refuse dX9_joined_24 (bX9_refuse (sp := sp) (fa := fa) (nb := nb) (ns := ns) (nm := nm) (nv := nv) (sh := sh) (ho := ho) (ow := ow) (sl := sl) (rg := rg) (x := (-1)) (q := 1) h88 h89 (by decide) (by decide)) h88 rfl rfl rfl (Nat.le_of_ble_eq_true rfl) (by decide) (by decide) rfl (fun h1965 q1964 => ?_)
      obtain ⟨rg11963, f1966, k1967⟩ := q1964
      have f1968 := rng_at k1967 (by decide) h88
      have f1969 := rng_at k1967 (by decide) h90
      have f1970 := rng_at k1967 (by decide) h91
      have f1971 := rng_at k1967 (by decide) h93
      have f1972 := rng_at k1967 (by decide) h94
      have f1973 := rng_at k1967 (by decide) h95
      have f1974 := rng_at k1967 (by decide) h96
      have f1975 := rng_at k1967 (by decide) h97
      have f1976 := rng_at k1967 (by decide) h98
      have f1977 := rng_at k1967 (by decide) h92
      have f1978 := rng_at k1967 (by decide) h99
      have f1979 := rng_at k1967 (by decide) h100
      have f1980 := rng_at k1967 (by decide) h101
      have f1981 := rng_at k1967 (by decide) h102
      subst hQF
      exact aw_iret rfl dX9_joined_27 (by decide) (by decide) ⟨_, rfl, _, _, _, _, _, f1978, f1979, f1980, f1981, f1966, rg2_tr (rg2_rf 89 89 99 102 h) (rg2_w k1967 (by decide)), hjd, trivial⟩
set_option maxHeartbeats 4000000 in
theorem oX9_bests {l : Launch} {G : xG} {h : List va_E} {sp fa nb ns nm nv sh : Nat} {ho ow sl : Int32} {rg : Nat → Int32} {m ye b1 b2 : Nat → Nat} {W Z Ro Co : Nat → Int32} {fi : Nat → Nat} {lk su jd wy : Nat → Int32} {a b : Int32} (h88 : h[88]? = some (oB 9 (lM G (nI sp) (nI fa) (nI nb) (nI ns) (nI nm) ho ow sl (nI nv) (nI sh)))) (h89 : h[89]? = some (aI 7 rg)) (h90 : h[90]? = some (aI 20 (nA m))) (h91 : h[91]? = some (aI 4 (nA ye))) (h93 : h[93]? = some (aI 40 W)) (h94 : h[94]? = some (aI 40 Z)) (h95 : h[95]? = some (aI 40 Ro)) (h96 : h[96]? = some (aI 40 Co)) (h97 : h[97]? = some (aI 30 (nA b1))) (h98 : h[98]? = some (aI 30 (nA b2))) (h92 : h[92]? = some (aI 4 (nA fi))) (h99 : h[99]? = some (aI 100 lk)) (h100 : h[100]? = some (aI 11264 su)) (h101 : h[101]? = some (aI 10 jd)) (h102 : h[102]? = some (aI 11264 wy)) (hm : ∀ j, j < 20 → m j ≤ j) (hye : ∀ j, j < 4 → ye j < 1901) (hnb : nb ≤ 30) (bb1 : ∀ j, j < 30 → b1 j < 40) (bb2 : ∀ j, j < 30 → b2 j < 40) (hsp : sp ≤ 50) (hfd : fa ≤ 9) (hfi : ∀ j, j < 4 → fi j < 11) (hjd : pB jd) : CU l G yX9_bests cX9_bests 4 (some .int) 6 0 0 [.ref (G.1 + 88), .int a, .int b] h (fun r h1 => ∃ lk1 : Nat → Int32, ∃ su1 : Nat → Int32, ∃ jd1 : Nat → Int32, ∃ wy1 : Nat → Int32, ∃ rg1 : Nat → Int32, h1[99]? = some (aI 100 lk1) ∧ h1[100]? = some (aI 11264 su1) ∧ h1[101]? = some (aI 10 jd1) ∧ h1[102]? = some (aI 11264 wy1) ∧ h1[89]? = some (aI 7 rg1) ∧ rg2 89 89 99 102 h h1 ∧ pB jd1 ∧ True) := by
  refine cm_ofQ rfl (Nat.le_of_ble_eq_true rfl) [(0, .ref (G.1 + 88)), (1, .int a), (2, .int b)] rfl (fun QF hQF => ?_)
  refine aw_aload_n 0 dX9_bests_0 rfl rfl ?_
  refine aw_iload_n 1 dX9_bests_1 rfl rfl ?_
  refine aw_iload_n 2 dX9_bests_2 rfl rfl ?_
  refine aw_dV [.int a, .int b] [] lX9_184 vX9_areBooks mX9_areBooks dX9_bests_3 (bX9_areBooks (a := a) (b := b) ) h88 rfl rfl rfl (Nat.le_of_ble_eq_true rfl) (by decide) (by decide) rfl ?_
  refine aw_if_ne 15 dX9_bests_6 (by decide) (fun c6 => ?_) (fun c6 => ?_)
  · have t6 := ite_1 c6
    obtain ⟨a0, bb_a0, ee_a0⟩ := i_nat (x := a) (N := 4) (by omega) (by omega)
    subst ee_a0
    have tt_a0 : (nI a0).toInt = (a0 : Int) := nI_toInt (by omega)
    have nn_a0 : tn (nI a0) = a0 := tn_nI (by omega)
    obtain ⟨b0, bb_b0, ee_b0⟩ := i_nat (x := b) (N := 4) (by omega) (by omega)
    subst ee_b0
    have tt_b0 : (nI b0).toInt = (b0 : Int) := nI_toInt (by omega)
    have nn_b0 : tn (nI b0) = b0 := tn_nI (by omega)
    refine aw_aload_n 0 dX9_bests_15 rfl rfl ?_
    refine aw_iload_n 1 dX9_bests_16 rfl rfl ?_
    refine aw_iload_n 2 dX9_bests_17 rfl rfl ?_
    refine aw_uV [.int (nI a0), .int (nI b0)] [] lX9_187 vX9_joins mX9_joins dX9_bests_18 (bX9_joins (sp := sp) (fa := fa) (nb := nb) (ns := ns) (nm := nm) (nv := nv) (sh := sh) (ho := ho) (ow := ow) (sl := sl) (m := m) (ye := ye) (b1 := b1) (b2 := b2) (W := W) (Z := Z) (Ro := Ro) (Co := Co) (fi := fi) (lk := lk) (su := su) (jd := jd) (wy := wy) (a := a0) (b := b0) h88 h90 h91 h93 h94 h95 h96 h97 h98 h92 h99 h100 h101 h102 hm hye (by omega) bb1 bb2 (by omega) (by omega) hfi (by omega) (by omega) (by omega)) h88 rfl rfl rfl (Nat.le_of_ble_eq_true rfl) (by decide) (by decide) rfl (fun r1987 h1988 q1986 => ?_)
    obtain ⟨lk11982, su11983, jd11984, wy11985, f1989, f1990, f1991, f1992, k1993, p1994, u1995⟩ := q1986
    have f1996 := rng_at k1993 (by decide) h88
    have f1997 := rng_at k1993 (by decide) h89
    have f1998 := rng_at k1993 (by decide) h90
    have f1999 := rng_at k1993 (by decide) h91
    have f2000 := rng_at k1993 (by decide) h93
    have f2001 := rng_at k1993 (by decide) h94
    have f2002 := rng_at k1993 (by decide) h95
    have f2003 := rng_at k1993 (by decide) h96
    have f2004 := rng_at k1993 (by decide) h97
    have f2005 := rng_at k1993 (by decide) h98
    have f2006 := rng_at k1993 (by decide) h92
    refine aw_istore_n [(3, .int r1987), (0, .ref (G.1 + 88)), (1, .int (nI a0)), (2, .int (nI b0))] dX9_bests_21 rfl (by decide) rfl ?_
    refine aw_aload_n 1 dX9_bests_22 rfl rfl ?_
    refine aw_get fX9_56 dX9_bests_23 f1996 rfl ?_
    refine aw_iconst (0) dX9_bests_26 (by decide) ?_
    refine aw_iald 0 (rfl) (by decide) (by decide) dX9_bests_27 f1992 ?_
    subst hQF
    exact aw_iret rfl dX9_bests_28 (by decide) (by decide) ⟨_, rfl, _, _, _, _, _, f1989, f1990, f1991, f1992, f1997, rg2_tr (rg2_rf 89 89 99 102 h) (rg2_w k1993 (by decide)), p1994, trivial⟩
  · have t6 := ite_0 c6
    refine aw_aload_n 0 dX9_bests_9 rfl rfl ?_
    refine aw_iconst (-1) dX9_bests_10 (by decide) ?_
    refine aw_eV [.int (-1)] [] lX9_130 vX9_refuse mX9_refuse dX9_bests_11 (bX9_refuse (sp := sp) (fa := fa) (nb := nb) (ns := ns) (nm := nm) (nv := nv) (sh := sh) (ho := ho) (ow := ow) (sl := sl) (rg := rg) (x := (-1)) (q := 1) h88 h89 (by decide) (by decide)) h88 rfl rfl rfl (Nat.le_of_ble_eq_true rfl) (by decide) (by decide) rfl (fun h2009 q2008 => ?_)
    obtain ⟨rg12007, f2010, k2011⟩ := q2008
    have f2012 := rng_at k2011 (by decide) h88
    have f2013 := rng_at k2011 (by decide) h90
    have f2014 := rng_at k2011 (by decide) h91
    have f2015 := rng_at k2011 (by decide) h93
    have f2016 := rng_at k2011 (by decide) h94
    have f2017 := rng_at k2011 (by decide) h95
    have f2018 := rng_at k2011 (by decide) h96
    have f2019 := rng_at k2011 (by decide) h97
    have f2020 := rng_at k2011 (by decide) h98
    have f2021 := rng_at k2011 (by decide) h92
    have f2022 := rng_at k2011 (by decide) h99
    have f2023 := rng_at k2011 (by decide) h100
    have f2024 := rng_at k2011 (by decide) h101
    have f2025 := rng_at k2011 (by decide) h102
    subst hQF
    exact aw_iret rfl dX9_bests_14 (by decide) (by decide) ⟨_, rfl, _, _, _, _, _, f2022, f2023, f2024, f2025, f2010, rg2_tr (rg2_rf 89 89 99 102 h) (rg2_w k2011 (by decide)), hjd, trivial⟩
set_option maxHeartbeats 4000000 in
theorem oX9_sure {l : Launch} {G : xG} {h : List va_E} {sp fa nb ns nm nv sh : Nat} {ho ow sl : Int32} {rg : Nat → Int32} {m ye b1 b2 : Nat → Nat} {W Z Ro Co : Nat → Int32} {fi : Nat → Nat} {lk su jd wy : Nat → Int32} {a i b : Int32} (h88 : h[88]? = some (oB 9 (lM G (nI sp) (nI fa) (nI nb) (nI ns) (nI nm) ho ow sl (nI nv) (nI sh)))) (h89 : h[89]? = some (aI 7 rg)) (h90 : h[90]? = some (aI 20 (nA m))) (h91 : h[91]? = some (aI 4 (nA ye))) (h93 : h[93]? = some (aI 40 W)) (h94 : h[94]? = some (aI 40 Z)) (h95 : h[95]? = some (aI 40 Ro)) (h96 : h[96]? = some (aI 40 Co)) (h97 : h[97]? = some (aI 30 (nA b1))) (h98 : h[98]? = some (aI 30 (nA b2))) (h92 : h[92]? = some (aI 4 (nA fi))) (h99 : h[99]? = some (aI 100 lk)) (h100 : h[100]? = some (aI 11264 su)) (h101 : h[101]? = some (aI 10 jd)) (h102 : h[102]? = some (aI 11264 wy)) (hm : ∀ j, j < 20 → m j ≤ j) (hye : ∀ j, j < 4 → ye j < 1901) (hnb : nb ≤ 30) (bb1 : ∀ j, j < 30 → b1 j < 40) (bb2 : ∀ j, j < 30 → b2 j < 40) (hsp : sp ≤ 50) (hfd : fa ≤ 9) (hfi : ∀ j, j < 4 → fi j < 11) (hjd : pB jd) : CU l G yX9_sure cX9_sure 4 (some .int) 6 0 0 [.ref (G.1 + 88), .int a, .int i, .int b] h (fun r h1 => ∃ lk1 : Nat → Int32, ∃ su1 : Nat → Int32, ∃ jd1 : Nat → Int32, ∃ wy1 : Nat → Int32, ∃ rg1 : Nat → Int32, h1[99]? = some (aI 100 lk1) ∧ h1[100]? = some (aI 11264 su1) ∧ h1[101]? = some (aI 10 jd1) ∧ h1[102]? = some (aI 11264 wy1) ∧ h1[89]? = some (aI 7 rg1) ∧ rg2 89 89 99 102 h h1 ∧ pB jd1 ∧ True) := by
  refine cm_ofQ rfl (Nat.le_of_ble_eq_true rfl) [(0, .ref (G.1 + 88)), (1, .int a), (2, .int i), (3, .int b)] rfl (fun QF hQF => ?_)
  refine aw_aload_n 0 dX9_sure_0 rfl rfl ?_
  refine aw_iload_n 1 dX9_sure_1 rfl rfl ?_
  refine aw_iload_n 3 dX9_sure_2 rfl rfl ?_
  refine aw_dV [.int a, .int b] [] lX9_184 vX9_areBooks mX9_areBooks dX9_sure_3 (bX9_areBooks (a := a) (b := b) ) h88 rfl rfl rfl (Nat.le_of_ble_eq_true rfl) (by decide) (by decide) rfl ?_
  refine aw_if_eq 22 dX9_sure_6 (by decide) (fun c6 => ?_) (fun c6 => ?_)
  · have t6 := ite_0 c6
    refine aw_aload_n 0 dX9_sure_22 rfl rfl ?_
    refine aw_iconst (-1) dX9_sure_23 (by decide) ?_
    refine aw_eV [.int (-1)] [] lX9_130 vX9_refuse mX9_refuse dX9_sure_24 (bX9_refuse (sp := sp) (fa := fa) (nb := nb) (ns := ns) (nm := nm) (nv := nv) (sh := sh) (ho := ho) (ow := ow) (sl := sl) (rg := rg) (x := (-1)) (q := 1) h88 h89 (by decide) (by decide)) h88 rfl rfl rfl (Nat.le_of_ble_eq_true rfl) (by decide) (by decide) rfl (fun h2028 q2027 => ?_)
    obtain ⟨rg12026, f2029, k2030⟩ := q2027
    have f2031 := rng_at k2030 (by decide) h88
    have f2032 := rng_at k2030 (by decide) h90
    have f2033 := rng_at k2030 (by decide) h91
    have f2034 := rng_at k2030 (by decide) h93
    have f2035 := rng_at k2030 (by decide) h94
    have f2036 := rng_at k2030 (by decide) h95
    have f2037 := rng_at k2030 (by decide) h96
    have f2038 := rng_at k2030 (by decide) h97
    have f2039 := rng_at k2030 (by decide) h98
    have f2040 := rng_at k2030 (by decide) h92
    have f2041 := rng_at k2030 (by decide) h99
    have f2042 := rng_at k2030 (by decide) h100
    have f2043 := rng_at k2030 (by decide) h101
    have f2044 := rng_at k2030 (by decide) h102
    subst hQF
    exact aw_iret rfl dX9_sure_27 (by decide) (by decide) ⟨_, rfl, _, _, _, _, _, f2041, f2042, f2043, f2044, f2029, rg2_tr (rg2_rf 89 89 99 102 h) (rg2_w k2030 (by decide)), hjd, trivial⟩
  · have t6 := ite_1 c6
    obtain ⟨a0, bb_a0, ee_a0⟩ := i_nat (x := a) (N := 4) (by omega) (by omega)
    subst ee_a0
    have tt_a0 : (nI a0).toInt = (a0 : Int) := nI_toInt (by omega)
    have nn_a0 : tn (nI a0) = a0 := tn_nI (by omega)
    obtain ⟨b0, bb_b0, ee_b0⟩ := i_nat (x := b) (N := 4) (by omega) (by omega)
    subst ee_b0
    have tt_b0 : (nI b0).toInt = (b0 : Int) := nI_toInt (by omega)
    have nn_b0 : tn (nI b0) = b0 := tn_nI (by omega)
    refine aw_iload_n 2 dX9_sure_9 rfl rfl ?_
    refine aw_aload_n 0 dX9_sure_10 rfl rfl ?_
    refine aw_get fX9_19 dX9_sure_11 h88 rfl ?_
    refine aw_iload_n 1 dX9_sure_14 rfl rfl ?_
    refine aw_iald a0 (rfl) (by omega) (by decide) dX9_sure_15 h92 ?_
    refine aw_toe (nI (fi a0)) (rfl) ?_
    have b2045 := hfi a0 (by omega)
    refine aw_dS [.int i, .int (nI (fi a0))] [] lX9_126 sX9_isIn mX9_isIn dX9_sure_16 (bX9_isIn (x := i) (n := fi a0) (by omega)) rfl (Nat.le_of_ble_eq_true rfl) (by decide) (by decide) rfl ?_
    refine aw_if_ne 28 dX9_sure_19 (by decide) (fun c19 => ?_) (fun c19 => ?_)
    · have t19 := ite_1 c19
      have fa0 := hfi a0 (by omega)
      obtain ⟨i0, bb_i0, ee_i0⟩ := i_nat (x := i) (N := 10) (by omega) (by omega)
      subst ee_i0
      have tt_i0 : (nI i0).toInt = (i0 : Int) := nI_toInt (by omega)
      have nn_i0 : tn (nI i0) = i0 := tn_nI (by omega)
      refine aw_aload_n 0 dX9_sure_28 rfl rfl ?_
      refine aw_iload_n 1 dX9_sure_29 rfl rfl ?_
      refine aw_iload_n 2 dX9_sure_30 rfl rfl ?_
      refine aw_iload_n 3 dX9_sure_31 rfl rfl ?_
      refine aw_uV [.int (nI a0), .int (nI i0), .int (nI b0)] [] lX9_190 vX9_isSure mX9_isSure dX9_sure_32 (bX9_isSure (sp := sp) (fa := fa) (nb := nb) (ns := ns) (nm := nm) (nv := nv) (sh := sh) (ho := ho) (ow := ow) (sl := sl) (m := m) (ye := ye) (b1 := b1) (b2 := b2) (W := W) (Z := Z) (Ro := Ro) (Co := Co) (fi := fi) (lk := lk) (su := su) (jd := jd) (wy := wy) (a := a0) (b := b0) (i := i0) h88 h90 h91 h93 h94 h95 h96 h97 h98 h92 h99 h100 h101 h102 hm hye (by omega) bb1 bb2 (by omega) (by omega) hfi (by omega) (by omega) (by omega) (by omega)) h88 rfl rfl rfl (Nat.le_of_ble_eq_true rfl) (by decide) (by decide) rfl (fun r2051 h2052 q2050 => ?_)
      obtain ⟨lk12046, su12047, jd12048, wy12049, f2053, f2054, f2055, f2056, k2057, p2058, u2059⟩ := q2050
      have f2060 := rng_at k2057 (by decide) h88
      have f2061 := rng_at k2057 (by decide) h89
      have f2062 := rng_at k2057 (by decide) h90
      have f2063 := rng_at k2057 (by decide) h91
      have f2064 := rng_at k2057 (by decide) h93
      have f2065 := rng_at k2057 (by decide) h94
      have f2066 := rng_at k2057 (by decide) h95
      have f2067 := rng_at k2057 (by decide) h96
      have f2068 := rng_at k2057 (by decide) h97
      have f2069 := rng_at k2057 (by decide) h98
      have f2070 := rng_at k2057 (by decide) h92
      refine aw_if_eq 42 dX9_sure_35 (by decide) (fun c35 => ?_) (fun c35 => ?_)
      · have d35 := (j_eq (a := r2051.toInt) (b := (0)) (rfl) (rfl)).mp c35
        refine aw_iconst (0) dX9_sure_42 (by decide) ?_
        subst hQF
        exact aw_iret rfl dX9_sure_43 (by decide) (by decide) ⟨_, rfl, _, _, _, _, _, f2053, f2054, f2055, f2056, f2061, rg2_tr (rg2_rf 89 89 99 102 h) (rg2_w k2057 (by decide)), p2058, trivial⟩
      · have d35 := mt (j_eq (a := r2051.toInt) (b := (0)) (rfl) (rfl)).mpr c35
        refine aw_iconst (1) dX9_sure_38 (by decide) ?_
        refine aw_goto 43 dX9_sure_39 (by decide) ?_
        subst hQF
        exact aw_iret rfl dX9_sure_43 (by decide) (by decide) ⟨_, rfl, _, _, _, _, _, f2053, f2054, f2055, f2056, f2061, rg2_tr (rg2_rf 89 89 99 102 h) (rg2_w k2057 (by decide)), p2058, trivial⟩
    · have t19 := ite_0 c19
      refine aw_aload_n 0 dX9_sure_22 rfl rfl ?_
      refine aw_iconst (-1) dX9_sure_23 (by decide) ?_
      refine aw_eV [.int (-1)] [] lX9_130 vX9_refuse mX9_refuse dX9_sure_24 (bX9_refuse (sp := sp) (fa := fa) (nb := nb) (ns := ns) (nm := nm) (nv := nv) (sh := sh) (ho := ho) (ow := ow) (sl := sl) (rg := rg) (x := (-1)) (q := 1) h88 h89 (by decide) (by decide)) h88 rfl rfl rfl (Nat.le_of_ble_eq_true rfl) (by decide) (by decide) rfl (fun h2073 q2072 => ?_)
      obtain ⟨rg12071, f2074, k2075⟩ := q2072
      have f2076 := rng_at k2075 (by decide) h88
      have f2077 := rng_at k2075 (by decide) h90
      have f2078 := rng_at k2075 (by decide) h91
      have f2079 := rng_at k2075 (by decide) h93
      have f2080 := rng_at k2075 (by decide) h94
      have f2081 := rng_at k2075 (by decide) h95
      have f2082 := rng_at k2075 (by decide) h96
      have f2083 := rng_at k2075 (by decide) h97
      have f2084 := rng_at k2075 (by decide) h98
      have f2085 := rng_at k2075 (by decide) h92
      have f2086 := rng_at k2075 (by decide) h99
      have f2087 := rng_at k2075 (by decide) h100
      have f2088 := rng_at k2075 (by decide) h101
      have f2089 := rng_at k2075 (by decide) h102
      subst hQF
      exact aw_iret rfl dX9_sure_27 (by decide) (by decide) ⟨_, rfl, _, _, _, _, _, f2086, f2087, f2088, f2089, f2074, rg2_tr (rg2_rf 89 89 99 102 h) (rg2_w k2075 (by decide)), hjd, trivial⟩
