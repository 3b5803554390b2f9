set_option maxHeartbeats 4000000 in
theorem oX9_copied {l : Launch} {G : xG} {h : List va_E} {sp fa nb ns nm nv sh : Nat} {ho ow sl : Int32} {rg : Nat → Int32} {m ye b1 b2 : Nat → Nat} {W Z Ro Co : Nat → Int32} {fi : Nat → Nat} {lk su jd wy : Nat → Int32} {lx : Nat → Nat → Nat → Nat → Nat} {a b k : Int32} (h88 : h[88]? = some (oB 9 (lM G (nI sp) (nI fa) (nI nb) (nI ns) (nI nm) ho ow sl (nI nv) (nI sh)))) (h89 : h[89]? = some (aI 7 rg)) (h90 : h[90]? = some (aI 20 (nA m))) (h91 : h[91]? = some (aI 4 (nA ye))) (h93 : h[93]? = some (aI 40 W)) (h94 : h[94]? = some (aI 40 Z)) (h95 : h[95]? = some (aI 40 Ro)) (h96 : h[96]? = some (aI 40 Co)) (h97 : h[97]? = some (aI 30 (nA b1))) (h98 : h[98]? = some (aI 30 (nA b2))) (h92 : h[92]? = some (aI 4 (nA fi))) (h99 : h[99]? = some (aI 100 lk)) (h100 : h[100]? = some (aI 11264 su)) (h101 : h[101]? = some (aI 10 jd)) (h102 : h[102]? = some (aI 11264 wy)) (hm : ∀ j, j < 20 → m j ≤ j) (hye : ∀ j, j < 4 → ye j < 1901) (hnb : nb ≤ 30) (bb1 : ∀ j, j < 30 → b1 j < 40) (bb2 : ∀ j, j < 30 → b2 j < 40) (hsp : sp ≤ 50) (hfd : fa ≤ 9) (hfi : ∀ j, j < 4 → fi j < 11) (hjd : pB jd) (hlx : ∀ a, a < 4 → ∀ b, b < 4 → ∀ i, i < fi a → ∀ k, k < fi b → (lkS ye (fun j => snF (root m) (W j) 20) Z Ro Co (brF b1 b2 (a * 10 + i) (b * 10 + k) nb = true) sp fa a i b k) = nI (lx a b i k)) (hlx3 : ∀ a b i k, lx a b i k ≤ 300) : CU l G yX9_copied cX9_copied 6 (some .int) 6 0 0 [.ref (G.1 + 88), .int a, .int b, .int k] h (fun r h1 => ∃ lk1 : Nat → Int32, ∃ su1 : Nat → Int32, ∃ jd1 : Nat → Int32, ∃ wy1 : Nat → Int32, ∃ rg1 : Nat → Int32, h1[99]? = some (aI 100 lk1) ∧ h1[100]? = some (aI 11264 su1) ∧ h1[101]? = some (aI 10 jd1) ∧ h1[102]? = some (aI 11264 wy1) ∧ h1[89]? = some (aI 7 rg1) ∧ rg2 89 89 99 102 h h1 ∧ pB jd1 ∧ True) := by
  refine cm_ofQ rfl (Nat.le_of_ble_eq_true rfl) [(0, .ref (G.1 + 88)), (1, .int a), (2, .int b), (3, .int k)] rfl (fun QF hQF => ?_)
  refine aw_aload_n 0 dX9_copied_0 rfl rfl ?_
  refine aw_iload_n 1 dX9_copied_1 rfl rfl ?_
  refine aw_iload_n 2 dX9_copied_2 rfl rfl ?_
  refine aw_dV [.int a, .int b] [] lX9_184 vX9_areBooks mX9_areBooks dX9_copied_3 (bX9_areBooks (a := a) (b := b) ) h88 rfl rfl rfl (Nat.le_of_ble_eq_true rfl) (by decide) (by decide) rfl ?_
  refine aw_if_eq 22 dX9_copied_6 (by decide) (fun c6 => ?_) (fun c6 => ?_)
  · have t6 := ite_0 c6
    refine aw_aload_n 0 dX9_copied_22 rfl rfl ?_
    refine aw_iconst (-1) dX9_copied_23 (by decide) ?_
    refine aw_eV [.int (-1)] [] lX9_130 vX9_refuse mX9_refuse dX9_copied_24 (bX9_refuse (sp := sp) (fa := fa) (nb := nb) (ns := ns) (nm := nm) (nv := nv) (sh := sh) (ho := ho) (ow := ow) (sl := sl) (rg := rg) (x := (-1)) (q := 1) h88 h89 (by decide) (by decide)) h88 rfl rfl rfl (Nat.le_of_ble_eq_true rfl) (by decide) (by decide) rfl (fun h2085 q2084 => ?_)
    obtain ⟨rg12083, f2086, k2087⟩ := q2084
    have f2088 := rng_at k2087 (by decide) h88
    have f2089 := rng_at k2087 (by decide) h90
    have f2090 := rng_at k2087 (by decide) h91
    have f2091 := rng_at k2087 (by decide) h93
    have f2092 := rng_at k2087 (by decide) h94
    have f2093 := rng_at k2087 (by decide) h95
    have f2094 := rng_at k2087 (by decide) h96
    have f2095 := rng_at k2087 (by decide) h97
    have f2096 := rng_at k2087 (by decide) h98
    have f2097 := rng_at k2087 (by decide) h92
    have f2098 := rng_at k2087 (by decide) h99
    have f2099 := rng_at k2087 (by decide) h100
    have f2100 := rng_at k2087 (by decide) h101
    have f2101 := rng_at k2087 (by decide) h102
    subst hQF
    exact aw_iret rfl dX9_copied_27 (by decide) (by decide) ⟨_, rfl, _, _, _, _, _, f2098, f2099, f2100, f2101, f2086, rg2_tr (rg2_rf 89 89 99 102 h) (rg2_w k2087 (by decide)), hjd, trivial⟩
  · have t6 := ite_1 c6
    obtain ⟨a0, bb_a0, ee_a0⟩ := i_nat (x := a) (N := 4) (by omega) (by omega)
    subst ee_a0
    have tt_a0 : (nI a0).toInt = (a0 : Int) := nI_toInt (by omega)
    have nn_a0 : tn (nI a0) = a0 := tn_nI (by omega)
    obtain ⟨b0, bb_b0, ee_b0⟩ := i_nat (x := b) (N := 4) (by omega) (by omega)
    subst ee_b0
    have tt_b0 : (nI b0).toInt = (b0 : Int) := nI_toInt (by omega)
    have nn_b0 : tn (nI b0) = b0 := tn_nI (by omega)
    refine aw_iload_n 3 dX9_copied_9 rfl rfl ?_
    refine aw_aload_n 0 dX9_copied_10 rfl rfl ?_
    refine aw_get fX9_19 dX9_copied_11 h88 rfl ?_
    refine aw_iload_n 2 dX9_copied_14 rfl rfl ?_
    refine aw_iald b0 (rfl) (by omega) (by decide) dX9_copied_15 h92 ?_
    refine aw_toe (nI (fi b0)) (rfl) ?_
    have b2102 := hfi b0 (by omega)
    refine aw_dS [.int k, .int (nI (fi b0))] [] lX9_126 sX9_isIn mX9_isIn dX9_copied_16 (bX9_isIn (x := k) (n := fi b0) (by omega)) rfl (Nat.le_of_ble_eq_true rfl) (by decide) (by decide) rfl ?_
    refine aw_if_ne 28 dX9_copied_19 (by decide) (fun c19 => ?_) (fun c19 => ?_)
    · have t19 := ite_1 c19
      have fb0 := hfi b0 (by omega)
      have fa0 := hfi a0 (by omega)
      obtain ⟨k0, bb_k0, ee_k0⟩ := i_nat (x := k) (N := 10) (by omega) (by omega)
      subst ee_k0
      have tt_k0 : (nI k0).toInt = (k0 : Int) := nI_toInt (by omega)
      have nn_k0 : tn (nI k0) = k0 := tn_nI (by omega)
      refine aw_aload_n 0 dX9_copied_28 rfl rfl ?_
      refine aw_get fX9_16 dX9_copied_29 h88 rfl ?_
      refine aw_iload_n 2 dX9_copied_32 rfl rfl ?_
      refine aw_iald b0 (rfl) (by omega) (by decide) dX9_copied_33 h91 ?_
      refine aw_toe (nI (ye b0)) (rfl) ?_
      have b2103 := hye b0 (by omega)
      refine aw_aload_n 0 dX9_copied_34 rfl rfl ?_
      refine aw_get fX9_16 dX9_copied_35 h88 rfl ?_
      refine aw_iload_n 1 dX9_copied_38 rfl rfl ?_
      refine aw_iald a0 (rfl) (by omega) (by decide) dX9_copied_39 h91 ?_
      refine aw_toe (nI (ye a0)) (rfl) ?_
      have b2104 := hye a0 (by omega)
      refine aw_icmp_gt 50 dX9_copied_40 (by decide) (fun c40 => ?_) (fun c40 => ?_)
      · have d40 := (nv_lt (a := ye a0) (b := ye b0) (rfl) (rfl) (by omega) (by omega)).mp c40
        refine aw_aload_n 0 dX9_copied_50 rfl rfl ?_
        refine aw_iload_n 1 dX9_copied_51 rfl rfl ?_
        refine aw_iload_n 2 dX9_copied_52 rfl rfl ?_
        refine aw_eV [.int (nI a0), .int (nI b0)] [] lX9_187 vX9_joins mX9_joins dX9_copied_53 (bX9_joins (sp := sp) (fa := fa) (nb := nb) (ns := ns) (nm := nm) (nv := nv) (sh := sh) (ho := ho) (ow := ow) (sl := sl) (m := m) (ye := ye) (b1 := b1) (b2 := b2) (W := W) (Z := Z) (Ro := Ro) (Co := Co) (fi := fi) (lk := lk) (su := su) (jd := jd) (wy := wy) (a := a0) (b := b0) (lx := lx a0 b0) h88 h90 h91 h93 h94 h95 h96 h97 h98 h92 h99 h100 h101 h102 hm hye (by omega) bb1 bb2 (by omega) (by omega) hfi (by omega) (by omega) (by omega) (hlx a0 (by omega) b0 (by omega)) (hlx3 a0 b0)) h88 rfl rfl rfl (Nat.le_of_ble_eq_true rfl) (by decide) (by decide) rfl (fun h2110 q2109 => ?_)
        obtain ⟨lk12105, su12106, jd12107, wy12108, f2111, f2112, f2113, f2114, k2115, p2116, p2117, p2118, p2119⟩ := q2109
        have f2120 := rng_at k2115 (by decide) h88
        have f2121 := rng_at k2115 (by decide) h89
        have f2122 := rng_at k2115 (by decide) h90
        have f2123 := rng_at k2115 (by decide) h91
        have f2124 := rng_at k2115 (by decide) h93
        have f2125 := rng_at k2115 (by decide) h94
        have f2126 := rng_at k2115 (by decide) h95
        have f2127 := rng_at k2115 (by decide) h96
        have f2128 := rng_at k2115 (by decide) h97
        have f2129 := rng_at k2115 (by decide) h98
        have f2130 := rng_at k2115 (by decide) h92
        refine aw_istore [(4, .int (nI (jS (lx a0 b0) (fi b0) (fi a0) 0 0))), (0, .ref (G.1 + 88)), (1, .int (nI a0)), (2, .int (nI b0)), (3, .int (nI k0))] dX9_copied_56 (by decide) rfl ?_
        refine aw_iconst (0) dX9_copied_58 (by decide) ?_
        refine aw_istore [(5, .int 0), (4, .int (nI (jS (lx a0 b0) (fi b0) (fi a0) 0 0))), (0, .ref (G.1 + 88)), (1, .int (nI a0)), (2, .int (nI b0)), (3, .int (nI k0))] dX9_copied_59 (by decide) rfl ?_
        refine aw_lv [(5, .int 0), (4, .int (nI (jS (lx a0 b0) (fi b0) (fi a0) 0 0))), (3, .int (nI k0)), (2, .int (nI b0)), (1, .int (nI a0)), (0, .ref (G.1 + 88))] [0, 1, 5, 4, 3, 2] rfl ?_
        suffices L2148 : ∀ (mm : Nat) (i : Nat) (h2131 : List va_E), fi a0 - i < mm → (i ≤ fi a0) → h2131[99]? = some (aI 100 lk12105) → h2131[100]? = some (aI 11264 su12106) → h2131[101]? = some (aI 10 jd12107) → h2131[102]? = some (aI 11264 wy12108) → h2131[88]? = some (oB 9 (lM G (nI sp) (nI fa) (nI nb) (nI ns) (nI nm) ho ow sl (nI nv) (nI sh))) → h2131[89]? = some (aI 7 rg) → h2131[90]? = some (aI 20 (nA m)) → h2131[91]? = some (aI 4 (nA ye)) → h2131[93]? = some (aI 40 W) → h2131[94]? = some (aI 40 Z) → h2131[95]? = some (aI 40 Ro) → h2131[96]? = some (aI 40 Co) → h2131[97]? = some (aI 30 (nA b1)) → h2131[98]? = some (aI 30 (nA b2)) → h2131[92]? = some (aI 4 (nA fi)) → rg2 89 89 99 102 h h2131 → AW l G yX9_copied cX9_copied 6 (some .int) (xR 6 0 0) (fun _ _ => True) QF 0 0 61 [(5, .int (nI i)), (4, .int (nI (jS (lx a0 b0) (fi b0) (fi a0) 0 0))), (3, .int (nI k0)), (2, .int (nI b0)), (1, .int (nI a0)), (0, .ref (G.1 + 88))] [] h2131 from L2148 (fi a0 - 0 + 1) 0 _ (Nat.lt_succ_self _) (Nat.zero_le _) f2111 f2112 f2113 f2114 f2120 f2121 f2122 f2123 f2124 f2125 f2126 f2127 f2128 f2129 f2130 (rg2_tr (rg2_rf 89 89 99 102 h) (rg2_w k2115 (by decide)))
        intro mm
        induction mm with
        | zero =>
          intro i h2131 hmm hi f2132 f2133 f2134 f2135 f2136 f2137 f2138 f2139 f2140 f2141 f2142 f2143 f2144 f2145 f2146 k2147
          exact absurd hmm (Nat.not_lt_zero _)
        | succ mm ih2148 =>
          intro i h2131 hmm hi f2132 f2133 f2134 f2135 f2136 f2137 f2138 f2139 f2140 f2141 f2142 f2143 f2144 f2145 f2146 k2147
          refine aw_iload 0 dX9_copied_61 rfl ?_
          refine aw_aload_n 5 dX9_copied_63 rfl rfl ?_
          refine aw_get fX9_19 dX9_copied_64 f2136 rfl ?_
          refine aw_iload_n 4 dX9_copied_67 rfl rfl ?_
          refine aw_iald a0 (rfl) (by omega) (by decide) dX9_copied_68 f2146 ?_
          refine aw_toe (nI (fi a0)) (rfl) ?_
          have b2149 := hfi a0 (by omega)
          refine aw_icmp_ge 144 dX9_copied_69 (by decide) (fun c69 => ?_) (fun c69 => ?_)
          · have d69 := (nv_le (a := fi a0) (b := i) (rfl) (rfl) (by omega) (by omega)).mp c69
            refine aw_bipush (-9) dX9_copied_144 (by decide) ?_
            subst hQF
            exact aw_iret rfl dX9_copied_146 (by decide) (by decide) ⟨_, rfl, _, _, _, _, _, f2132, f2133, f2134, f2135, f2137, k2147, p2116, trivial⟩
          · have d69 := mt (nv_le (a := fi a0) (b := i) (rfl) (rfl) (by omega) (by omega)).mpr c69
            refine aw_aload_n 5 dX9_copied_72 rfl rfl ?_
            refine aw_get fX9_22 dX9_copied_73 f2136 rfl ?_
            refine aw_bipush (10) dX9_copied_76 (by decide) ?_
            refine aw_iload_n 4 dX9_copied_78 rfl rfl ?_
            refine aw_imul dX9_copied_79 ?_
            refine aw_toe (nI (10 * a0)) (nv_mul (rfl) (rfl)) ?_
            refine aw_iload 0 dX9_copied_80 rfl ?_
            refine aw_iadd dX9_copied_82 ?_
            refine aw_toe (nI ((10 * a0) + i)) (nv_add (rfl) (rfl)) ?_
            refine aw_iald ((10 * a0) + i) (rfl) (by omega) (by decide) dX9_copied_83 f2140 ?_
            refine aw_aload_n 5 dX9_copied_84 rfl rfl ?_
            refine aw_get fX9_22 dX9_copied_85 f2136 rfl ?_
            refine aw_bipush (10) dX9_copied_88 (by decide) ?_
            refine aw_iload_n 3 dX9_copied_90 rfl rfl ?_
            refine aw_imul dX9_copied_91 ?_
            refine aw_toe (nI (10 * b0)) (nv_mul (rfl) (rfl)) ?_
            refine aw_iload_n 2 dX9_copied_92 rfl rfl ?_
            refine aw_iadd dX9_copied_93 ?_
            refine aw_toe (nI ((10 * b0) + k0)) (nv_add (rfl) (rfl)) ?_
            refine aw_iald ((10 * b0) + k0) (rfl) (by omega) (by decide) dX9_copied_94 f2140 ?_
            refine aw_icmp_ne 138 dX9_copied_95 (by decide) (fun c95 => ?_) (fun c95 => ?_)
            · have d95 := mt (j_eq (a := (W ((10 * a0) + i)).toInt) (b := (W ((10 * b0) + k0)).toInt) (rfl) (rfl)).mpr c95
              refine aw_iinc (j := 0) (nI (i + 1)) [(5, .int (nI (i + 1))), (4, .int (nI (jS (lx a0 b0) (fi b0) (fi a0) 0 0))), (3, .int (nI k0)), (2, .int (nI b0)), (1, .int (nI a0)), (0, .ref (G.1 + 88))] dX9_copied_138 rfl (nv_inc (rfl)) (by decide) rfl ?_
              refine aw_goto 61 dX9_copied_141 (by decide) ?_
              refine aw_lv [(5, .int (nI (i + 1))), (4, .int (nI (jS (lx a0 b0) (fi b0) (fi a0) 0 0))), (3, .int (nI k0)), (2, .int (nI b0)), (1, .int (nI a0)), (0, .ref (G.1 + 88))] [0, 1, 2, 3, 4, 5] rfl ?_
              exact ih2148 (i + 1) _ (by omega) (by omega) f2132 f2133 f2134 f2135 f2136 f2137 f2138 f2139 f2140 f2141 f2142 f2143 f2144 f2145 f2146 (k2147)
            · have d95 := (j_eq (a := (W ((10 * a0) + i)).toInt) (b := (W ((10 * b0) + k0)).toInt) (rfl) (rfl)).mp c95
              refine aw_aload_n 5 dX9_copied_98 rfl rfl ?_
              refine aw_get fX9_25 dX9_copied_99 f2136 rfl ?_
              refine aw_bipush (10) dX9_copied_102 (by decide) ?_
              refine aw_iload_n 4 dX9_copied_104 rfl rfl ?_
              refine aw_imul dX9_copied_105 ?_
              refine aw_toe (nI (10 * a0)) (nv_mul (rfl) (rfl)) ?_
              refine aw_iload 0 dX9_copied_106 rfl ?_
              refine aw_iadd dX9_copied_108 ?_
              refine aw_toe (nI ((10 * a0) + i)) (nv_add (rfl) (rfl)) ?_
              refine aw_iald ((10 * a0) + i) (rfl) (by omega) (by decide) dX9_copied_109 f2141 ?_
              refine aw_aload_n 5 dX9_copied_110 rfl rfl ?_
              refine aw_get fX9_25 dX9_copied_111 f2136 rfl ?_
              refine aw_bipush (10) dX9_copied_114 (by decide) ?_
              refine aw_iload_n 3 dX9_copied_116 rfl rfl ?_
              refine aw_imul dX9_copied_117 ?_
              refine aw_toe (nI (10 * b0)) (nv_mul (rfl) (rfl)) ?_
              refine aw_iload_n 2 dX9_copied_118 rfl rfl ?_
              refine aw_iadd dX9_copied_119 ?_
              refine aw_toe (nI ((10 * b0) + k0)) (nv_add (rfl) (rfl)) ?_
              refine aw_iald ((10 * b0) + k0) (rfl) (by omega) (by decide) dX9_copied_120 f2141 ?_
              refine aw_icmp_ne 138 dX9_copied_121 (by decide) (fun c121 => ?_) (fun c121 => ?_)
              · have d121 := mt (j_eq (a := (Z ((10 * a0) + i)).toInt) (b := (Z ((10 * b0) + k0)).toInt) (rfl) (rfl)).mpr c121
                refine aw_iinc (j := 0) (nI (i + 1)) [(5, .int (nI (i + 1))), (4, .int (nI (jS (lx a0 b0) (fi b0) (fi a0) 0 0))), (3, .int (nI k0)), (2, .int (nI b0)), (1, .int (nI a0)), (0, .ref (G.1 + 88))] dX9_copied_138 rfl (nv_inc (rfl)) (by decide) rfl ?_
                refine aw_goto 61 dX9_copied_141 (by decide) ?_
                refine aw_lv [(5, .int (nI (i + 1))), (4, .int (nI (jS (lx a0 b0) (fi b0) (fi a0) 0 0))), (3, .int (nI k0)), (2, .int (nI b0)), (1, .int (nI a0)), (0, .ref (G.1 + 88))] [0, 1, 2, 3, 4, 5] rfl ?_
                exact ih2148 (i + 1) _ (by omega) (by omega) f2132 f2133 f2134 f2135 f2136 f2137 f2138 f2139 f2140 f2141 f2142 f2143 f2144 f2145 f2146 (k2147)
              · have d121 := (j_eq (a := (Z ((10 * a0) + i)).toInt) (b := (Z ((10 * b0) + k0)).toInt) (rfl) (rfl)).mp c121
                refine aw_aload_n 5 dX9_copied_124 rfl rfl ?_
                refine aw_get fX9_53 dX9_copied_125 f2136 rfl ?_
                refine aw_iload 0 dX9_copied_128 rfl ?_
                refine aw_iald i (rfl) (by omega) (by decide) dX9_copied_130 f2134 ?_
                refine aw_iload_n 2 dX9_copied_131 rfl rfl ?_
                refine aw_icmp_eq 138 dX9_copied_132 (by decide) (fun c132 => ?_) (fun c132 => ?_)
                · have d132 := (j_eq (a := (jd12107 i).toInt) (b := ((k0 : Nat) : Int)) (rfl) (i_toNat (rfl) (by omega))).mp c132
                  refine aw_iinc (j := 0) (nI (i + 1)) [(5, .int (nI (i + 1))), (4, .int (nI (jS (lx a0 b0) (fi b0) (fi a0) 0 0))), (3, .int (nI k0)), (2, .int (nI b0)), (1, .int (nI a0)), (0, .ref (G.1 + 88))] dX9_copied_138 rfl (nv_inc (rfl)) (by decide) rfl ?_
                  refine aw_goto 61 dX9_copied_141 (by decide) ?_
                  refine aw_lv [(5, .int (nI (i + 1))), (4, .int (nI (jS (lx a0 b0) (fi b0) (fi a0) 0 0))), (3, .int (nI k0)), (2, .int (nI b0)), (1, .int (nI a0)), (0, .ref (G.1 + 88))] [0, 1, 2, 3, 4, 5] rfl ?_
                  exact ih2148 (i + 1) _ (by omega) (by omega) f2132 f2133 f2134 f2135 f2136 f2137 f2138 f2139 f2140 f2141 f2142 f2143 f2144 f2145 f2146 (k2147)
                · have d132 := mt (j_eq (a := (jd12107 i).toInt) (b := ((k0 : Nat) : Int)) (rfl) (i_toNat (rfl) (by omega))).mpr c132
                  refine aw_iload 0 dX9_copied_135 rfl ?_
                  subst hQF
                  exact aw_iret rfl dX9_copied_137 (by decide) (by decide) ⟨_, rfl, _, _, _, _, _, f2132, f2133, f2134, f2135, f2137, k2147, p2116, trivial⟩
      · have d40 := mt (nv_lt (a := ye a0) (b := ye b0) (rfl) (rfl) (by omega) (by omega)).mpr c40
        refine aw_aload_n 0 dX9_copied_43 rfl rfl ?_
        refine aw_bipush (-3) dX9_copied_44 (by decide) ?_
        refine aw_eV [.int (-3)] [] lX9_130 vX9_refuse mX9_refuse dX9_copied_46 (bX9_refuse (sp := sp) (fa := fa) (nb := nb) (ns := ns) (nm := nm) (nv := nv) (sh := sh) (ho := ho) (ow := ow) (sl := sl) (rg := rg) (x := (-3)) (q := 3) h88 h89 (by decide) (by decide)) h88 rfl rfl rfl (Nat.le_of_ble_eq_true rfl) (by decide) (by decide) rfl (fun h2152 q2151 => ?_)
        obtain ⟨rg12150, f2153, k2154⟩ := q2151
        have f2155 := rng_at k2154 (by decide) h88
        have f2156 := rng_at k2154 (by decide) h90
        have f2157 := rng_at k2154 (by decide) h91
        have f2158 := rng_at k2154 (by decide) h93
        have f2159 := rng_at k2154 (by decide) h94
        have f2160 := rng_at k2154 (by decide) h95
        have f2161 := rng_at k2154 (by decide) h96
        have f2162 := rng_at k2154 (by decide) h97
        have f2163 := rng_at k2154 (by decide) h98
        have f2164 := rng_at k2154 (by decide) h92
        have f2165 := rng_at k2154 (by decide) h99
        have f2166 := rng_at k2154 (by decide) h100
        have f2167 := rng_at k2154 (by decide) h101
        have f2168 := rng_at k2154 (by decide) h102
        subst hQF
        exact aw_iret rfl dX9_copied_49 (by decide) (by decide) ⟨_, rfl, _, _, _, _, _, f2165, f2166, f2167, f2168, f2153, rg2_tr (rg2_rf 89 89 99 102 h) (rg2_w k2154 (by decide)), hjd, trivial⟩
    · have t19 := ite_0 c19
      refine aw_aload_n 0 dX9_copied_22 rfl rfl ?_
      refine aw_iconst (-1) dX9_copied_23 (by decide) ?_
      refine aw_eV [.int (-1)] [] lX9_130 vX9_refuse mX9_refuse dX9_copied_24 (bX9_refuse (sp := sp) (fa := fa) (nb := nb) (ns := ns) (nm := nm) (nv := nv) (sh := sh) (ho := ho) (ow := ow) (sl := sl) (rg := rg) (x := (-1)) (q := 1) h88 h89 (by decide) (by decide)) h88 rfl rfl rfl (Nat.le_of_ble_eq_true rfl) (by decide) (by decide) rfl (fun h2171 q2170 => ?_)
      obtain ⟨rg12169, f2172, k2173⟩ := q2170
      have f2174 := rng_at k2173 (by decide) h88
      have f2175 := rng_at k2173 (by decide) h90
      have f2176 := rng_at k2173 (by decide) h91
      have f2177 := rng_at k2173 (by decide) h93
      have f2178 := rng_at k2173 (by decide) h94
      have f2179 := rng_at k2173 (by decide) h95
      have f2180 := rng_at k2173 (by decide) h96
      have f2181 := rng_at k2173 (by decide) h97
      have f2182 := rng_at k2173 (by decide) h98
      have f2183 := rng_at k2173 (by decide) h92
      have f2184 := rng_at k2173 (by decide) h99
      have f2185 := rng_at k2173 (by decide) h100
      have f2186 := rng_at k2173 (by decide) h101
      have f2187 := rng_at k2173 (by decide) h102
      subst hQF
      exact aw_iret rfl dX9_copied_27 (by decide) (by decide) ⟨_, rfl, _, _, _, _, _, f2184, f2185, f2186, f2187, f2172, rg2_tr (rg2_rf 89 89 99 102 h) (rg2_w k2173 (by decide)), hjd, trivial⟩
/-- is a number a way: its digits, from the last one on -/
def wyG : Nat → Nat → Nat → Bool
  | 0, _, _ => true
  | f + 1, se, v => if v = 0 then true else if (1 ≤ v % 10 ∧ v % 10 ≤ 4) ∧ ¬ se.testBit (v % 10 - 1) = true then wyG f (se ||| 2 ^ (v % 10 - 1)) (v / 10) else false
def wyF (a : Nat) (y : Int32) : Bool := decide (1 ≤ y.toInt ∧ y.toInt ≤ 999) && wyG 3 (2 ^ a) (tn y)
theorem wyG_0 {f se : Nat} : wyG f se 0 = true := by cases f <;> simp [wyG]
theorem wyG_y {f se v : Nat} (h0 : ¬ v = 0) (hd : 1 ≤ v % 10 ∧ v % 10 ≤ 4) (hb : ¬ se.testBit (v % 10 - 1) = true) : wyG (f + 1) se v = wyG f (se ||| 2 ^ (v % 10 - 1)) (v / 10) := by
  simp only [wyG]; rw [if_neg h0, if_pos ⟨hd, hb⟩]
theorem wyG_n {f se v : Nat} (h0 : ¬ v = 0) (h : ¬ ((1 ≤ v % 10 ∧ v % 10 ≤ 4) ∧ ¬ se.testBit (v % 10 - 1) = true)) : wyG (f + 1) se v = false := by
  simp only [wyG]; rw [if_neg h0, if_neg h]
theorem wy_dig0 : ∀ a, a < 4 → ∀ y, y < 1000 → (y = 0 ∨ wyG 3 (2 ^ a) y = false ∨ (1 ≤ y % 10 ∧ y % 10 ≤ 4 ∧ y / 10 % 10 ≤ 4 ∧ y / 100 % 10 ≤ 4)) := by decide +kernel
theorem wy_dig {a y : Nat} (ha : a < 4) (hy : y < 1000) (h0 : y ≠ 0) (h : wyG 3 (2 ^ a) y = true) : 1 ≤ y % 10 ∧ y % 10 ≤ 4 ∧ y / 10 % 10 ≤ 4 ∧ y / 100 % 10 ≤ 4 := by
  rcases wy_dig0 a ha y hy with q | q | q
  · exact absurd q h0
  · rw [h] at q; exact absurd q (by decide)
  · exact q
/-- the chain, step by step -/
def chX (v : Int32) : Int32 := if 0 < 100 - v then 100 - v else 0
def chD (lx : Nat → Nat → Nat → Nat → Nat) (fi : Nat → Nat) (fr t q q2 : Nat) : Int32 := chX (nI (lx fr t q q2)) + if jU (lx fr t) (fi t) (fi fr) q then 0 else 50
def chV (lx : Nat → Nat → Nat → Nat → Nat) (fi : Nat → Nat) (y : Nat) : Nat → Nat → Int32 → Int32 → Int32 → Int32 × Int32 × Int32
  | 0, _, ev, sv, dv => (ev, sv, dv)
  | x + 1, fr, ev, sv, dv =>
    if ev = -9 then (ev, sv, dv) else
    if y / p10 (x + 1) % 10 = 0 then chV lx fi y x fr ev sv dv else
    if jP (lx fr (y / p10 (x + 1) % 10 - 1)) (fi (y / p10 (x + 1) % 10 - 1)) (fi fr) (jn ev) = -9 then chV lx fi y x (y / p10 (x + 1) % 10 - 1) (-9) sv dv else
    chV lx fi y x (y / p10 (x + 1) % 10 - 1) (jP (lx fr (y / p10 (x + 1) % 10 - 1)) (fi (y / p10 (x + 1) % 10 - 1)) (fi fr) (jn ev)) (sv + 1) (dv + chD lx fi fr (y / p10 (x + 1) % 10 - 1) (jn ev) (jn (jP (lx fr (y / p10 (x + 1) % 10 - 1)) (fi (y / p10 (x + 1) % 10 - 1)) (fi fr) (jn ev))))
def chR (w : Int32) (t : Int32 × Int32 × Int32) : Int32 := if w = 0 then t.1 else if w = 1 then t.2.1 else t.2.2
def chA (lx : Nat → Nat → Nat → Nat → Nat) (fi : Nat → Nat) (a i y w : Int32) : Int32 := if ((0 ≤ a.toInt ∧ a.toInt < 4) ∧ 0 ≤ i.toInt ∧ i.toInt < (fi (tn a) : Int)) ∧ wyF (tn a) y = true then (if 0 ≤ w.toInt ∧ w.toInt ≤ 2 then chR w (chV lx fi (tn y) 3 (tn a) i 0 0) else -2) else -1
theorem cc_1 {c : Int32} {p : Prop} [Decidable p] (h : c = if p then 1 else 0) (hc : ¬ c = 0) : (0 : Int32) = if p then 0 else 50 := by
  by_cases q : p
  · rw [if_pos q]
  · rw [if_neg q] at h; exact absurd h hc
theorem cc_0 {c : Int32} {p : Prop} [Decidable p] (h : c = if p then 1 else 0) (hc : c = 0) : (50 : Int32) = if p then 0 else 50 := by
  by_cases q : p
  · rw [if_pos q] at h; rw [hc] at h; exact absurd h (by decide)
  · rw [if_neg q]
section CV
variable {lx : Nat → Nat → Nat → Nat → Nat} {fi : Nat → Nat} {y x fr q q2 t : Nat} {ev sv dv c w : Int32}
theorem chV_z : chV lx fi y 0 fr ev sv dv = (ev, sv, dv) := rfl
theorem chV_9 : ∀ x, chV lx fi y x fr (-9) sv dv = (-9, sv, dv) := by
  intro x
  cases x with
  | zero => rfl
  | succ x => simp only [chV]; rw [if_pos trivial]
theorem chV_0 (hq : q < 100000) (hD : y / p10 (x + 1) % 10 = 0) : chV lx fi y (x + 1) fr (nI q) sv dv = chV lx fi y x fr (nI q) sv dv := by
  simp only [chV]
  rw [if_neg (nI_9 hq), if_pos hD]
theorem chV_n (hq : q < 100000) (hD : ¬ y / p10 (x + 1) % 10 = 0) (ht : t = y / p10 (x + 1) % 10 - 1) (hP : jP (lx fr t) (fi t) (fi fr) q = -9) : chV lx fi y (x + 1) fr (nI q) sv dv = chV lx fi y x t (-9) sv dv := by
  subst ht
  simp only [chV]
  rw [if_neg (nI_9 hq), if_neg hD, jn_nI (by omega), if_pos hP]
theorem chV_s (hq : q < 100000) (hq2 : q2 < 100000) (hD : ¬ y / p10 (x + 1) % 10 = 0) (ht : t = y / p10 (x + 1) % 10 - 1) (hP : jP (lx fr t) (fi t) (fi fr) q = nI q2) (hc : c = if jU (lx fr t) (fi t) (fi fr) q then 0 else 50) : chV lx fi y (x + 1) fr (nI q) sv dv = chV lx fi y x t (nI q2) (sv + 1) (dv + (chX (nI (lx fr t q q2)) + c)) := by
  subst ht
  simp only [chV]
  rw [if_neg (nI_9 hq), if_neg hD, jn_nI (by omega), if_neg (by rw [hP]; exact nI_9 hq2), hP, jn_nI (by omega)]
  subst hc
  rfl
theorem chV_32 (hq : q < 100000) (h : y < 100) : chV lx fi y 3 fr (nI q) sv dv = chV lx fi y 2 fr (nI q) sv dv := chV_0 hq (show y / 100 % 10 = 0 by omega)
theorem chV_31 (hq : q < 100000) (h : y < 10) : chV lx fi y 3 fr (nI q) sv dv = chV lx fi y 1 fr (nI q) sv dv := (chV_32 hq (by omega)).trans (chV_0 hq (show y / 10 % 10 = 0 by omega))
theorem chR_0 (h : w = 0) : chR w (ev, sv, dv) = ev := by unfold chR; rw [if_pos h]
theorem chR_1 (h0 : ¬ w = 0) (h : w = 1) : chR w (ev, sv, dv) = sv := by unfold chR; rw [if_neg h0, if_pos h]
theorem chR_2 (h0 : ¬ w = 0) (h : ¬ w = 1) : chR w (ev, sv, dv) = dv := by unfold chR; rw [if_neg h0, if_neg h]
theorem chA_y {a i y w : Int32} (h : ((0 ≤ a.toInt ∧ a.toInt < 4) ∧ 0 ≤ i.toInt ∧ i.toInt < (fi (tn a) : Int)) ∧ wyF (tn a) y = true) (h2 : 0 ≤ w.toInt ∧ w.toInt ≤ 2) : chA lx fi a i y w = chR w (chV lx fi (tn y) 3 (tn a) i 0 0) := by unfold chA; rw [if_pos h, if_pos h2]
theorem chA_2 {a i y w : Int32} (h : ((0 ≤ a.toInt ∧ a.toInt < 4) ∧ 0 ≤ i.toInt ∧ i.toInt < (fi (tn a) : Int)) ∧ wyF (tn a) y = true) (h2 : ¬ (0 ≤ w.toInt ∧ w.toInt ≤ 2)) : chA lx fi a i y w = -2 := by unfold chA; rw [if_pos h, if_neg h2]
theorem chA_1 {a i y w : Int32} (h : ¬ (((0 ≤ a.toInt ∧ a.toInt < 4) ∧ 0 ≤ i.toInt ∧ i.toInt < (fi (tn a) : Int)) ∧ wyF (tn a) y = true)) : chA lx fi a i y w = -1 := by unfold chA; rw [if_neg h]
theorem chA_r {a i y w : Int32} (h : ¬ (((0 ≤ a.toInt ∧ a.toInt < 4) ∧ 0 ≤ i.toInt ∧ i.toInt < (fi (tn a) : Int)) ∧ wyF (tn a) y = true ∧ 0 ≤ w.toInt ∧ w.toInt ≤ 2)) : (if ((0 ≤ a.toInt ∧ a.toInt < 4) ∧ 0 ≤ i.toInt ∧ i.toInt < (fi (tn a) : Int)) ∧ wyF (tn a) y = true then (-2 : Int32) else -1) = chA lx fi a i y w := by
  by_cases c : ((0 ≤ a.toInt ∧ a.toInt < 4) ∧ 0 ≤ i.toInt ∧ i.toInt < (fi (tn a) : Int)) ∧ wyF (tn a) y = true
  · rw [if_pos c, chA_2 c (fun q => h ⟨c.1, c.2, q⟩)]
  · rw [if_neg c, chA_1 c]
theorem wyO {a : Nat} {y : Int32} (h : wyF a y = true) : (1 ≤ y.toInt ∧ y.toInt ≤ 999) ∧ wyG 3 (2 ^ a) (tn y) = true := by
  unfold wyF at h
  simp only [Bool.and_eq_true, decide_eq_true_eq] at h
  exact h
theorem wyI {a : Nat} {y : Int32} (h : (1 ≤ y.toInt ∧ y.toInt ≤ 999) ∧ wyG 3 (2 ^ a) (tn y) = true) : wyF a y = true := by
  unfold wyF
  simp only [Bool.and_eq_true, decide_eq_true_eq]
  exact h
end CV
