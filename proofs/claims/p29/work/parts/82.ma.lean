set_option maxHeartbeats 4000000 in
theorem oX9_chain {l : Launch} {G : xG} {h : List va_E} {sp fa nb ns nm nv sh : Nat} {ho ow sl : Int32} {rg : Nat → Int32} {m ye b1 b2 : Nat → Nat} {W Z Ro Co : Nat → Int32} {fi : Nat → Nat} {lk su jd wy : Nat → Int32} {lx : Nat → Nat → Nat → Nat → Nat} {a i y v : Int32} (h88 : h[88]? = some (oB 9 (lM G (nI sp) (nI fa) (nI nb) (nI ns) (nI nm) ho ow sl (nI nv) (nI sh)))) (h89 : h[89]? = some (aI 7 rg)) (h90 : h[90]? = some (aI 20 (nA m))) (h91 : h[91]? = some (aI 4 (nA ye))) (h93 : h[93]? = some (aI 40 W)) (h94 : h[94]? = some (aI 40 Z)) (h95 : h[95]? = some (aI 40 Ro)) (h96 : h[96]? = some (aI 40 Co)) (h97 : h[97]? = some (aI 30 (nA b1))) (h98 : h[98]? = some (aI 30 (nA b2))) (h92 : h[92]? = some (aI 4 (nA fi))) (h99 : h[99]? = some (aI 100 lk)) (h100 : h[100]? = some (aI 11264 su)) (h101 : h[101]? = some (aI 10 jd)) (h102 : h[102]? = some (aI 11264 wy)) (hm : ∀ j, j < 20 → m j ≤ j) (hye : ∀ j, j < 4 → ye j < 1901) (hnb : nb ≤ 30) (bb1 : ∀ j, j < 30 → b1 j < 40) (bb2 : ∀ j, j < 30 → b2 j < 40) (hsp : sp ≤ 50) (hfd : fa ≤ 9) (hfi : ∀ j, j < 4 → fi j < 11) (hjd : pB jd) (hlx : ∀ a, a < 4 → ∀ b, b < 4 → ∀ i, i < fi a → ∀ k, k < fi b → (lkS ye (fun j => snF (root m) (W j) 20) Z Ro Co (brF b1 b2 (a * 10 + i) (b * 10 + k) nb = true) sp fa a i b k) = nI (lx a b i k)) (hlx3 : ∀ a b i k, lx a b i k ≤ 300) : CE l G yX9_chain cX9_chain 15 (some .int) 6 0 0 [.ref (G.1 + 88), .int a, .int i, .int y, .int v] h (some (.int (chA lx fi a i y v))) (fun h1 => ∃ lk1 : Nat → Int32, ∃ su1 : Nat → Int32, ∃ jd1 : Nat → Int32, ∃ wy1 : Nat → Int32, ∃ rg1 : Nat → Int32, h1[99]? = some (aI 100 lk1) ∧ h1[100]? = some (aI 11264 su1) ∧ h1[101]? = some (aI 10 jd1) ∧ h1[102]? = some (aI 11264 wy1) ∧ h1[89]? = some (aI 7 rg1) ∧ rg2 89 89 99 102 h h1 ∧ pB jd1) := by
  refine cm_ofQ rfl (Nat.le_of_ble_eq_true rfl) [(0, .ref (G.1 + 88)), (1, .int a), (2, .int i), (3, .int y), (4, .int v)] rfl (fun QF hQF => ?_)
  refine aw_aload_n 0 dX9_chain_0 rfl rfl ?_
  refine aw_iload_n 1 dX9_chain_1 rfl rfl ?_
  refine aw_iload_n 2 dX9_chain_2 rfl rfl ?_
  refine aw_dV [.int a, .int i] [] lX9_145 vX9_isEntry mX9_isEntry dX9_chain_3 (bX9_isEntry (sp := sp) (fa := fa) (nb := nb) (ns := ns) (nm := nm) (nv := nv) (sh := sh) (ho := ho) (ow := ow) (sl := sl) (fi := fi) (c := a) (i := i) h88 h92 hfi) h88 rfl rfl rfl (Nat.le_of_ble_eq_true rfl) (by decide) (by decide) rfl ?_
  refine aw_if_eq 21 dX9_chain_6 (by decide) (fun c6 => ?_) (fun c6 => ?_)
  · have t6 := ite_0 c6
    refine aw_aload_n 0 dX9_chain_21 rfl rfl ?_
    refine aw_iconst (-1) dX9_chain_22 (by decide) ?_
    refine aw_eV [.int (-1)] [] lX9_130 vX9_refuse mX9_refuse dX9_chain_23 (bX9_refuse (sp := sp) (fa := fa) (nb := nb) (ns := ns) (nm := nm) (nv := nv) (sh := sh) (ho := ho) (ow := ow) (sl := sl) (rg := rg) (x := (-1)) (q := 1) h88 h89 (by decide) (by decide)) h88 rfl rfl rfl (Nat.le_of_ble_eq_true rfl) (by decide) (by decide) rfl (fun h2190 q2189 => ?_)
    obtain ⟨rg12188, f2191, k2192⟩ := q2189
    have f2193 := rng_at k2192 (by decide) h88
    have f2194 := rng_at k2192 (by decide) h90
    have f2195 := rng_at k2192 (by decide) h91
    have f2196 := rng_at k2192 (by decide) h93
    have f2197 := rng_at k2192 (by decide) h94
    have f2198 := rng_at k2192 (by decide) h95
    have f2199 := rng_at k2192 (by decide) h96
    have f2200 := rng_at k2192 (by decide) h97
    have f2201 := rng_at k2192 (by decide) h98
    have f2202 := rng_at k2192 (by decide) h92
    have f2203 := rng_at k2192 (by decide) h99
    have f2204 := rng_at k2192 (by decide) h100
    have f2205 := rng_at k2192 (by decide) h101
    have f2206 := rng_at k2192 (by decide) h102
    subst hQF
    exact aw_iret rfl dX9_chain_26 (by decide) (by decide) ⟨by rw [chA_1 (fun q9 => by have w9 := (wyO q9.2).1; omega)], _, _, _, _, _, f2203, f2204, f2205, f2206, f2191, rg2_tr (rg2_rf 89 89 99 102 h) (rg2_w k2192 (by decide)), hjd⟩
  · have t6 := ite_1 c6
    refine aw_iload_n 3 dX9_chain_9 rfl rfl ?_
    refine aw_iconst (1) dX9_chain_10 (by decide) ?_
    refine aw_icmp_lt 21 dX9_chain_11 (by decide) (fun c11 => ?_) (fun c11 => ?_)
    · have d11 := (j_lt (a := y.toInt) (b := (1)) (rfl) (rfl)).mp c11
      refine aw_aload_n 0 dX9_chain_21 rfl rfl ?_
      refine aw_iconst (-1) dX9_chain_22 (by decide) ?_
      refine aw_eV [.int (-1)] [] lX9_130 vX9_refuse mX9_refuse dX9_chain_23 (bX9_refuse (sp := sp) (fa := fa) (nb := nb) (ns := ns) (nm := nm) (nv := nv) (sh := sh) (ho := ho) (ow := ow) (sl := sl) (rg := rg) (x := (-1)) (q := 1) h88 h89 (by decide) (by decide)) h88 rfl rfl rfl (Nat.le_of_ble_eq_true rfl) (by decide) (by decide) rfl (fun h2209 q2208 => ?_)
      obtain ⟨rg12207, f2210, k2211⟩ := q2208
      have f2212 := rng_at k2211 (by decide) h88
      have f2213 := rng_at k2211 (by decide) h90
      have f2214 := rng_at k2211 (by decide) h91
      have f2215 := rng_at k2211 (by decide) h93
      have f2216 := rng_at k2211 (by decide) h94
      have f2217 := rng_at k2211 (by decide) h95
      have f2218 := rng_at k2211 (by decide) h96
      have f2219 := rng_at k2211 (by decide) h97
      have f2220 := rng_at k2211 (by decide) h98
      have f2221 := rng_at k2211 (by decide) h92
      have f2222 := rng_at k2211 (by decide) h99
      have f2223 := rng_at k2211 (by decide) h100
      have f2224 := rng_at k2211 (by decide) h101
      have f2225 := rng_at k2211 (by decide) h102
      subst hQF
      exact aw_iret rfl dX9_chain_26 (by decide) (by decide) ⟨by rw [chA_1 (fun q9 => by have w9 := (wyO q9.2).1; omega)], _, _, _, _, _, f2222, f2223, f2224, f2225, f2210, rg2_tr (rg2_rf 89 89 99 102 h) (rg2_w k2211 (by decide)), hjd⟩
    · have d11 := mt (j_lt (a := y.toInt) (b := (1)) (rfl) (rfl)).mpr c11
      refine aw_iload_n 3 dX9_chain_14 rfl rfl ?_
      refine aw_sipush (999) dX9_chain_15 (by decide) ?_
      refine aw_icmp_le 27 dX9_chain_18 (by decide) (fun c18 => ?_) (fun c18 => ?_)
      · have d18 := (j_le (a := y.toInt) (b := (999)) (rfl) (rfl)).mp c18
        have fa0 := hfi (tn a) (by unfold tn; omega)
        obtain ⟨a0, bb_a0, ee_a0⟩ := i_nat (x := a) (N := 4) (by omega) (by omega)
        subst ee_a0
        have tt_a0 : (nI a0).toInt = (a0 : Int) := nI_toInt (by omega)
        have nn_a0 : tn (nI a0) = a0 := tn_nI (by omega)
        rw [nn_a0] at t6 fa0
        obtain ⟨i0, bb_i0, ee_i0⟩ := i_nat (x := i) (N := 10) (by omega) (by omega)
        subst ee_i0
        have tt_i0 : (nI i0).toInt = (i0 : Int) := nI_toInt (by omega)
        have nn_i0 : tn (nI i0) = i0 := tn_nI (by omega)
        obtain ⟨y0, bb_y0, ee_y0⟩ := i_nat (x := y) (N := 1000) (by omega) (by omega)
        subst ee_y0
        have tt_y0 : (nI y0).toInt = (y0 : Int) := nI_toInt (by omega)
        have nn_y0 : tn (nI y0) = y0 := tn_nI (by omega)
        have pw := pw4 a0 (by omega)
        have hw0 : wyG 3 (2 ^ a0) y0 = wyG 3 (2 ^ a0) y0 := rfl
        refine aw_iconst (1) dX9_chain_27 (by decide) ?_
        refine aw_iload_n 1 dX9_chain_28 rfl rfl ?_
        refine aw_ishl dX9_chain_29 ?_
        refine aw_toe (nI (2 ^ a0)) (nv_shl1 (rfl) (by omega)) ?_
        refine aw_istore [(5, .int (nI (2 ^ a0))), (0, .ref (G.1 + 88)), (1, .int (nI a0)), (2, .int (nI i0)), (3, .int (nI y0)), (4, .int v)] dX9_chain_30 (by decide) rfl ?_
        refine aw_iload_n 4 dX9_chain_32 rfl rfl ?_
        refine aw_bipush (99) dX9_chain_33 (by decide) ?_
        refine aw_icmp_le 42 dX9_chain_35 (by decide) (fun c35 => ?_) (fun c35 => ?_)
        · have d35 := (nv_le (a := y0) (b := 99) (rfl) (rfl) (by omega) (by omega)).mp c35
          refine aw_iload_n 4 dX9_chain_42 rfl rfl ?_
          refine aw_bipush (9) dX9_chain_43 (by decide) ?_
          refine aw_icmp_le 52 dX9_chain_45 (by decide) (fun c45 => ?_) (fun c45 => ?_)
          · have d45 := (nv_le (a := y0) (b := 9) (rfl) (rfl) (by omega) (by omega)).mp c45
            refine aw_iconst (1) dX9_chain_52 (by decide) ?_
            refine aw_istore [(6, .int 1), (5, .int (nI (2 ^ a0))), (0, .ref (G.1 + 88)), (1, .int (nI a0)), (2, .int (nI i0)), (3, .int (nI y0)), (4, .int v)] dX9_chain_53 (by decide) rfl ?_
            refine aw_iload_n 5 dX9_chain_55 rfl rfl ?_
            refine aw_istore [(7, .int (nI y0)), (6, .int 1), (5, .int (nI (2 ^ a0))), (0, .ref (G.1 + 88)), (1, .int (nI a0)), (2, .int (nI i0)), (3, .int (nI y0)), (4, .int v)] dX9_chain_56 (by decide) rfl ?_
            refine aw_iload 0 dX9_chain_58 rfl ?_
            refine aw_if_le 117 dX9_chain_60 (by decide) (fun c60 => absurd c60 (by simp only [i_le, (nI_toInt (n := y0) (by omega)), (show (0 : Int32).toInt = 0 from rfl)] <;> omega)) (fun c60 => ?_)
            refine aw_iload 0 dX9_chain_63 rfl ?_
            refine aw_bipush (10) dX9_chain_65 (by decide) ?_
            refine aw_irem dX9_chain_67 (by decide) ?_
            refine aw_toe (nI (y0 % 10)) (nv_rem (rfl) (rfl) (by omega) (by decide) (by decide)) ?_
            refine aw_iconst (1) dX9_chain_68 (by decide) ?_
            refine aw_isub dX9_chain_69 ?_
            refine aw_istore [(8, .int ((nI (y0 % 10)) - 1)), (7, .int (nI y0)), (6, .int 1), (5, .int (nI (2 ^ a0))), (0, .ref (G.1 + 88)), (1, .int (nI a0)), (2, .int (nI i0)), (3, .int (nI y0)), (4, .int v)] dX9_chain_70 (by decide) rfl ?_
            refine aw_iload 0 dX9_chain_72 rfl ?_
            refine aw_iconst (4) dX9_chain_74 (by decide) ?_
            refine aw_dS [.int ((nI (y0 % 10)) - 1), .int 4] [] lX9_126 sX9_isIn mX9_isIn dX9_chain_75 (bX9_isIn (x := (nI (y0 % 10)) - 1) (n := 4) (by omega)) rfl (Nat.le_of_ble_eq_true rfl) (by decide) (by decide) rfl ?_
            refine aw_if_eq 92 dX9_chain_78 (by decide) (fun c78 => ?_) (fun c78 => ?_)
            · have t78 := ite_0 c78
              refine aw_aload_n 4 dX9_chain_92 rfl rfl ?_
              refine aw_iconst (-1) dX9_chain_93 (by decide) ?_
              refine aw_eV [.int (-1)] [] lX9_130 vX9_refuse mX9_refuse dX9_chain_94 (bX9_refuse (sp := sp) (fa := fa) (nb := nb) (ns := ns) (nm := nm) (nv := nv) (sh := sh) (ho := ho) (ow := ow) (sl := sl) (rg := rg) (x := (-1)) (q := 1) h88 h89 (by decide) (by decide)) h88 rfl rfl rfl (Nat.le_of_ble_eq_true rfl) (by decide) (by decide) rfl (fun h2228 q2227 => ?_)
              obtain ⟨rg12226, f2229, k2230⟩ := q2227
              have f2231 := rng_at k2230 (by decide) h88
              have f2232 := rng_at k2230 (by decide) h90
              have f2233 := rng_at k2230 (by decide) h91
              have f2234 := rng_at k2230 (by decide) h93
              have f2235 := rng_at k2230 (by decide) h94
              have f2236 := rng_at k2230 (by decide) h95
              have f2237 := rng_at k2230 (by decide) h96
              have f2238 := rng_at k2230 (by decide) h97
              have f2239 := rng_at k2230 (by decide) h98
              have f2240 := rng_at k2230 (by decide) h92
              have f2241 := rng_at k2230 (by decide) h99
              have f2242 := rng_at k2230 (by decide) h100
              have f2243 := rng_at k2230 (by decide) h101
              have f2244 := rng_at k2230 (by decide) h102
              subst hQF
              exact aw_iret rfl dX9_chain_97 (by decide) (by decide) ⟨by rw [chA_1 (fun q9 => by have w9 := (wyO q9.2).2; rw [nn_a0, nn_y0, hw0.trans (wyG_n (by omega) (fun q9 => t78 (by rw [dig_i (by omega)]; omega)))] at w9; exact absurd w9 (by decide))], _, _, _, _, _, f2241, f2242, f2243, f2244, f2229, rg2_tr (rg2_rf 89 89 99 102 h) (rg2_w k2230 (by decide)), hjd⟩
            · have t78 := ite_1 c78
              have g0 : 1 ≤ y0 % 10 ∧ y0 % 10 ≤ 4 := by rw [dig_i (by omega)] at t78; omega
              rw [dig_e g0.1]
              refine aw_iload 3 dX9_chain_81 rfl ?_
              refine aw_iload 0 dX9_chain_83 rfl ?_
              refine aw_ishr dX9_chain_85 ?_
              refine aw_iconst (1) dX9_chain_86 (by decide) ?_
              refine aw_iand dX9_chain_87 ?_
              refine aw_toe (if (2 ^ a0).testBit (y0 % 10 - 1) = true then 1 else 0) (nv_bit (rfl) (rfl) (by omega) (by omega)) ?_
              refine aw_iconst (1) dX9_chain_88 (by decide) ?_
              refine aw_icmp_ne 98 dX9_chain_89 (by decide) (fun c89 => ?_) (fun c89 => ?_)
              · have t89 := ite_0e c89
                have w1 := or_16 (a := 2 ^ a0) (b := y0 % 10 - 1) (by omega) (by omega)
                have hw1 := hw0.trans (wyG_y (by omega) g0 t89)
                refine aw_iload 3 dX9_chain_98 rfl ?_
                refine aw_iconst (1) dX9_chain_100 (by decide) ?_
                refine aw_iload 0 dX9_chain_101 rfl ?_
                refine aw_ishl dX9_chain_103 ?_
                refine aw_toe (nI (2 ^ (y0 % 10 - 1))) (nv_shl1 (rfl) (by omega)) ?_
                refine aw_ior dX9_chain_104 ?_
                refine aw_toe (nI ((2 ^ a0) ||| (2 ^ (y0 % 10 - 1)))) (nv_or (rfl) (rfl)) ?_
                refine aw_istore [(5, .int (nI ((2 ^ a0) ||| (2 ^ (y0 % 10 - 1))))), (8, .int (nI (y0 % 10 - 1))), (7, .int (nI y0)), (6, .int 1), (0, .ref (G.1 + 88)), (1, .int (nI a0)), (2, .int (nI i0)), (3, .int (nI y0)), (4, .int v)] dX9_chain_105 (by decide) rfl ?_
                refine aw_iload 2 dX9_chain_107 rfl ?_
                refine aw_bipush (10) dX9_chain_109 (by decide) ?_
                refine aw_idiv dX9_chain_111 (by decide) ?_
                refine aw_toe (nI (y0 / 10)) (nv_div (rfl) (rfl) (by omega) (by decide) (by decide)) ?_
                refine aw_istore [(7, .int (nI (y0 / 10))), (5, .int (nI ((2 ^ a0) ||| (2 ^ (y0 % 10 - 1))))), (8, .int (nI (y0 % 10 - 1))), (6, .int 1), (0, .ref (G.1 + 88)), (1, .int (nI a0)), (2, .int (nI i0)), (3, .int (nI y0)), (4, .int v)] dX9_chain_112 (by decide) rfl ?_
                refine aw_goto 58 dX9_chain_114 (by decide) ?_
                refine aw_iload 0 dX9_chain_58 rfl ?_
                refine aw_if_le 117 dX9_chain_60 (by decide) (fun c60 => ?_) (fun c60 => absurd (by simp only [i_le, (nI_toInt (n := y0 / 10) (by omega)), (show (0 : Int32).toInt = 0 from rfl)] <;> omega) c60)
                have hwy : wyF a0 (nI y0) = true := wyI ⟨by omega, by rw [nn_y0, hw1, show y0 / 10 = 0 by omega]; exact wyG_0⟩
                have hEW : ((0 ≤ (nI a0).toInt ∧ (nI a0).toInt < 4) ∧ 0 ≤ (nI i0).toInt ∧ (nI i0).toInt < (fi (tn (nI a0)) : Int)) ∧ wyF (tn (nI a0)) (nI y0) = true := ⟨by rw [nn_a0]; omega, by rw [nn_a0]; exact hwy⟩
                refine aw_iload 8 dX9_chain_117 rfl ?_
                refine aw_iconst (3) dX9_chain_119 (by decide) ?_
                refine aw_dS [.int v, .int 3] [] lX9_126 sX9_isIn mX9_isIn dX9_chain_120 (bX9_isIn (x := v) (n := 3) (by omega)) rfl (Nat.le_of_ble_eq_true rfl) (by decide) (by decide) rfl ?_
                refine aw_if_ne 133 dX9_chain_123 (by decide) (fun c123 => ?_) (fun c123 => ?_)
                · have t123 := ite_1 c123
                  refine aw_iconst (0) dX9_chain_133 (by decide) ?_
                  refine aw_istore [(7, .int 0), (5, .int (nI ((2 ^ a0) ||| (2 ^ (y0 % 10 - 1))))), (8, .int (nI (y0 % 10 - 1))), (6, .int 1), (0, .ref (G.1 + 88)), (1, .int (nI a0)), (2, .int (nI i0)), (3, .int (nI y0)), (4, .int v)] dX9_chain_134 (by decide) rfl ?_
                  refine aw_iconst (0) dX9_chain_136 (by decide) ?_
                  refine aw_istore [(8, .int 0), (7, .int 0), (5, .int (nI ((2 ^ a0) ||| (2 ^ (y0 % 10 - 1))))), (6, .int 1), (0, .ref (G.1 + 88)), (1, .int (nI a0)), (2, .int (nI i0)), (3, .int (nI y0)), (4, .int v)] dX9_chain_137 (by decide) rfl ?_
                  refine aw_iload_n 5 dX9_chain_139 rfl rfl ?_
                  refine aw_istore [(9, .int (nI a0)), (8, .int 0), (7, .int 0), (5, .int (nI ((2 ^ a0) ||| (2 ^ (y0 % 10 - 1))))), (6, .int 1), (0, .ref (G.1 + 88)), (1, .int (nI a0)), (2, .int (nI i0)), (3, .int (nI y0)), (4, .int v)] dX9_chain_140 (by decide) rfl ?_
                  refine aw_iload_n 7 dX9_chain_142 rfl rfl ?_
                  refine aw_istore [(10, .int (nI i0)), (9, .int (nI a0)), (8, .int 0), (7, .int 0), (5, .int (nI ((2 ^ a0) ||| (2 ^ (y0 % 10 - 1))))), (6, .int 1), (0, .ref (G.1 + 88)), (1, .int (nI a0)), (2, .int (nI i0)), (3, .int (nI y0)), (4, .int v)] dX9_chain_143 (by decide) rfl ?_
                  refine aw_iload 5 dX9_chain_145 rfl ?_
                  refine aw_iconst (3) dX9_chain_147 (by decide) ?_
                  refine aw_icmp_ne 156 dX9_chain_148 (by decide) (fun c148 => ?_) (fun c148 => absurd c148 (by decide))
                  refine aw_iload 5 dX9_chain_156 rfl ?_
                  refine aw_iconst (2) dX9_chain_158 (by decide) ?_
                  refine aw_icmp_ne 167 dX9_chain_159 (by decide) (fun c159 => ?_) (fun c159 => absurd c159 (by decide))
                  refine aw_iconst (1) dX9_chain_167 (by decide) ?_
                  refine aw_istore [(11, .int 1), (10, .int (nI i0)), (9, .int (nI a0)), (8, .int 0), (7, .int 0), (5, .int (nI ((2 ^ a0) ||| (2 ^ (y0 % 10 - 1))))), (6, .int 1), (0, .ref (G.1 + 88)), (1, .int (nI a0)), (2, .int (nI i0)), (3, .int (nI y0)), (4, .int v)] dX9_chain_168 (by decide) rfl ?_
                  refine aw_lv [(11, .int 1), (10, .int (nI i0)), (9, .int (nI a0)), (8, .int 0), (7, .int 0), (4, .int v), (3, .int (nI y0)), (0, .ref (G.1 + 88))] [0, 1, 2, 3, 4, 11, 10, 7] rfl ?_
                  suffices L2262 : ∀ (mm : Nat) (x : Nat) (ev : Int32) (fr : Nat) (dv : Int32) (sv : Int32) (lk1 : Nat → Int32) (su1 : Nat → Int32) (jd1 : Nat → Int32) (wy1 : Nat → Int32) (h2245 : List va_E), x < mm → (x = 0 ∨ x = 1) → (ev = -9 ∨ ∃ q, q < 10 ∧ q < fi fr ∧ ev = nI q) → (fr < 4) → (pB jd1) → (chV lx fi y0 3 a0 (nI i0) 0 0 = chV lx fi y0 x fr ev sv dv) → h2245[88]? = some (oB 9 (lM G (nI sp) (nI fa) (nI nb) (nI ns) (nI nm) ho ow sl (nI nv) (nI sh))) → h2245[89]? = some (aI 7 rg) → h2245[90]? = some (aI 20 (nA m)) → h2245[91]? = some (aI 4 (nA ye)) → h2245[93]? = some (aI 40 W) → h2245[94]? = some (aI 40 Z) → h2245[95]? = some (aI 40 Ro) → h2245[96]? = some (aI 40 Co) → h2245[97]? = some (aI 30 (nA b1)) → h2245[98]? = some (aI 30 (nA b2)) → h2245[92]? = some (aI 4 (nA fi)) → h2245[99]? = some (aI 100 lk1) → h2245[100]? = some (aI 11264 su1) → h2245[101]? = some (aI 10 jd1) → h2245[102]? = some (aI 11264 wy1) → rg2 89 89 99 102 h h2245 → AW l G yX9_chain cX9_chain 15 (some .int) (xR 6 0 0) (fun _ _ => True) QF 0 0 170 [(11, .int (nI (p10 x))), (10, .int ev), (9, .int (nI fr)), (8, .int dv), (7, .int sv), (4, .int v), (3, .int (nI y0)), (0, .ref (G.1 + 88))] [] h2245 from L2262 (1 + 1) 1 (nI i0) a0 0 0 lk su jd wy _ (Nat.lt_succ_self _) (by decide) (Or.inr ⟨_, by omega, by omega, rfl⟩) (by omega) (hjd) (chV_31 (by omega) (by omega)) h88 h89 h90 h91 h93 h94 h95 h96 h97 h98 h92 h99 h100 h101 h102 (rg2_rf 89 89 99 102 h)
                  intro mm
                  induction mm with
                  | zero =>
                    intro x ev fr dv sv lk1 su1 jd1 wy1 h2245 hmm hx he bfr hp hcv f2246 f2247 f2248 f2249 f2250 f2251 f2252 f2253 f2254 f2255 f2256 f2257 f2258 f2259 f2260 k2261
                    exact absurd hmm (Nat.not_lt_zero _)
                  | succ mm ih2262 =>
                    intro x ev fr dv sv lk1 su1 jd1 wy1 h2245 hmm hx he bfr hp hcv f2246 f2247 f2248 f2249 f2250 f2251 f2252 f2253 f2254 f2255 f2256 f2257 f2258 f2259 f2260 k2261
                    rcases hx with rfl | rfl
                    · refine aw_lv [(11, .int 0), (10, .int ev), (9, .int (nI fr)), (8, .int dv), (7, .int sv), (4, .int v), (3, .int (nI y0)), (0, .ref (G.1 + 88))] [0, 1, 2, 3, 4, 5, 6, 7] rfl ?_
                      refine aw_iload 0 dX9_chain_170 rfl ?_
                      refine aw_if_le 274 dX9_chain_172 (by decide) (fun c172 => ?_) (fun c172 => absurd (by decide) c172)
                      refine aw_iload 5 dX9_chain_274 rfl ?_
                      refine aw_if_ne 284 dX9_chain_276 (by decide) (fun c276 => ?_) (fun c276 => ?_)
                      · have d276 := mt (j_eq (a := v.toInt) (b := (0)) (rfl) (rfl)).mpr c276
                        refine aw_iload 5 dX9_chain_284 rfl ?_
                        refine aw_iconst (1) dX9_chain_286 (by decide) ?_
                        refine aw_icmp_ne 295 dX9_chain_287 (by decide) (fun c287 => ?_) (fun c287 => ?_)
                        · have d287 := mt (j_eq (a := v.toInt) (b := (1)) (rfl) (rfl)).mpr c287
                          refine aw_iload 3 dX9_chain_295 rfl ?_
                          subst hQF
                          exact aw_iret rfl dX9_chain_297 (by decide) (by decide) ⟨by rw [chA_y hEW (by omega), nn_y0, nn_a0, hcv, chV_z, chR_2 c276 c287], _, _, _, _, _, f2257, f2258, f2259, f2260, f2247, k2261, hp⟩
                        · have d287 := (j_eq (a := v.toInt) (b := (1)) (rfl) (rfl)).mp c287
                          refine aw_iload 4 dX9_chain_290 rfl ?_
                          refine aw_goto 297 dX9_chain_292 (by decide) ?_
                          subst hQF
                          exact aw_iret rfl dX9_chain_297 (by decide) (by decide) ⟨by rw [chA_y hEW (by omega), nn_y0, nn_a0, hcv, chV_z, chR_1 c276 c287], _, _, _, _, _, f2257, f2258, f2259, f2260, f2247, k2261, hp⟩
                      · have d276 := (j_eq (a := v.toInt) (b := (0)) (rfl) (rfl)).mp c276
                        refine aw_iload 1 dX9_chain_279 rfl ?_
                        refine aw_goto 297 dX9_chain_281 (by decide) ?_
                        subst hQF
                        exact aw_iret rfl dX9_chain_297 (by decide) (by decide) ⟨by rw [chA_y hEW (by omega), nn_y0, nn_a0, hcv, chV_z, chR_0 c276], _, _, _, _, _, f2257, f2258, f2259, f2260, f2247, k2261, hp⟩
                    · refine aw_lv [(11, .int 1), (10, .int ev), (9, .int (nI fr)), (8, .int dv), (7, .int sv), (4, .int v), (3, .int (nI y0)), (0, .ref (G.1 + 88))] [0, 1, 2, 3, 4, 5, 6, 7] rfl ?_
                      refine aw_iload 0 dX9_chain_170 rfl ?_
                      refine aw_if_le 274 dX9_chain_172 (by decide) (fun c172 => absurd c172 (by decide)) (fun c172 => ?_)
                      refine aw_iload 1 dX9_chain_175 rfl ?_
                      refine aw_if_lt 274 dX9_chain_177 (by decide) (fun c177 => ?_) (fun c177 => ?_)
                      · have d177 := (j_lt (a := ev.toInt) (b := (0)) (rfl) (rfl)).mp c177
                        refine aw_iload 5 dX9_chain_274 rfl ?_
                        refine aw_if_ne 284 dX9_chain_276 (by decide) (fun c276 => ?_) (fun c276 => ?_)
                        · have d276 := mt (j_eq (a := v.toInt) (b := (0)) (rfl) (rfl)).mpr c276
                          refine aw_iload 5 dX9_chain_284 rfl ?_
                          refine aw_iconst (1) dX9_chain_286 (by decide) ?_
                          refine aw_icmp_ne 295 dX9_chain_287 (by decide) (fun c287 => ?_) (fun c287 => ?_)
                          · have d287 := mt (j_eq (a := v.toInt) (b := (1)) (rfl) (rfl)).mpr c287
                            refine aw_iload 3 dX9_chain_295 rfl ?_
                            subst hQF
                            have e9 : ev = -9 := he.elim id (fun ⟨q9, h9, _, e⟩ => by exfalso; rw [e, nI_toInt (by omega)] at d177; omega)
                            exact aw_iret rfl dX9_chain_297 (by decide) (by decide) ⟨by rw [chA_y hEW (by omega), nn_y0, nn_a0, hcv, e9, chV_9, chR_2 c276 c287], _, _, _, _, _, f2257, f2258, f2259, f2260, f2247, k2261, hp⟩
                          · have d287 := (j_eq (a := v.toInt) (b := (1)) (rfl) (rfl)).mp c287
                            refine aw_iload 4 dX9_chain_290 rfl ?_
                            refine aw_goto 297 dX9_chain_292 (by decide) ?_
                            subst hQF
                            have e9 : ev = -9 := he.elim id (fun ⟨q9, h9, _, e⟩ => by exfalso; rw [e, nI_toInt (by omega)] at d177; omega)
                            exact aw_iret rfl dX9_chain_297 (by decide) (by decide) ⟨by rw [chA_y hEW (by omega), nn_y0, nn_a0, hcv, e9, chV_9, chR_1 c276 c287], _, _, _, _, _, f2257, f2258, f2259, f2260, f2247, k2261, hp⟩
                        · have d276 := (j_eq (a := v.toInt) (b := (0)) (rfl) (rfl)).mp c276
                          refine aw_iload 1 dX9_chain_279 rfl ?_
                          refine aw_goto 297 dX9_chain_281 (by decide) ?_
                          subst hQF
                          have e9 : ev = -9 := he.elim id (fun ⟨q9, h9, _, e⟩ => by exfalso; rw [e, nI_toInt (by omega)] at d177; omega)
                          exact aw_iret rfl dX9_chain_297 (by decide) (by decide) ⟨by rw [chA_y hEW (by omega), nn_y0, nn_a0, hcv, e9, chV_9, chR_0 c276], _, _, _, _, _, f2257, f2258, f2259, f2260, f2247, k2261, hp⟩
                      · have d177 := mt (j_lt (a := ev.toInt) (b := (0)) (rfl) (rfl)).mpr c177
                        obtain ⟨q, bq, bqf, rfl⟩ := he.resolve_left (fun e => by rw [e] at d177; exact d177 (by decide))
                        refine aw_iload_n 6 dX9_chain_180 rfl rfl ?_
                        refine aw_iload 0 dX9_chain_181 rfl ?_
                        refine aw_idiv dX9_chain_183 (by decide) ?_
                        refine aw_toe (nI (y0 / 1)) (nv_div (rfl) (rfl) (by omega) (by decide) (by decide)) ?_
                        refine aw_bipush (10) dX9_chain_184 (by decide) ?_
                        refine aw_irem dX9_chain_186 (by decide) ?_
                        refine aw_toe (nI ((y0 / 1) % 10)) (nv_rem (rfl) (rfl) (by omega) (by decide) (by decide)) ?_
                        refine aw_iconst (1) dX9_chain_187 (by decide) ?_
                        refine aw_isub dX9_chain_188 ?_
                        refine aw_toe (nI (((y0 / 1) % 10) - 1)) (nv_sub (rfl) (rfl) (by omega)) ?_
                        refine aw_istore [(12, .int (nI (((y0 / 1) % 10) - 1))), (11, .int 1), (10, .int (nI q)), (9, .int (nI fr)), (8, .int dv), (7, .int sv), (4, .int v), (3, .int (nI y0)), (0, .ref (G.1 + 88))] dX9_chain_189 (by decide) rfl ?_
                        refine aw_aload_n 8 dX9_chain_191 rfl rfl ?_
                        refine aw_iload 3 dX9_chain_192 rfl ?_
                        refine aw_iload 2 dX9_chain_194 rfl ?_
                        refine aw_iload 0 dX9_chain_196 rfl ?_
                        refine aw_eV [.int (nI fr), .int (nI q), .int (nI (((y0 / 1) % 10) - 1))] [] lX9_190 vX9_isSure mX9_isSure dX9_chain_198 (bX9_isSure (sp := sp) (fa := fa) (nb := nb) (ns := ns) (nm := nm) (nv := nv) (sh := sh) (ho := ho) (ow := ow) (sl := sl) (m := m) (ye := ye) (b1 := b1) (b2 := b2) (W := W) (Z := Z) (Ro := Ro) (Co := Co) (fi := fi) (lk := lk1) (su := su1) (jd := jd1) (wy := wy1) (a := fr) (b := ((y0 / 1) % 10) - 1) (i := q) (lx := lx fr (((y0 / 1) % 10) - 1)) f2246 f2248 f2249 f2250 f2251 f2252 f2253 f2254 f2255 f2256 f2257 f2258 f2259 f2260 hm hye (by omega) bb1 bb2 (by omega) (by omega) hfi (by omega) (by omega) (by omega) (by omega) (by omega) (hlx fr (by omega) (((y0 / 1) % 10) - 1) (by omega)) (hlx3 fr (((y0 / 1) % 10) - 1))) f2246 rfl rfl rfl (Nat.le_of_ble_eq_true rfl) (by decide) (by decide) rfl (fun h2268 q2267 => ?_)
                        obtain ⟨lk12263, su12264, jd12265, wy12266, f2269, f2270, f2271, f2272, k2273, p2274, p2275⟩ := q2267
                        have f2276 := rng_at k2273 (by decide) f2246
                        have f2277 := rng_at k2273 (by decide) f2247
                        have f2278 := rng_at k2273 (by decide) f2248
                        have f2279 := rng_at k2273 (by decide) f2249
                        have f2280 := rng_at k2273 (by decide) f2250
                        have f2281 := rng_at k2273 (by decide) f2251
                        have f2282 := rng_at k2273 (by decide) f2252
                        have f2283 := rng_at k2273 (by decide) f2253
                        have f2284 := rng_at k2273 (by decide) f2254
                        have f2285 := rng_at k2273 (by decide) f2255
                        have f2286 := rng_at k2273 (by decide) f2256
                        refine aw_istore [(13, .int (if jU (lx fr (((y0 / 1) % 10) - 1)) (fi (((y0 / 1) % 10) - 1)) (fi fr) q then 1 else 0)), (12, .int (nI (((y0 / 1) % 10) - 1))), (11, .int 1), (10, .int (nI q)), (9, .int (nI fr)), (8, .int dv), (7, .int sv), (4, .int v), (3, .int (nI y0)), (0, .ref (G.1 + 88))] dX9_chain_201 (by decide) rfl ?_
                        refine aw_aload_n 9 dX9_chain_203 rfl rfl ?_
                        refine aw_get fX9_53 dX9_chain_204 f2276 rfl ?_
                        refine aw_iload 3 dX9_chain_207 rfl ?_
                        refine aw_iald q (rfl) (by omega) (by decide) dX9_chain_209 f2271 ?_
                        refine aw_istore [(14, .int (jd12265 q)), (13, .int (if jU (lx fr (((y0 / 1) % 10) - 1)) (fi (((y0 / 1) % 10) - 1)) (fi fr) q then 1 else 0)), (12, .int (nI (((y0 / 1) % 10) - 1))), (11, .int 1), (10, .int (nI q)), (9, .int (nI fr)), (8, .int dv), (7, .int sv), (4, .int v), (3, .int (nI y0)), (0, .ref (G.1 + 88))] dX9_chain_210 (by decide) rfl ?_
                        refine aw_iload 0 dX9_chain_212 rfl ?_
                        refine aw_if_lt 256 dX9_chain_214 (by decide) (fun c214 => ?_) (fun c214 => ?_)
                        · have d214 := (j_lt (a := (jd12265 q).toInt) (b := (0)) (rfl) (rfl)).mp c214
                          refine aw_iload 0 dX9_chain_256 rfl ?_
                          refine aw_istore [(10, .int (jd12265 q)), (14, .int (jd12265 q)), (13, .int (if jU (lx fr (((y0 / 1) % 10) - 1)) (fi (((y0 / 1) % 10) - 1)) (fi fr) q then 1 else 0)), (12, .int (nI (((y0 / 1) % 10) - 1))), (11, .int 1), (9, .int (nI fr)), (8, .int dv), (7, .int sv), (4, .int v), (3, .int (nI y0)), (0, .ref (G.1 + 88))] dX9_chain_258 (by decide) rfl ?_
                          refine aw_iload 3 dX9_chain_260 rfl ?_
                          refine aw_istore [(9, .int (nI (((y0 / 1) % 10) - 1))), (10, .int (jd12265 q)), (14, .int (jd12265 q)), (13, .int (if jU (lx fr (((y0 / 1) % 10) - 1)) (fi (((y0 / 1) % 10) - 1)) (fi fr) q then 1 else 0)), (12, .int (nI (((y0 / 1) % 10) - 1))), (11, .int 1), (8, .int dv), (7, .int sv), (4, .int v), (3, .int (nI y0)), (0, .ref (G.1 + 88))] dX9_chain_262 (by decide) rfl ?_
                          refine aw_iload 5 dX9_chain_264 rfl ?_
                          refine aw_bipush (10) dX9_chain_266 (by decide) ?_
                          refine aw_idiv dX9_chain_268 (by decide) ?_
                          refine aw_toe 0 (by decide) ?_
                          refine aw_istore [(11, .int 0), (9, .int (nI (((y0 / 1) % 10) - 1))), (10, .int (jd12265 q)), (14, .int (jd12265 q)), (13, .int (if jU (lx fr (((y0 / 1) % 10) - 1)) (fi (((y0 / 1) % 10) - 1)) (fi fr) q then 1 else 0)), (12, .int (nI (((y0 / 1) % 10) - 1))), (8, .int dv), (7, .int sv), (4, .int v), (3, .int (nI y0)), (0, .ref (G.1 + 88))] dX9_chain_269 (by decide) rfl ?_
                          refine aw_goto 170 dX9_chain_271 (by decide) ?_
                          refine aw_lv [(11, .int 0), (10, .int (jd12265 q)), (9, .int (nI (((y0 / 1) % 10) - 1))), (8, .int dv), (7, .int sv), (4, .int v), (3, .int (nI y0)), (0, .ref (G.1 + 88))] [0, 2, 1, 6, 7, 8, 9, 10] rfl ?_
                          have e9 := pB_9 p2274 (show q < 10 by omega) (by omega)
                          exact ih2262 0 (jd12265 q) (((y0 / 1) % 10) - 1) dv sv lk12263 su12264 jd12265 wy12266 _ (by omega) (by decide) (Or.inl e9) (by omega) (p2274) (by rw [e9]; exact hcv.trans (chV_n (t := y0 / 1 % 10 - 1) (by omega) (by show ¬ y0 / 1 % 10 = 0; omega) rfl ((p2275 q bqf).symm.trans e9))) f2276 f2277 f2278 f2279 f2280 f2281 f2282 f2283 f2284 f2285 f2286 f2269 f2270 f2271 f2272 (rg2_tr (k2261) (rg2_w k2273 (by decide)))
                        · have d214 := mt (j_lt (a := (jd12265 q).toInt) (b := (0)) (rfl) (rfl)).mpr c214
                          obtain ⟨q2, bq2, eq2⟩ := pB_g p2274 (show q < 10 by omega) d214
                          have fb9 := hfi (y0 / 1 % 10 - 1) (by omega)
                          have hP := (p2275 q bqf).symm.trans eq2
                          have bq2f := jP_lt (by omega) (by omega) hP
                          rw [eq2]
                          refine aw_iinc (j := 7) (sv + 1) [(7, .int (sv + 1)), (14, .int (nI q2)), (13, .int (if jU (lx fr (((y0 / 1) % 10) - 1)) (fi (((y0 / 1) % 10) - 1)) (fi fr) q then 1 else 0)), (12, .int (nI (((y0 / 1) % 10) - 1))), (11, .int 1), (10, .int (nI q)), (9, .int (nI fr)), (8, .int dv), (4, .int v), (3, .int (nI y0)), (0, .ref (G.1 + 88))] dX9_chain_217 rfl (by rfl) (by decide) rfl ?_
                          refine aw_iload 7 dX9_chain_220 rfl ?_
                          refine aw_iconst (0) dX9_chain_222 (by decide) ?_
                          refine aw_bipush (100) dX9_chain_223 (by decide) ?_
                          refine aw_aload_n 10 dX9_chain_225 rfl rfl ?_
                          refine aw_iload 6 dX9_chain_226 rfl ?_
                          refine aw_iload 5 dX9_chain_228 rfl ?_
                          refine aw_iload 3 dX9_chain_230 rfl ?_
                          refine aw_iload 1 dX9_chain_232 rfl ?_
                          refine aw_dV [.int (nI fr), .int (nI q), .int (nI (((y0 / 1) % 10) - 1)), .int (nI q2)] [.int 100, .int 0, .int dv] lX9_166 vX9_likeOf mX9_likeOf dX9_chain_234 (bX9_likeOf (sp := sp) (fa := fa) (nb := nb) (ns := ns) (nm := nm) (nv := nv) (sh := sh) (ho := ho) (ow := ow) (sl := sl) (m := m) (ye := ye) (b1 := b1) (b2 := b2) (W := W) (Z := Z) (Ro := Ro) (Co := Co) (a := fr) (i := q) (b := ((y0 / 1) % 10) - 1) (k := q2) f2276 f2278 f2279 f2280 f2281 f2282 f2283 f2284 f2285 hm hye (by omega) bb1 bb2 (by omega) (by omega) (by omega) (by omega) (by omega) (by omega)) f2276 rfl rfl rfl (Nat.le_of_ble_eq_true rfl) (by decide) (by decide) rfl ?_
                          refine aw_toe (nI (lx fr (((y0 / 1) % 10) - 1) q q2)) (hlx fr (by omega) (((y0 / 1) % 10) - 1) (by omega) q (by omega) q2 (by omega)) ?_
                          refine aw_isub dX9_chain_237 ?_
                          refine aw_mmax lX9_162 dX9_chain_238 (Nat.le_of_ble_eq_true rfl) (by decide) (by decide) ?_
                          refine aw_toe (chX (nI (lx fr (((y0 / 1) % 10) - 1) q q2))) (rfl) ?_
                          refine aw_iload 2 dX9_chain_241 rfl ?_
                          refine aw_if_eq 250 dX9_chain_243 (by decide) (fun c243 => ?_) (fun c243 => ?_)
                          · have t243 := ite_0 c243
                            refine aw_bipush (50) dX9_chain_250 (by decide) ?_
                            refine aw_iadd dX9_chain_252 ?_
                            refine aw_iadd dX9_chain_253 ?_
                            refine aw_istore [(8, .int (dv + ((chX (nI (lx fr (((y0 / 1) % 10) - 1) q q2))) + 50))), (7, .int (sv + 1)), (14, .int (nI q2)), (13, .int (if jU (lx fr (((y0 / 1) % 10) - 1)) (fi (((y0 / 1) % 10) - 1)) (fi fr) q then 1 else 0)), (12, .int (nI (((y0 / 1) % 10) - 1))), (11, .int 1), (10, .int (nI q)), (9, .int (nI fr)), (4, .int v), (3, .int (nI y0)), (0, .ref (G.1 + 88))] dX9_chain_254 (by decide) rfl ?_
                            refine aw_iload 2 dX9_chain_256 rfl ?_
                            refine aw_istore [(10, .int (nI q2)), (8, .int (dv + ((chX (nI (lx fr (((y0 / 1) % 10) - 1) q q2))) + 50))), (7, .int (sv + 1)), (14, .int (nI q2)), (13, .int (if jU (lx fr (((y0 / 1) % 10) - 1)) (fi (((y0 / 1) % 10) - 1)) (fi fr) q then 1 else 0)), (12, .int (nI (((y0 / 1) % 10) - 1))), (11, .int 1), (9, .int (nI fr)), (4, .int v), (3, .int (nI y0)), (0, .ref (G.1 + 88))] dX9_chain_258 (by decide) rfl ?_
                            refine aw_iload 5 dX9_chain_260 rfl ?_
                            refine aw_istore [(9, .int (nI (((y0 / 1) % 10) - 1))), (10, .int (nI q2)), (8, .int (dv + ((chX (nI (lx fr (((y0 / 1) % 10) - 1) q q2))) + 50))), (7, .int (sv + 1)), (14, .int (nI q2)), (13, .int (if jU (lx fr (((y0 / 1) % 10) - 1)) (fi (((y0 / 1) % 10) - 1)) (fi fr) q then 1 else 0)), (12, .int (nI (((y0 / 1) % 10) - 1))), (11, .int 1), (4, .int v), (3, .int (nI y0)), (0, .ref (G.1 + 88))] dX9_chain_262 (by decide) rfl ?_
                            refine aw_iload 7 dX9_chain_264 rfl ?_
                            refine aw_bipush (10) dX9_chain_266 (by decide) ?_
                            refine aw_idiv dX9_chain_268 (by decide) ?_
                            refine aw_toe 0 (by decide) ?_
                            refine aw_istore [(11, .int 0), (9, .int (nI (((y0 / 1) % 10) - 1))), (10, .int (nI q2)), (8, .int (dv + ((chX (nI (lx fr (((y0 / 1) % 10) - 1) q q2))) + 50))), (7, .int (sv + 1)), (14, .int (nI q2)), (13, .int (if jU (lx fr (((y0 / 1) % 10) - 1)) (fi (((y0 / 1) % 10) - 1)) (fi fr) q then 1 else 0)), (12, .int (nI (((y0 / 1) % 10) - 1))), (4, .int v), (3, .int (nI y0)), (0, .ref (G.1 + 88))] dX9_chain_269 (by decide) rfl ?_
                            refine aw_goto 170 dX9_chain_271 (by decide) ?_
                            refine aw_lv [(11, .int 0), (10, .int (nI q2)), (9, .int (nI (((y0 / 1) % 10) - 1))), (8, .int (dv + ((chX (nI (lx fr (((y0 / 1) % 10) - 1) q q2))) + 50))), (7, .int (sv + 1)), (4, .int v), (3, .int (nI y0)), (0, .ref (G.1 + 88))] [0, 2, 1, 3, 4, 8, 9, 10] rfl ?_
                            exact ih2262 0 (nI q2) (((y0 / 1) % 10) - 1) (dv + ((chX (nI (lx fr (((y0 / 1) % 10) - 1) q q2))) + 50)) (sv + 1) lk12263 su12264 jd12265 wy12266 _ (by omega) (by decide) (Or.inr ⟨_, bq2, bq2f, rfl⟩) (by omega) (p2274) (hcv.trans (chV_s (t := y0 / 1 % 10 - 1) (by omega) (by omega) (by show ¬ y0 / 1 % 10 = 0; omega) rfl hP (by rw [if_neg t243]))) f2276 f2277 f2278 f2279 f2280 f2281 f2282 f2283 f2284 f2285 f2286 f2269 f2270 f2271 f2272 (rg2_tr (k2261) (rg2_w k2273 (by decide)))
                          · have t243 := ite_1 c243
                            refine aw_iconst (0) dX9_chain_246 (by decide) ?_
                            refine aw_goto 252 dX9_chain_247 (by decide) ?_
                            refine aw_iadd dX9_chain_252 ?_
                            refine aw_iadd dX9_chain_253 ?_
                            refine aw_istore [(8, .int (dv + ((chX (nI (lx fr (((y0 / 1) % 10) - 1) q q2))) + 0))), (7, .int (sv + 1)), (14, .int (nI q2)), (13, .int (if jU (lx fr (((y0 / 1) % 10) - 1)) (fi (((y0 / 1) % 10) - 1)) (fi fr) q then 1 else 0)), (12, .int (nI (((y0 / 1) % 10) - 1))), (11, .int 1), (10, .int (nI q)), (9, .int (nI fr)), (4, .int v), (3, .int (nI y0)), (0, .ref (G.1 + 88))] dX9_chain_254 (by decide) rfl ?_
                            refine aw_iload 2 dX9_chain_256 rfl ?_
                            refine aw_istore [(10, .int (nI q2)), (8, .int (dv + ((chX (nI (lx fr (((y0 / 1) % 10) - 1) q q2))) + 0))), (7, .int (sv + 1)), (14, .int (nI q2)), (13, .int (if jU (lx fr (((y0 / 1) % 10) - 1)) (fi (((y0 / 1) % 10) - 1)) (fi fr) q then 1 else 0)), (12, .int (nI (((y0 / 1) % 10) - 1))), (11, .int 1), (9, .int (nI fr)), (4, .int v), (3, .int (nI y0)), (0, .ref (G.1 + 88))] dX9_chain_258 (by decide) rfl ?_
                            refine aw_iload 5 dX9_chain_260 rfl ?_
                            refine aw_istore [(9, .int (nI (((y0 / 1) % 10) - 1))), (10, .int (nI q2)), (8, .int (dv + ((chX (nI (lx fr (((y0 / 1) % 10) - 1) q q2))) + 0))), (7, .int (sv + 1)), (14, .int (nI q2)), (13, .int (if jU (lx fr (((y0 / 1) % 10) - 1)) (fi (((y0 / 1) % 10) - 1)) (fi fr) q then 1 else 0)), (12, .int (nI (((y0 / 1) % 10) - 1))), (11, .int 1), (4, .int v), (3, .int (nI y0)), (0, .ref (G.1 + 88))] dX9_chain_262 (by decide) rfl ?_
                            refine aw_iload 7 dX9_chain_264 rfl ?_
                            refine aw_bipush (10) dX9_chain_266 (by decide) ?_
                            refine aw_idiv dX9_chain_268 (by decide) ?_
                            refine aw_toe 0 (by decide) ?_
                            refine aw_istore [(11, .int 0), (9, .int (nI (((y0 / 1) % 10) - 1))), (10, .int (nI q2)), (8, .int (dv + ((chX (nI (lx fr (((y0 / 1) % 10) - 1) q q2))) + 0))), (7, .int (sv + 1)), (14, .int (nI q2)), (13, .int (if jU (lx fr (((y0 / 1) % 10) - 1)) (fi (((y0 / 1) % 10) - 1)) (fi fr) q then 1 else 0)), (12, .int (nI (((y0 / 1) % 10) - 1))), (4, .int v), (3, .int (nI y0)), (0, .ref (G.1 + 88))] dX9_chain_269 (by decide) rfl ?_
                            refine aw_goto 170 dX9_chain_271 (by decide) ?_
                            refine aw_lv [(11, .int 0), (10, .int (nI q2)), (9, .int (nI (((y0 / 1) % 10) - 1))), (8, .int (dv + ((chX (nI (lx fr (((y0 / 1) % 10) - 1) q q2))) + 0))), (7, .int (sv + 1)), (4, .int v), (3, .int (nI y0)), (0, .ref (G.1 + 88))] [0, 2, 1, 3, 4, 8, 9, 10] rfl ?_
                            exact ih2262 0 (nI q2) (((y0 / 1) % 10) - 1) (dv + ((chX (nI (lx fr (((y0 / 1) % 10) - 1) q q2))) + 0)) (sv + 1) lk12263 su12264 jd12265 wy12266 _ (by omega) (by decide) (Or.inr ⟨_, bq2, bq2f, rfl⟩) (by omega) (p2274) (hcv.trans (chV_s (t := y0 / 1 % 10 - 1) (by omega) (by omega) (by show ¬ y0 / 1 % 10 = 0; omega) rfl hP (by rw [if_pos t243]))) f2276 f2277 f2278 f2279 f2280 f2281 f2282 f2283 f2284 f2285 f2286 f2269 f2270 f2271 f2272 (rg2_tr (k2261) (rg2_w k2273 (by decide)))
                · have t123 := ite_0 c123
                  refine aw_aload_n 4 dX9_chain_126 rfl rfl ?_
                  refine aw_bipush (-2) dX9_chain_127 (by decide) ?_
                  refine aw_eV [.int (-2)] [] lX9_130 vX9_refuse mX9_refuse dX9_chain_129 (bX9_refuse (sp := sp) (fa := fa) (nb := nb) (ns := ns) (nm := nm) (nv := nv) (sh := sh) (ho := ho) (ow := ow) (sl := sl) (rg := rg) (x := (-2)) (q := 2) h88 h89 (by decide) (by decide)) h88 rfl rfl rfl (Nat.le_of_ble_eq_true rfl) (by decide) (by decide) rfl (fun h2289 q2288 => ?_)
                  obtain ⟨rg12287, f2290, k2291⟩ := q2288
                  have f2292 := rng_at k2291 (by decide) h88
                  have f2293 := rng_at k2291 (by decide) h90
                  have f2294 := rng_at k2291 (by decide) h91
                  have f2295 := rng_at k2291 (by decide) h93
                  have f2296 := rng_at k2291 (by decide) h94
                  have f2297 := rng_at k2291 (by decide) h95
                  have f2298 := rng_at k2291 (by decide) h96
                  have f2299 := rng_at k2291 (by decide) h97
                  have f2300 := rng_at k2291 (by decide) h98
                  have f2301 := rng_at k2291 (by decide) h92
                  have f2302 := rng_at k2291 (by decide) h99
                  have f2303 := rng_at k2291 (by decide) h100
                  have f2304 := rng_at k2291 (by decide) h101
                  have f2305 := rng_at k2291 (by decide) h102
                  subst hQF
                  exact aw_iret rfl dX9_chain_132 (by decide) (by decide) ⟨by rw [chA_2 hEW (by omega)], _, _, _, _, _, f2302, f2303, f2304, f2305, f2290, rg2_tr (rg2_rf 89 89 99 102 h) (rg2_w k2291 (by decide)), hjd⟩
              · have t89 := ite_1e c89
                refine aw_aload_n 4 dX9_chain_92 rfl rfl ?_
                refine aw_iconst (-1) dX9_chain_93 (by decide) ?_
                refine aw_eV [.int (-1)] [] lX9_130 vX9_refuse mX9_refuse dX9_chain_94 (bX9_refuse (sp := sp) (fa := fa) (nb := nb) (ns := ns) (nm := nm) (nv := nv) (sh := sh) (ho := ho) (ow := ow) (sl := sl) (rg := rg) (x := (-1)) (q := 1) h88 h89 (by decide) (by decide)) h88 rfl rfl rfl (Nat.le_of_ble_eq_true rfl) (by decide) (by decide) rfl (fun h2308 q2307 => ?_)
                obtain ⟨rg12306, f2309, k2310⟩ := q2307
                have f2311 := rng_at k2310 (by decide) h88
                have f2312 := rng_at k2310 (by decide) h90
                have f2313 := rng_at k2310 (by decide) h91
                have f2314 := rng_at k2310 (by decide) h93
                have f2315 := rng_at k2310 (by decide) h94
                have f2316 := rng_at k2310 (by decide) h95
                have f2317 := rng_at k2310 (by decide) h96
                have f2318 := rng_at k2310 (by decide) h97
                have f2319 := rng_at k2310 (by decide) h98
                have f2320 := rng_at k2310 (by decide) h92
                have f2321 := rng_at k2310 (by decide) h99
                have f2322 := rng_at k2310 (by decide) h100
                have f2323 := rng_at k2310 (by decide) h101
                have f2324 := rng_at k2310 (by decide) h102
                subst hQF
                exact aw_iret rfl dX9_chain_97 (by decide) (by decide) ⟨by rw [chA_1 (fun q9 => by have w9 := (wyO q9.2).2; rw [nn_a0, nn_y0, hw0.trans (wyG_n (by omega) (fun q9 => q9.2 t89))] at w9; exact absurd w9 (by decide))], _, _, _, _, _, f2321, f2322, f2323, f2324, f2309, rg2_tr (rg2_rf 89 89 99 102 h) (rg2_w k2310 (by decide)), hjd⟩
          · have d45 := mt (nv_le (a := y0) (b := 9) (rfl) (rfl) (by omega) (by omega)).mpr c45
            refine aw_iconst (2) dX9_chain_48 (by decide) ?_
            refine aw_goto 53 dX9_chain_49 (by decide) ?_
            refine aw_istore [(6, .int 2), (5, .int (nI (2 ^ a0))), (0, .ref (G.1 + 88)), (1, .int (nI a0)), (2, .int (nI i0)), (3, .int (nI y0)), (4, .int v)] dX9_chain_53 (by decide) rfl ?_
            refine aw_iload_n 5 dX9_chain_55 rfl rfl ?_
            refine aw_istore [(7, .int (nI y0)), (6, .int 2), (5, .int (nI (2 ^ a0))), (0, .ref (G.1 + 88)), (1, .int (nI a0)), (2, .int (nI i0)), (3, .int (nI y0)), (4, .int v)] dX9_chain_56 (by decide) rfl ?_
            refine aw_iload 0 dX9_chain_58 rfl ?_
            refine aw_if_le 117 dX9_chain_60 (by decide) (fun c60 => absurd c60 (by simp only [i_le, (nI_toInt (n := y0) (by omega)), (show (0 : Int32).toInt = 0 from rfl)] <;> omega)) (fun c60 => ?_)
            refine aw_iload 0 dX9_chain_63 rfl ?_
            refine aw_bipush (10) dX9_chain_65 (by decide) ?_
            refine aw_irem dX9_chain_67 (by decide) ?_
            refine aw_toe (nI (y0 % 10)) (nv_rem (rfl) (rfl) (by omega) (by decide) (by decide)) ?_
            refine aw_iconst (1) dX9_chain_68 (by decide) ?_
            refine aw_isub dX9_chain_69 ?_
            refine aw_istore [(8, .int ((nI (y0 % 10)) - 1)), (7, .int (nI y0)), (6, .int 2), (5, .int (nI (2 ^ a0))), (0, .ref (G.1 + 88)), (1, .int (nI a0)), (2, .int (nI i0)), (3, .int (nI y0)), (4, .int v)] dX9_chain_70 (by decide) rfl ?_
            refine aw_iload 0 dX9_chain_72 rfl ?_
            refine aw_iconst (4) dX9_chain_74 (by decide) ?_
            refine aw_dS [.int ((nI (y0 % 10)) - 1), .int 4] [] lX9_126 sX9_isIn mX9_isIn dX9_chain_75 (bX9_isIn (x := (nI (y0 % 10)) - 1) (n := 4) (by omega)) rfl (Nat.le_of_ble_eq_true rfl) (by decide) (by decide) rfl ?_
            refine aw_if_eq 92 dX9_chain_78 (by decide) (fun c78 => ?_) (fun c78 => ?_)
            · have t78 := ite_0 c78
              refine aw_aload_n 4 dX9_chain_92 rfl rfl ?_
              refine aw_iconst (-1) dX9_chain_93 (by decide) ?_
              refine aw_eV [.int (-1)] [] lX9_130 vX9_refuse mX9_refuse dX9_chain_94 (bX9_refuse (sp := sp) (fa := fa) (nb := nb) (ns := ns) (nm := nm) (nv := nv) (sh := sh) (ho := ho) (ow := ow) (sl := sl) (rg := rg) (x := (-1)) (q := 1) h88 h89 (by decide) (by decide)) h88 rfl rfl rfl (Nat.le_of_ble_eq_true rfl) (by decide) (by decide) rfl (fun h2327 q2326 => ?_)
              obtain ⟨rg12325, f2328, k2329⟩ := q2326
              have f2330 := rng_at k2329 (by decide) h88
              have f2331 := rng_at k2329 (by decide) h90
              have f2332 := rng_at k2329 (by decide) h91
              have f2333 := rng_at k2329 (by decide) h93
              have f2334 := rng_at k2329 (by decide) h94
              have f2335 := rng_at k2329 (by decide) h95
              have f2336 := rng_at k2329 (by decide) h96
              have f2337 := rng_at k2329 (by decide) h97
              have f2338 := rng_at k2329 (by decide) h98
              have f2339 := rng_at k2329 (by decide) h92
              have f2340 := rng_at k2329 (by decide) h99
              have f2341 := rng_at k2329 (by decide) h100
              have f2342 := rng_at k2329 (by decide) h101
              have f2343 := rng_at k2329 (by decide) h102
              subst hQF
              exact aw_iret rfl dX9_chain_97 (by decide) (by decide) ⟨by rw [chA_1 (fun q9 => by have w9 := (wyO q9.2).2; rw [nn_a0, nn_y0, hw0.trans (wyG_n (by omega) (fun q9 => t78 (by rw [dig_i (by omega)]; omega)))] at w9; exact absurd w9 (by decide))], _, _, _, _, _, f2340, f2341, f2342, f2343, f2328, rg2_tr (rg2_rf 89 89 99 102 h) (rg2_w k2329 (by decide)), hjd⟩
            · have t78 := ite_1 c78
              have g0 : 1 ≤ y0 % 10 ∧ y0 % 10 ≤ 4 := by rw [dig_i (by omega)] at t78; omega
              rw [dig_e g0.1]
              refine aw_iload 3 dX9_chain_81 rfl ?_
              refine aw_iload 0 dX9_chain_83 rfl ?_
              refine aw_ishr dX9_chain_85 ?_
              refine aw_iconst (1) dX9_chain_86 (by decide) ?_
              refine aw_iand dX9_chain_87 ?_
              refine aw_toe (if (2 ^ a0).testBit (y0 % 10 - 1) = true then 1 else 0) (nv_bit (rfl) (rfl) (by omega) (by omega)) ?_
              refine aw_iconst (1) dX9_chain_88 (by decide) ?_
              refine aw_icmp_ne 98 dX9_chain_89 (by decide) (fun c89 => ?_) (fun c89 => ?_)
              · have t89 := ite_0e c89
                have w1 := or_16 (a := 2 ^ a0) (b := y0 % 10 - 1) (by omega) (by omega)
                have hw1 := hw0.trans (wyG_y (by omega) g0 t89)
                refine aw_iload 3 dX9_chain_98 rfl ?_
                refine aw_iconst (1) dX9_chain_100 (by decide) ?_
                refine aw_iload 0 dX9_chain_101 rfl ?_
                refine aw_ishl dX9_chain_103 ?_
                refine aw_toe (nI (2 ^ (y0 % 10 - 1))) (nv_shl1 (rfl) (by omega)) ?_
                refine aw_ior dX9_chain_104 ?_
                refine aw_toe (nI ((2 ^ a0) ||| (2 ^ (y0 % 10 - 1)))) (nv_or (rfl) (rfl)) ?_
                refine aw_istore [(5, .int (nI ((2 ^ a0) ||| (2 ^ (y0 % 10 - 1))))), (8, .int (nI (y0 % 10 - 1))), (7, .int (nI y0)), (6, .int 2), (0, .ref (G.1 + 88)), (1, .int (nI a0)), (2, .int (nI i0)), (3, .int (nI y0)), (4, .int v)] dX9_chain_105 (by decide) rfl ?_
                refine aw_iload 2 dX9_chain_107 rfl ?_
                refine aw_bipush (10) dX9_chain_109 (by decide) ?_
                refine aw_idiv dX9_chain_111 (by decide) ?_
                refine aw_toe (nI (y0 / 10)) (nv_div (rfl) (rfl) (by omega) (by decide) (by decide)) ?_
                refine aw_istore [(7, .int (nI (y0 / 10))), (5, .int (nI ((2 ^ a0) ||| (2 ^ (y0 % 10 - 1))))), (8, .int (nI (y0 % 10 - 1))), (6, .int 2), (0, .ref (G.1 + 88)), (1, .int (nI a0)), (2, .int (nI i0)), (3, .int (nI y0)), (4, .int v)] dX9_chain_112 (by decide) rfl ?_
                refine aw_goto 58 dX9_chain_114 (by decide) ?_
                refine aw_iload 0 dX9_chain_58 rfl ?_
                refine aw_if_le 117 dX9_chain_60 (by decide) (fun c60 => absurd c60 (by simp only [i_le, (nI_toInt (n := y0 / 10) (by omega)), (show (0 : Int32).toInt = 0 from rfl)] <;> omega)) (fun c60 => ?_)
                refine aw_iload 0 dX9_chain_63 rfl ?_
                refine aw_bipush (10) dX9_chain_65 (by decide) ?_
                refine aw_irem dX9_chain_67 (by decide) ?_
                refine aw_toe (nI ((y0 / 10) % 10)) (nv_rem (rfl) (rfl) (by omega) (by decide) (by decide)) ?_
                refine aw_iconst (1) dX9_chain_68 (by decide) ?_
                refine aw_isub dX9_chain_69 ?_
                refine aw_istore [(8, .int ((nI ((y0 / 10) % 10)) - 1)), (7, .int (nI (y0 / 10))), (5, .int (nI ((2 ^ a0) ||| (2 ^ (y0 % 10 - 1))))), (6, .int 2), (0, .ref (G.1 + 88)), (1, .int (nI a0)), (2, .int (nI i0)), (3, .int (nI y0)), (4, .int v)] dX9_chain_70 (by decide) rfl ?_
                refine aw_iload 0 dX9_chain_72 rfl ?_
                refine aw_iconst (4) dX9_chain_74 (by decide) ?_
                refine aw_dS [.int ((nI ((y0 / 10) % 10)) - 1), .int 4] [] lX9_126 sX9_isIn mX9_isIn dX9_chain_75 (bX9_isIn (x := (nI ((y0 / 10) % 10)) - 1) (n := 4) (by omega)) rfl (Nat.le_of_ble_eq_true rfl) (by decide) (by decide) rfl ?_
                refine aw_if_eq 92 dX9_chain_78 (by decide) (fun c78 => ?_) (fun c78 => ?_)
                · have t78 := ite_0 c78
                  refine aw_aload_n 4 dX9_chain_92 rfl rfl ?_
                  refine aw_iconst (-1) dX9_chain_93 (by decide) ?_
                  refine aw_eV [.int (-1)] [] lX9_130 vX9_refuse mX9_refuse dX9_chain_94 (bX9_refuse (sp := sp) (fa := fa) (nb := nb) (ns := ns) (nm := nm) (nv := nv) (sh := sh) (ho := ho) (ow := ow) (sl := sl) (rg := rg) (x := (-1)) (q := 1) h88 h89 (by decide) (by decide)) h88 rfl rfl rfl (Nat.le_of_ble_eq_true rfl) (by decide) (by decide) rfl (fun h2346 q2345 => ?_)
                  obtain ⟨rg12344, f2347, k2348⟩ := q2345
                  have f2349 := rng_at k2348 (by decide) h88
                  have f2350 := rng_at k2348 (by decide) h90
                  have f2351 := rng_at k2348 (by decide) h91
                  have f2352 := rng_at k2348 (by decide) h93
                  have f2353 := rng_at k2348 (by decide) h94
                  have f2354 := rng_at k2348 (by decide) h95
                  have f2355 := rng_at k2348 (by decide) h96
                  have f2356 := rng_at k2348 (by decide) h97
                  have f2357 := rng_at k2348 (by decide) h98
                  have f2358 := rng_at k2348 (by decide) h92
                  have f2359 := rng_at k2348 (by decide) h99
                  have f2360 := rng_at k2348 (by decide) h100
                  have f2361 := rng_at k2348 (by decide) h101
                  have f2362 := rng_at k2348 (by decide) h102
                  subst hQF
                  exact aw_iret rfl dX9_chain_97 (by decide) (by decide) ⟨by rw [chA_1 (fun q9 => by have w9 := (wyO q9.2).2; rw [nn_a0, nn_y0, hw1.trans (wyG_n (by omega) (fun q9 => t78 (by rw [dig_i (by omega)]; omega)))] at w9; exact absurd w9 (by decide))], _, _, _, _, _, f2359, f2360, f2361, f2362, f2347, rg2_tr (rg2_rf 89 89 99 102 h) (rg2_w k2348 (by decide)), hjd⟩
                · have t78 := ite_1 c78
                  have g1 : 1 ≤ (y0 / 10) % 10 ∧ (y0 / 10) % 10 ≤ 4 := by rw [dig_i (by omega)] at t78; omega
                  rw [dig_e g1.1]
                  refine aw_iload 2 dX9_chain_81 rfl ?_
                  refine aw_iload 0 dX9_chain_83 rfl ?_
                  refine aw_ishr dX9_chain_85 ?_
                  refine aw_iconst (1) dX9_chain_86 (by decide) ?_
                  refine aw_iand dX9_chain_87 ?_
                  refine aw_toe (if ((2 ^ a0) ||| (2 ^ (y0 % 10 - 1))).testBit ((y0 / 10) % 10 - 1) = true then 1 else 0) (nv_bit (rfl) (rfl) (by omega) (by omega)) ?_
                  refine aw_iconst (1) dX9_chain_88 (by decide) ?_
                  refine aw_icmp_ne 98 dX9_chain_89 (by decide) (fun c89 => ?_) (fun c89 => ?_)
                  · have t89 := ite_0e c89
                    have w2 := or_16 (a := (2 ^ a0) ||| (2 ^ (y0 % 10 - 1))) (b := (y0 / 10) % 10 - 1) (by omega) (by omega)
                    have hw2 := hw1.trans (wyG_y (by omega) g1 t89)
                    refine aw_iload 2 dX9_chain_98 rfl ?_
                    refine aw_iconst (1) dX9_chain_100 (by decide) ?_
                    refine aw_iload 0 dX9_chain_101 rfl ?_
                    refine aw_ishl dX9_chain_103 ?_
                    refine aw_toe (nI (2 ^ ((y0 / 10) % 10 - 1))) (nv_shl1 (rfl) (by omega)) ?_
                    refine aw_ior dX9_chain_104 ?_
                    refine aw_toe (nI (((2 ^ a0) ||| (2 ^ (y0 % 10 - 1))) ||| (2 ^ ((y0 / 10) % 10 - 1)))) (nv_or (rfl) (rfl)) ?_
                    refine aw_istore [(5, .int (nI (((2 ^ a0) ||| (2 ^ (y0 % 10 - 1))) ||| (2 ^ ((y0 / 10) % 10 - 1))))), (8, .int (nI ((y0 / 10) % 10 - 1))), (7, .int (nI (y0 / 10))), (6, .int 2), (0, .ref (G.1 + 88)), (1, .int (nI a0)), (2, .int (nI i0)), (3, .int (nI y0)), (4, .int v)] dX9_chain_105 (by decide) rfl ?_
                    refine aw_iload 2 dX9_chain_107 rfl ?_
                    refine aw_bipush (10) dX9_chain_109 (by decide) ?_
                    refine aw_idiv dX9_chain_111 (by decide) ?_
                    refine aw_toe (nI ((y0 / 10) / 10)) (nv_div (rfl) (rfl) (by omega) (by decide) (by decide)) ?_
                    refine aw_istore [(7, .int (nI ((y0 / 10) / 10))), (5, .int (nI (((2 ^ a0) ||| (2 ^ (y0 % 10 - 1))) ||| (2 ^ ((y0 / 10) % 10 - 1))))), (8, .int (nI ((y0 / 10) % 10 - 1))), (6, .int 2), (0, .ref (G.1 + 88)), (1, .int (nI a0)), (2, .int (nI i0)), (3, .int (nI y0)), (4, .int v)] dX9_chain_112 (by decide) rfl ?_
                    refine aw_goto 58 dX9_chain_114 (by decide) ?_
                    refine aw_iload 0 dX9_chain_58 rfl ?_
                    refine aw_if_le 117 dX9_chain_60 (by decide) (fun c60 => ?_) (fun c60 => absurd (by simp only [i_le, (nI_toInt (n := (y0 / 10) / 10) (by omega)), (show (0 : Int32).toInt = 0 from rfl)] <;> omega) c60)
                    have hwy : wyF a0 (nI y0) = true := wyI ⟨by omega, by rw [nn_y0, hw2, show (y0 / 10) / 10 = 0 by omega]; exact wyG_0⟩
                    have hEW : ((0 ≤ (nI a0).toInt ∧ (nI a0).toInt < 4) ∧ 0 ≤ (nI i0).toInt ∧ (nI i0).toInt < (fi (tn (nI a0)) : Int)) ∧ wyF (tn (nI a0)) (nI y0) = true := ⟨by rw [nn_a0]; omega, by rw [nn_a0]; exact hwy⟩
                    refine aw_iload 8 dX9_chain_117 rfl ?_
                    refine aw_iconst (3) dX9_chain_119 (by decide) ?_
                    refine aw_dS [.int v, .int 3] [] lX9_126 sX9_isIn mX9_isIn dX9_chain_120 (bX9_isIn (x := v) (n := 3) (by omega)) rfl (Nat.le_of_ble_eq_true rfl) (by decide) (by decide) rfl ?_
                    refine aw_if_ne 133 dX9_chain_123 (by decide) (fun c123 => ?_) (fun c123 => ?_)
                    · have t123 := ite_1 c123
                      refine aw_iconst (0) dX9_chain_133 (by decide) ?_
                      refine aw_istore [(7, .int 0), (5, .int (nI (((2 ^ a0) ||| (2 ^ (y0 % 10 - 1))) ||| (2 ^ ((y0 / 10) % 10 - 1))))), (8, .int (nI ((y0 / 10) % 10 - 1))), (6, .int 2), (0, .ref (G.1 + 88)), (1, .int (nI a0)), (2, .int (nI i0)), (3, .int (nI y0)), (4, .int v)] dX9_chain_134 (by decide) rfl ?_
                      refine aw_iconst (0) dX9_chain_136 (by decide) ?_
                      refine aw_istore [(8, .int 0), (7, .int 0), (5, .int (nI (((2 ^ a0) ||| (2 ^ (y0 % 10 - 1))) ||| (2 ^ ((y0 / 10) % 10 - 1))))), (6, .int 2), (0, .ref (G.1 + 88)), (1, .int (nI a0)), (2, .int (nI i0)), (3, .int (nI y0)), (4, .int v)] dX9_chain_137 (by decide) rfl ?_
                      refine aw_iload_n 5 dX9_chain_139 rfl rfl ?_
                      refine aw_istore [(9, .int (nI a0)), (8, .int 0), (7, .int 0), (5, .int (nI (((2 ^ a0) ||| (2 ^ (y0 % 10 - 1))) ||| (2 ^ ((y0 / 10) % 10 - 1))))), (6, .int 2), (0, .ref (G.1 + 88)), (1, .int (nI a0)), (2, .int (nI i0)), (3, .int (nI y0)), (4, .int v)] dX9_chain_140 (by decide) rfl ?_
                      refine aw_iload_n 7 dX9_chain_142 rfl rfl ?_
                      refine aw_istore [(10, .int (nI i0)), (9, .int (nI a0)), (8, .int 0), (7, .int 0), (5, .int (nI (((2 ^ a0) ||| (2 ^ (y0 % 10 - 1))) ||| (2 ^ ((y0 / 10) % 10 - 1))))), (6, .int 2), (0, .ref (G.1 + 88)), (1, .int (nI a0)), (2, .int (nI i0)), (3, .int (nI y0)), (4, .int v)] dX9_chain_143 (by decide) rfl ?_
                      refine aw_iload 5 dX9_chain_145 rfl ?_
                      refine aw_iconst (3) dX9_chain_147 (by decide) ?_
                      refine aw_icmp_ne 156 dX9_chain_148 (by decide) (fun c148 => ?_) (fun c148 => absurd c148 (by decide))
                      refine aw_iload 5 dX9_chain_156 rfl ?_
                      refine aw_iconst (2) dX9_chain_158 (by decide) ?_
                      refine aw_icmp_ne 167 dX9_chain_159 (by decide) (fun c159 => absurd (by decide) c159) (fun c159 => ?_)
                      refine aw_bipush (10) dX9_chain_162 (by decide) ?_
                      refine aw_goto 168 dX9_chain_164 (by decide) ?_
                      refine aw_istore [(11, .int 10), (10, .int (nI i0)), (9, .int (nI a0)), (8, .int 0), (7, .int 0), (5, .int (nI (((2 ^ a0) ||| (2 ^ (y0 % 10 - 1))) ||| (2 ^ ((y0 / 10) % 10 - 1))))), (6, .int 2), (0, .ref (G.1 + 88)), (1, .int (nI a0)), (2, .int (nI i0)), (3, .int (nI y0)), (4, .int v)] dX9_chain_168 (by decide) rfl ?_
                      refine aw_lv [(11, .int 10), (10, .int (nI i0)), (9, .int (nI a0)), (8, .int 0), (7, .int 0), (4, .int v), (3, .int (nI y0)), (0, .ref (G.1 + 88))] [0, 1, 2, 3, 4, 11, 10, 7] rfl ?_
                      suffices L2380 : ∀ (mm : Nat) (x : Nat) (ev : Int32) (fr : Nat) (dv : Int32) (sv : Int32) (lk1 : Nat → Int32) (su1 : Nat → Int32) (jd1 : Nat → Int32) (wy1 : Nat → Int32) (h2363 : List va_E), x < mm → (x = 0 ∨ x = 1 ∨ x = 2) → (ev = -9 ∨ ∃ q, q < 10 ∧ q < fi fr ∧ ev = nI q) → (fr < 4) → (pB jd1) → (chV lx fi y0 3 a0 (nI i0) 0 0 = chV lx fi y0 x fr ev sv dv) → h2363[88]? = some (oB 9 (lM G (nI sp) (nI fa) (nI nb) (nI ns) (nI nm) ho ow sl (nI nv) (nI sh))) → h2363[89]? = some (aI 7 rg) → h2363[90]? = some (aI 20 (nA m)) → h2363[91]? = some (aI 4 (nA ye)) → h2363[93]? = some (aI 40 W) → h2363[94]? = some (aI 40 Z) → h2363[95]? = some (aI 40 Ro) → h2363[96]? = some (aI 40 Co) → h2363[97]? = some (aI 30 (nA b1)) → h2363[98]? = some (aI 30 (nA b2)) → h2363[92]? = some (aI 4 (nA fi)) → h2363[99]? = some (aI 100 lk1) → h2363[100]? = some (aI 11264 su1) → h2363[101]? = some (aI 10 jd1) → h2363[102]? = some (aI 11264 wy1) → rg2 89 89 99 102 h h2363 → AW l G yX9_chain cX9_chain 15 (some .int) (xR 6 0 0) (fun _ _ => True) QF 0 0 170 [(11, .int (nI (p10 x))), (10, .int ev), (9, .int (nI fr)), (8, .int dv), (7, .int sv), (4, .int v), (3, .int (nI y0)), (0, .ref (G.1 + 88))] [] h2363 from L2380 (2 + 1) 2 (nI i0) a0 0 0 lk su jd wy _ (Nat.lt_succ_self _) (by decide) (Or.inr ⟨_, by omega, by omega, rfl⟩) (by omega) (hjd) (chV_32 (by omega) (by omega)) h88 h89 h90 h91 h93 h94 h95 h96 h97 h98 h92 h99 h100 h101 h102 (rg2_rf 89 89 99 102 h)
                      intro mm
                      induction mm with
                      | zero =>
                        intro x ev fr dv sv lk1 su1 jd1 wy1 h2363 hmm hx he bfr hp hcv f2364 f2365 f2366 f2367 f2368 f2369 f2370 f2371 f2372 f2373 f2374 f2375 f2376 f2377 f2378 k2379
                        exact absurd hmm (Nat.not_lt_zero _)
                      | succ mm ih2380 =>
                        intro x ev fr dv sv lk1 su1 jd1 wy1 h2363 hmm hx he bfr hp hcv f2364 f2365 f2366 f2367 f2368 f2369 f2370 f2371 f2372 f2373 f2374 f2375 f2376 f2377 f2378 k2379
                        rcases hx with rfl | rfl | rfl
                        · refine aw_lv [(11, .int 0), (10, .int ev), (9, .int (nI fr)), (8, .int dv), (7, .int sv), (4, .int v), (3, .int (nI y0)), (0, .ref (G.1 + 88))] [0, 1, 2, 3, 4, 5, 6, 7] rfl ?_
                          refine aw_iload 0 dX9_chain_170 rfl ?_
                          refine aw_if_le 274 dX9_chain_172 (by decide) (fun c172 => ?_) (fun c172 => absurd (by decide) c172)
                          refine aw_iload 5 dX9_chain_274 rfl ?_
                          refine aw_if_ne 284 dX9_chain_276 (by decide) (fun c276 => ?_) (fun c276 => ?_)
                          · have d276 := mt (j_eq (a := v.toInt) (b := (0)) (rfl) (rfl)).mpr c276
                            refine aw_iload 5 dX9_chain_284 rfl ?_
                            refine aw_iconst (1) dX9_chain_286 (by decide) ?_
                            refine aw_icmp_ne 295 dX9_chain_287 (by decide) (fun c287 => ?_) (fun c287 => ?_)
                            · have d287 := mt (j_eq (a := v.toInt) (b := (1)) (rfl) (rfl)).mpr c287
                              refine aw_iload 3 dX9_chain_295 rfl ?_
                              subst hQF
                              exact aw_iret rfl dX9_chain_297 (by decide) (by decide) ⟨by rw [chA_y hEW (by omega), nn_y0, nn_a0, hcv, chV_z, chR_2 c276 c287], _, _, _, _, _, f2375, f2376, f2377, f2378, f2365, k2379, hp⟩
                            · have d287 := (j_eq (a := v.toInt) (b := (1)) (rfl) (rfl)).mp c287
                              refine aw_iload 4 dX9_chain_290 rfl ?_
                              refine aw_goto 297 dX9_chain_292 (by decide) ?_
                              subst hQF
                              exact aw_iret rfl dX9_chain_297 (by decide) (by decide) ⟨by rw [chA_y hEW (by omega), nn_y0, nn_a0, hcv, chV_z, chR_1 c276 c287], _, _, _, _, _, f2375, f2376, f2377, f2378, f2365, k2379, hp⟩
                          · have d276 := (j_eq (a := v.toInt) (b := (0)) (rfl) (rfl)).mp c276
                            refine aw_iload 1 dX9_chain_279 rfl ?_
                            refine aw_goto 297 dX9_chain_281 (by decide) ?_
                            subst hQF
                            exact aw_iret rfl dX9_chain_297 (by decide) (by decide) ⟨by rw [chA_y hEW (by omega), nn_y0, nn_a0, hcv, chV_z, chR_0 c276], _, _, _, _, _, f2375, f2376, f2377, f2378, f2365, k2379, hp⟩
                        · refine aw_lv [(11, .int 1), (10, .int ev), (9, .int (nI fr)), (8, .int dv), (7, .int sv), (4, .int v), (3, .int (nI y0)), (0, .ref (G.1 + 88))] [0, 1, 2, 3, 4, 5, 6, 7] rfl ?_
                          refine aw_iload 0 dX9_chain_170 rfl ?_
                          refine aw_if_le 274 dX9_chain_172 (by decide) (fun c172 => absurd c172 (by decide)) (fun c172 => ?_)
                          refine aw_iload 1 dX9_chain_175 rfl ?_
                          refine aw_if_lt 274 dX9_chain_177 (by decide) (fun c177 => ?_) (fun c177 => ?_)
                          · have d177 := (j_lt (a := ev.toInt) (b := (0)) (rfl) (rfl)).mp c177
                            refine aw_iload 5 dX9_chain_274 rfl ?_
                            refine aw_if_ne 284 dX9_chain_276 (by decide) (fun c276 => ?_) (fun c276 => ?_)
                            · have d276 := mt (j_eq (a := v.toInt) (b := (0)) (rfl) (rfl)).mpr c276
                              refine aw_iload 5 dX9_chain_284 rfl ?_
                              refine aw_iconst (1) dX9_chain_286 (by decide) ?_
                              refine aw_icmp_ne 295 dX9_chain_287 (by decide) (fun c287 => ?_) (fun c287 => ?_)
                              · have d287 := mt (j_eq (a := v.toInt) (b := (1)) (rfl) (rfl)).mpr c287
                                refine aw_iload 3 dX9_chain_295 rfl ?_
                                subst hQF
                                have e9 : ev = -9 := he.elim id (fun ⟨q9, h9, _, e⟩ => by exfalso; rw [e, nI_toInt (by omega)] at d177; omega)
                                exact aw_iret rfl dX9_chain_297 (by decide) (by decide) ⟨by rw [chA_y hEW (by omega), nn_y0, nn_a0, hcv, e9, chV_9, chR_2 c276 c287], _, _, _, _, _, f2375, f2376, f2377, f2378, f2365, k2379, hp⟩
                              · have d287 := (j_eq (a := v.toInt) (b := (1)) (rfl) (rfl)).mp c287
                                refine aw_iload 4 dX9_chain_290 rfl ?_
                                refine aw_goto 297 dX9_chain_292 (by decide) ?_
                                subst hQF
                                have e9 : ev = -9 := he.elim id (fun ⟨q9, h9, _, e⟩ => by exfalso; rw [e, nI_toInt (by omega)] at d177; omega)
                                exact aw_iret rfl dX9_chain_297 (by decide) (by decide) ⟨by rw [chA_y hEW (by omega), nn_y0, nn_a0, hcv, e9, chV_9, chR_1 c276 c287], _, _, _, _, _, f2375, f2376, f2377, f2378, f2365, k2379, hp⟩
                            · have d276 := (j_eq (a := v.toInt) (b := (0)) (rfl) (rfl)).mp c276
                              refine aw_iload 1 dX9_chain_279 rfl ?_
                              refine aw_goto 297 dX9_chain_281 (by decide) ?_
                              subst hQF
                              have e9 : ev = -9 := he.elim id (fun ⟨q9, h9, _, e⟩ => by exfalso; rw [e, nI_toInt (by omega)] at d177; omega)
                              exact aw_iret rfl dX9_chain_297 (by decide) (by decide) ⟨by rw [chA_y hEW (by omega), nn_y0, nn_a0, hcv, e9, chV_9, chR_0 c276], _, _, _, _, _, f2375, f2376, f2377, f2378, f2365, k2379, hp⟩
                          · have d177 := mt (j_lt (a := ev.toInt) (b := (0)) (rfl) (rfl)).mpr c177
                            obtain ⟨q, bq, bqf, rfl⟩ := he.resolve_left (fun e => by rw [e] at d177; exact d177 (by decide))
                            refine aw_iload_n 6 dX9_chain_180 rfl rfl ?_
                            refine aw_iload 0 dX9_chain_181 rfl ?_
                            refine aw_idiv dX9_chain_183 (by decide) ?_
                            refine aw_toe (nI (y0 / 1)) (nv_div (rfl) (rfl) (by omega) (by decide) (by decide)) ?_
                            refine aw_bipush (10) dX9_chain_184 (by decide) ?_
                            refine aw_irem dX9_chain_186 (by decide) ?_
                            refine aw_toe (nI ((y0 / 1) % 10)) (nv_rem (rfl) (rfl) (by omega) (by decide) (by decide)) ?_
                            refine aw_iconst (1) dX9_chain_187 (by decide) ?_
                            refine aw_isub dX9_chain_188 ?_
                            refine aw_toe (nI (((y0 / 1) % 10) - 1)) (nv_sub (rfl) (rfl) (by omega)) ?_
                            refine aw_istore [(12, .int (nI (((y0 / 1) % 10) - 1))), (11, .int 1), (10, .int (nI q)), (9, .int (nI fr)), (8, .int dv), (7, .int sv), (4, .int v), (3, .int (nI y0)), (0, .ref (G.1 + 88))] dX9_chain_189 (by decide) rfl ?_
                            refine aw_aload_n 8 dX9_chain_191 rfl rfl ?_
                            refine aw_iload 3 dX9_chain_192 rfl ?_
                            refine aw_iload 2 dX9_chain_194 rfl ?_
                            refine aw_iload 0 dX9_chain_196 rfl ?_
                            refine aw_eV [.int (nI fr), .int (nI q), .int (nI (((y0 / 1) % 10) - 1))] [] lX9_190 vX9_isSure mX9_isSure dX9_chain_198 (bX9_isSure (sp := sp) (fa := fa) (nb := nb) (ns := ns) (nm := nm) (nv := nv) (sh := sh) (ho := ho) (ow := ow) (sl := sl) (m := m) (ye := ye) (b1 := b1) (b2 := b2) (W := W) (Z := Z) (Ro := Ro) (Co := Co) (fi := fi) (lk := lk1) (su := su1) (jd := jd1) (wy := wy1) (a := fr) (b := ((y0 / 1) % 10) - 1) (i := q) (lx := lx fr (((y0 / 1) % 10) - 1)) f2364 f2366 f2367 f2368 f2369 f2370 f2371 f2372 f2373 f2374 f2375 f2376 f2377 f2378 hm hye (by omega) bb1 bb2 (by omega) (by omega) hfi (by omega) (by omega) (by omega) (by omega) (by omega) (hlx fr (by omega) (((y0 / 1) % 10) - 1) (by omega)) (hlx3 fr (((y0 / 1) % 10) - 1))) f2364 rfl rfl rfl (Nat.le_of_ble_eq_true rfl) (by decide) (by decide) rfl (fun h2386 q2385 => ?_)
                            obtain ⟨lk12381, su12382, jd12383, wy12384, f2387, f2388, f2389, f2390, k2391, p2392, p2393⟩ := q2385
                            have f2394 := rng_at k2391 (by decide) f2364
                            have f2395 := rng_at k2391 (by decide) f2365
                            have f2396 := rng_at k2391 (by decide) f2366
                            have f2397 := rng_at k2391 (by decide) f2367
                            have f2398 := rng_at k2391 (by decide) f2368
                            have f2399 := rng_at k2391 (by decide) f2369
                            have f2400 := rng_at k2391 (by decide) f2370
                            have f2401 := rng_at k2391 (by decide) f2371
                            have f2402 := rng_at k2391 (by decide) f2372
                            have f2403 := rng_at k2391 (by decide) f2373
                            have f2404 := rng_at k2391 (by decide) f2374
                            refine aw_istore [(13, .int (if jU (lx fr (((y0 / 1) % 10) - 1)) (fi (((y0 / 1) % 10) - 1)) (fi fr) q then 1 else 0)), (12, .int (nI (((y0 / 1) % 10) - 1))), (11, .int 1), (10, .int (nI q)), (9, .int (nI fr)), (8, .int dv), (7, .int sv), (4, .int v), (3, .int (nI y0)), (0, .ref (G.1 + 88))] dX9_chain_201 (by decide) rfl ?_
                            refine aw_aload_n 9 dX9_chain_203 rfl rfl ?_
                            refine aw_get fX9_53 dX9_chain_204 f2394 rfl ?_
                            refine aw_iload 3 dX9_chain_207 rfl ?_
                            refine aw_iald q (rfl) (by omega) (by decide) dX9_chain_209 f2389 ?_
                            refine aw_istore [(14, .int (jd12383 q)), (13, .int (if jU (lx fr (((y0 / 1) % 10) - 1)) (fi (((y0 / 1) % 10) - 1)) (fi fr) q then 1 else 0)), (12, .int (nI (((y0 / 1) % 10) - 1))), (11, .int 1), (10, .int (nI q)), (9, .int (nI fr)), (8, .int dv), (7, .int sv), (4, .int v), (3, .int (nI y0)), (0, .ref (G.1 + 88))] dX9_chain_210 (by decide) rfl ?_
                            refine aw_iload 0 dX9_chain_212 rfl ?_
                            refine aw_if_lt 256 dX9_chain_214 (by decide) (fun c214 => ?_) (fun c214 => ?_)
                            · have d214 := (j_lt (a := (jd12383 q).toInt) (b := (0)) (rfl) (rfl)).mp c214
                              refine aw_iload 0 dX9_chain_256 rfl ?_
                              refine aw_istore [(10, .int (jd12383 q)), (14, .int (jd12383 q)), (13, .int (if jU (lx fr (((y0 / 1) % 10) - 1)) (fi (((y0 / 1) % 10) - 1)) (fi fr) q then 1 else 0)), (12, .int (nI (((y0 / 1) % 10) - 1))), (11, .int 1), (9, .int (nI fr)), (8, .int dv), (7, .int sv), (4, .int v), (3, .int (nI y0)), (0, .ref (G.1 + 88))] dX9_chain_258 (by decide) rfl ?_
                              refine aw_iload 3 dX9_chain_260 rfl ?_
                              refine aw_istore [(9, .int (nI (((y0 / 1) % 10) - 1))), (10, .int (jd12383 q)), (14, .int (jd12383 q)), (13, .int (if jU (lx fr (((y0 / 1) % 10) - 1)) (fi (((y0 / 1) % 10) - 1)) (fi fr) q then 1 else 0)), (12, .int (nI (((y0 / 1) % 10) - 1))), (11, .int 1), (8, .int dv), (7, .int sv), (4, .int v), (3, .int (nI y0)), (0, .ref (G.1 + 88))] dX9_chain_262 (by decide) rfl ?_
                              refine aw_iload 5 dX9_chain_264 rfl ?_
                              refine aw_bipush (10) dX9_chain_266 (by decide) ?_
                              refine aw_idiv dX9_chain_268 (by decide) ?_
                              refine aw_toe 0 (by decide) ?_
                              refine aw_istore [(11, .int 0), (9, .int (nI (((y0 / 1) % 10) - 1))), (10, .int (jd12383 q)), (14, .int (jd12383 q)), (13, .int (if jU (lx fr (((y0 / 1) % 10) - 1)) (fi (((y0 / 1) % 10) - 1)) (fi fr) q then 1 else 0)), (12, .int (nI (((y0 / 1) % 10) - 1))), (8, .int dv), (7, .int sv), (4, .int v), (3, .int (nI y0)), (0, .ref (G.1 + 88))] dX9_chain_269 (by decide) rfl ?_
                              refine aw_goto 170 dX9_chain_271 (by decide) ?_
                              refine aw_lv [(11, .int 0), (10, .int (jd12383 q)), (9, .int (nI (((y0 / 1) % 10) - 1))), (8, .int dv), (7, .int sv), (4, .int v), (3, .int (nI y0)), (0, .ref (G.1 + 88))] [0, 2, 1, 6, 7, 8, 9, 10] rfl ?_
                              have e9 := pB_9 p2392 (show q < 10 by omega) (by omega)
                              exact ih2380 0 (jd12383 q) (((y0 / 1) % 10) - 1) dv sv lk12381 su12382 jd12383 wy12384 _ (by omega) (by decide) (Or.inl e9) (by omega) (p2392) (by rw [e9]; exact hcv.trans (chV_n (t := y0 / 1 % 10 - 1) (by omega) (by show ¬ y0 / 1 % 10 = 0; omega) rfl ((p2393 q bqf).symm.trans e9))) f2394 f2395 f2396 f2397 f2398 f2399 f2400 f2401 f2402 f2403 f2404 f2387 f2388 f2389 f2390 (rg2_tr (k2379) (rg2_w k2391 (by decide)))
                            · have d214 := mt (j_lt (a := (jd12383 q).toInt) (b := (0)) (rfl) (rfl)).mpr c214
                              obtain ⟨q2, bq2, eq2⟩ := pB_g p2392 (show q < 10 by omega) d214
                              have fb9 := hfi (y0 / 1 % 10 - 1) (by omega)
                              have hP := (p2393 q bqf).symm.trans eq2
                              have bq2f := jP_lt (by omega) (by omega) hP
                              rw [eq2]
                              refine aw_iinc (j := 7) (sv + 1) [(7, .int (sv + 1)), (14, .int (nI q2)), (13, .int (if jU (lx fr (((y0 / 1) % 10) - 1)) (fi (((y0 / 1) % 10) - 1)) (fi fr) q then 1 else 0)), (12, .int (nI (((y0 / 1) % 10) - 1))), (11, .int 1), (10, .int (nI q)), (9, .int (nI fr)), (8, .int dv), (4, .int v), (3, .int (nI y0)), (0, .ref (G.1 + 88))] dX9_chain_217 rfl (by rfl) (by decide) rfl ?_
                              refine aw_iload 7 dX9_chain_220 rfl ?_
                              refine aw_iconst (0) dX9_chain_222 (by decide) ?_
                              refine aw_bipush (100) dX9_chain_223 (by decide) ?_
                              refine aw_aload_n 10 dX9_chain_225 rfl rfl ?_
                              refine aw_iload 6 dX9_chain_226 rfl ?_
                              refine aw_iload 5 dX9_chain_228 rfl ?_
                              refine aw_iload 3 dX9_chain_230 rfl ?_
                              refine aw_iload 1 dX9_chain_232 rfl ?_
                              refine aw_dV [.int (nI fr), .int (nI q), .int (nI (((y0 / 1) % 10) - 1)), .int (nI q2)] [.int 100, .int 0, .int dv] lX9_166 vX9_likeOf mX9_likeOf dX9_chain_234 (bX9_likeOf (sp := sp) (fa := fa) (nb := nb) (ns := ns) (nm := nm) (nv := nv) (sh := sh) (ho := ho) (ow := ow) (sl := sl) (m := m) (ye := ye) (b1 := b1) (b2 := b2) (W := W) (Z := Z) (Ro := Ro) (Co := Co) (a := fr) (i := q) (b := ((y0 / 1) % 10) - 1) (k := q2) f2394 f2396 f2397 f2398 f2399 f2400 f2401 f2402 f2403 hm hye (by omega) bb1 bb2 (by omega) (by omega) (by omega) (by omega) (by omega) (by omega)) f2394 rfl rfl rfl (Nat.le_of_ble_eq_true rfl) (by decide) (by decide) rfl ?_
                              refine aw_toe (nI (lx fr (((y0 / 1) % 10) - 1) q q2)) (hlx fr (by omega) (((y0 / 1) % 10) - 1) (by omega) q (by omega) q2 (by omega)) ?_
                              refine aw_isub dX9_chain_237 ?_
                              refine aw_mmax lX9_162 dX9_chain_238 (Nat.le_of_ble_eq_true rfl) (by decide) (by decide) ?_
                              refine aw_toe (chX (nI (lx fr (((y0 / 1) % 10) - 1) q q2))) (rfl) ?_
                              refine aw_iload 2 dX9_chain_241 rfl ?_
                              refine aw_if_eq 250 dX9_chain_243 (by decide) (fun c243 => ?_) (fun c243 => ?_)
                              · have t243 := ite_0 c243
                                refine aw_bipush (50) dX9_chain_250 (by decide) ?_
                                refine aw_iadd dX9_chain_252 ?_
                                refine aw_iadd dX9_chain_253 ?_
                                refine aw_istore [(8, .int (dv + ((chX (nI (lx fr (((y0 / 1) % 10) - 1) q q2))) + 50))), (7, .int (sv + 1)), (14, .int (nI q2)), (13, .int (if jU (lx fr (((y0 / 1) % 10) - 1)) (fi (((y0 / 1) % 10) - 1)) (fi fr) q then 1 else 0)), (12, .int (nI (((y0 / 1) % 10) - 1))), (11, .int 1), (10, .int (nI q)), (9, .int (nI fr)), (4, .int v), (3, .int (nI y0)), (0, .ref (G.1 + 88))] dX9_chain_254 (by decide) rfl ?_
                                refine aw_iload 2 dX9_chain_256 rfl ?_
                                refine aw_istore [(10, .int (nI q2)), (8, .int (dv + ((chX (nI (lx fr (((y0 / 1) % 10) - 1) q q2))) + 50))), (7, .int (sv + 1)), (14, .int (nI q2)), (13, .int (if jU (lx fr (((y0 / 1) % 10) - 1)) (fi (((y0 / 1) % 10) - 1)) (fi fr) q then 1 else 0)), (12, .int (nI (((y0 / 1) % 10) - 1))), (11, .int 1), (9, .int (nI fr)), (4, .int v), (3, .int (nI y0)), (0, .ref (G.1 + 88))] dX9_chain_258 (by decide) rfl ?_
                                refine aw_iload 5 dX9_chain_260 rfl ?_
                                refine aw_istore [(9, .int (nI (((y0 / 1) % 10) - 1))), (10, .int (nI q2)), (8, .int (dv + ((chX (nI (lx fr (((y0 / 1) % 10) - 1) q q2))) + 50))), (7, .int (sv + 1)), (14, .int (nI q2)), (13, .int (if jU (lx fr (((y0 / 1) % 10) - 1)) (fi (((y0 / 1) % 10) - 1)) (fi fr) q then 1 else 0)), (12, .int (nI (((y0 / 1) % 10) - 1))), (11, .int 1), (4, .int v), (3, .int (nI y0)), (0, .ref (G.1 + 88))] dX9_chain_262 (by decide) rfl ?_
                                refine aw_iload 7 dX9_chain_264 rfl ?_
                                refine aw_bipush (10) dX9_chain_266 (by decide) ?_
                                refine aw_idiv dX9_chain_268 (by decide) ?_
                                refine aw_toe 0 (by decide) ?_
                                refine aw_istore [(11, .int 0), (9, .int (nI (((y0 / 1) % 10) - 1))), (10, .int (nI q2)), (8, .int (dv + ((chX (nI (lx fr (((y0 / 1) % 10) - 1) q q2))) + 50))), (7, .int (sv + 1)), (14, .int (nI q2)), (13, .int (if jU (lx fr (((y0 / 1) % 10) - 1)) (fi (((y0 / 1) % 10) - 1)) (fi fr) q then 1 else 0)), (12, .int (nI (((y0 / 1) % 10) - 1))), (4, .int v), (3, .int (nI y0)), (0, .ref (G.1 + 88))] dX9_chain_269 (by decide) rfl ?_
                                refine aw_goto 170 dX9_chain_271 (by decide) ?_
                                refine aw_lv [(11, .int 0), (10, .int (nI q2)), (9, .int (nI (((y0 / 1) % 10) - 1))), (8, .int (dv + ((chX (nI (lx fr (((y0 / 1) % 10) - 1) q q2))) + 50))), (7, .int (sv + 1)), (4, .int v), (3, .int (nI y0)), (0, .ref (G.1 + 88))] [0, 2, 1, 3, 4, 8, 9, 10] rfl ?_
                                exact ih2380 0 (nI q2) (((y0 / 1) % 10) - 1) (dv + ((chX (nI (lx fr (((y0 / 1) % 10) - 1) q q2))) + 50)) (sv + 1) lk12381 su12382 jd12383 wy12384 _ (by omega) (by decide) (Or.inr ⟨_, bq2, bq2f, rfl⟩) (by omega) (p2392) (hcv.trans (chV_s (t := y0 / 1 % 10 - 1) (by omega) (by omega) (by show ¬ y0 / 1 % 10 = 0; omega) rfl hP (by rw [if_neg t243]))) f2394 f2395 f2396 f2397 f2398 f2399 f2400 f2401 f2402 f2403 f2404 f2387 f2388 f2389 f2390 (rg2_tr (k2379) (rg2_w k2391 (by decide)))
                              · have t243 := ite_1 c243
                                refine aw_iconst (0) dX9_chain_246 (by decide) ?_
                                refine aw_goto 252 dX9_chain_247 (by decide) ?_
                                refine aw_iadd dX9_chain_252 ?_
                                refine aw_iadd dX9_chain_253 ?_
                                refine aw_istore [(8, .int (dv + ((chX (nI (lx fr (((y0 / 1) % 10) - 1) q q2))) + 0))), (7, .int (sv + 1)), (14, .int (nI q2)), (13, .int (if jU (lx fr (((y0 / 1) % 10) - 1)) (fi (((y0 / 1) % 10) - 1)) (fi fr) q then 1 else 0)), (12, .int (nI (((y0 / 1) % 10) - 1))), (11, .int 1), (10, .int (nI q)), (9, .int (nI fr)), (4, .int v), (3, .int (nI y0)), (0, .ref (G.1 + 88))] dX9_chain_254 (by decide) rfl ?_
                                refine aw_iload 2 dX9_chain_256 rfl ?_
                                refine aw_istore [(10, .int (nI q2)), (8, .int (dv + ((chX (nI (lx fr (((y0 / 1) % 10) - 1) q q2))) + 0))), (7, .int (sv + 1)), (14, .int (nI q2)), (13, .int (if jU (lx fr (((y0 / 1) % 10) - 1)) (fi (((y0 / 1) % 10) - 1)) (fi fr) q then 1 else 0)), (12, .int (nI (((y0 / 1) % 10) - 1))), (11, .int 1), (9, .int (nI fr)), (4, .int v), (3, .int (nI y0)), (0, .ref (G.1 + 88))] dX9_chain_258 (by decide) rfl ?_
                                refine aw_iload 5 dX9_chain_260 rfl ?_
                                refine aw_istore [(9, .int (nI (((y0 / 1) % 10) - 1))), (10, .int (nI q2)), (8, .int (dv + ((chX (nI (lx fr (((y0 / 1) % 10) - 1) q q2))) + 0))), (7, .int (sv + 1)), (14, .int (nI q2)), (13, .int (if jU (lx fr (((y0 / 1) % 10) - 1)) (fi (((y0 / 1) % 10) - 1)) (fi fr) q then 1 else 0)), (12, .int (nI (((y0 / 1) % 10) - 1))), (11, .int 1), (4, .int v), (3, .int (nI y0)), (0, .ref (G.1 + 88))] dX9_chain_262 (by decide) rfl ?_
                                refine aw_iload 7 dX9_chain_264 rfl ?_
                                refine aw_bipush (10) dX9_chain_266 (by decide) ?_
                                refine aw_idiv dX9_chain_268 (by decide) ?_
                                refine aw_toe 0 (by decide) ?_
                                refine aw_istore [(11, .int 0), (9, .int (nI (((y0 / 1) % 10) - 1))), (10, .int (nI q2)), (8, .int (dv + ((chX (nI (lx fr (((y0 / 1) % 10) - 1) q q2))) + 0))), (7, .int (sv + 1)), (14, .int (nI q2)), (13, .int (if jU (lx fr (((y0 / 1) % 10) - 1)) (fi (((y0 / 1) % 10) - 1)) (fi fr) q then 1 else 0)), (12, .int (nI (((y0 / 1) % 10) - 1))), (4, .int v), (3, .int (nI y0)), (0, .ref (G.1 + 88))] dX9_chain_269 (by decide) rfl ?_
                                refine aw_goto 170 dX9_chain_271 (by decide) ?_
                                refine aw_lv [(11, .int 0), (10, .int (nI q2)), (9, .int (nI (((y0 / 1) % 10) - 1))), (8, .int (dv + ((chX (nI (lx fr (((y0 / 1) % 10) - 1) q q2))) + 0))), (7, .int (sv + 1)), (4, .int v), (3, .int (nI y0)), (0, .ref (G.1 + 88))] [0, 2, 1, 3, 4, 8, 9, 10] rfl ?_
                                exact ih2380 0 (nI q2) (((y0 / 1) % 10) - 1) (dv + ((chX (nI (lx fr (((y0 / 1) % 10) - 1) q q2))) + 0)) (sv + 1) lk12381 su12382 jd12383 wy12384 _ (by omega) (by decide) (Or.inr ⟨_, bq2, bq2f, rfl⟩) (by omega) (p2392) (hcv.trans (chV_s (t := y0 / 1 % 10 - 1) (by omega) (by omega) (by show ¬ y0 / 1 % 10 = 0; omega) rfl hP (by rw [if_pos t243]))) f2394 f2395 f2396 f2397 f2398 f2399 f2400 f2401 f2402 f2403 f2404 f2387 f2388 f2389 f2390 (rg2_tr (k2379) (rg2_w k2391 (by decide)))
                        · refine aw_lv [(11, .int 10), (10, .int ev), (9, .int (nI fr)), (8, .int dv), (7, .int sv), (4, .int v), (3, .int (nI y0)), (0, .ref (G.1 + 88))] [0, 1, 2, 3, 4, 5, 6, 7] rfl ?_
                          refine aw_iload 0 dX9_chain_170 rfl ?_
                          refine aw_if_le 274 dX9_chain_172 (by decide) (fun c172 => absurd c172 (by decide)) (fun c172 => ?_)
                          refine aw_iload 1 dX9_chain_175 rfl ?_
                          refine aw_if_lt 274 dX9_chain_177 (by decide) (fun c177 => ?_) (fun c177 => ?_)
                          · have d177 := (j_lt (a := ev.toInt) (b := (0)) (rfl) (rfl)).mp c177
                            refine aw_iload 5 dX9_chain_274 rfl ?_
                            refine aw_if_ne 284 dX9_chain_276 (by decide) (fun c276 => ?_) (fun c276 => ?_)
                            · have d276 := mt (j_eq (a := v.toInt) (b := (0)) (rfl) (rfl)).mpr c276
                              refine aw_iload 5 dX9_chain_284 rfl ?_
                              refine aw_iconst (1) dX9_chain_286 (by decide) ?_
                              refine aw_icmp_ne 295 dX9_chain_287 (by decide) (fun c287 => ?_) (fun c287 => ?_)
                              · have d287 := mt (j_eq (a := v.toInt) (b := (1)) (rfl) (rfl)).mpr c287
                                refine aw_iload 3 dX9_chain_295 rfl ?_
                                subst hQF
                                have e9 : ev = -9 := he.elim id (fun ⟨q9, h9, _, e⟩ => by exfalso; rw [e, nI_toInt (by omega)] at d177; omega)
                                exact aw_iret rfl dX9_chain_297 (by decide) (by decide) ⟨by rw [chA_y hEW (by omega), nn_y0, nn_a0, hcv, e9, chV_9, chR_2 c276 c287], _, _, _, _, _, f2375, f2376, f2377, f2378, f2365, k2379, hp⟩
                              · have d287 := (j_eq (a := v.toInt) (b := (1)) (rfl) (rfl)).mp c287
                                refine aw_iload 4 dX9_chain_290 rfl ?_
                                refine aw_goto 297 dX9_chain_292 (by decide) ?_
                                subst hQF
                                have e9 : ev = -9 := he.elim id (fun ⟨q9, h9, _, e⟩ => by exfalso; rw [e, nI_toInt (by omega)] at d177; omega)
                                exact aw_iret rfl dX9_chain_297 (by decide) (by decide) ⟨by rw [chA_y hEW (by omega), nn_y0, nn_a0, hcv, e9, chV_9, chR_1 c276 c287], _, _, _, _, _, f2375, f2376, f2377, f2378, f2365, k2379, hp⟩
                            · have d276 := (j_eq (a := v.toInt) (b := (0)) (rfl) (rfl)).mp c276
                              refine aw_iload 1 dX9_chain_279 rfl ?_
                              refine aw_goto 297 dX9_chain_281 (by decide) ?_
                              subst hQF
                              have e9 : ev = -9 := he.elim id (fun ⟨q9, h9, _, e⟩ => by exfalso; rw [e, nI_toInt (by omega)] at d177; omega)
                              exact aw_iret rfl dX9_chain_297 (by decide) (by decide) ⟨by rw [chA_y hEW (by omega), nn_y0, nn_a0, hcv, e9, chV_9, chR_0 c276], _, _, _, _, _, f2375, f2376, f2377, f2378, f2365, k2379, hp⟩
                          · have d177 := mt (j_lt (a := ev.toInt) (b := (0)) (rfl) (rfl)).mpr c177
                            obtain ⟨q, bq, bqf, rfl⟩ := he.resolve_left (fun e => by rw [e] at d177; exact d177 (by decide))
                            refine aw_iload_n 6 dX9_chain_180 rfl rfl ?_
                            refine aw_iload 0 dX9_chain_181 rfl ?_
                            refine aw_idiv dX9_chain_183 (by decide) ?_
                            refine aw_toe (nI (y0 / 10)) (nv_div (rfl) (rfl) (by omega) (by decide) (by decide)) ?_
                            refine aw_bipush (10) dX9_chain_184 (by decide) ?_
                            refine aw_irem dX9_chain_186 (by decide) ?_
                            refine aw_toe (nI ((y0 / 10) % 10)) (nv_rem (rfl) (rfl) (by omega) (by decide) (by decide)) ?_
                            refine aw_iconst (1) dX9_chain_187 (by decide) ?_
                            refine aw_isub dX9_chain_188 ?_
                            refine aw_toe (nI (((y0 / 10) % 10) - 1)) (nv_sub (rfl) (rfl) (by omega)) ?_
                            refine aw_istore [(12, .int (nI (((y0 / 10) % 10) - 1))), (11, .int 10), (10, .int (nI q)), (9, .int (nI fr)), (8, .int dv), (7, .int sv), (4, .int v), (3, .int (nI y0)), (0, .ref (G.1 + 88))] dX9_chain_189 (by decide) rfl ?_
                            refine aw_aload_n 8 dX9_chain_191 rfl rfl ?_
                            refine aw_iload 3 dX9_chain_192 rfl ?_
                            refine aw_iload 2 dX9_chain_194 rfl ?_
                            refine aw_iload 0 dX9_chain_196 rfl ?_
                            refine aw_eV [.int (nI fr), .int (nI q), .int (nI (((y0 / 10) % 10) - 1))] [] lX9_190 vX9_isSure mX9_isSure dX9_chain_198 (bX9_isSure (sp := sp) (fa := fa) (nb := nb) (ns := ns) (nm := nm) (nv := nv) (sh := sh) (ho := ho) (ow := ow) (sl := sl) (m := m) (ye := ye) (b1 := b1) (b2 := b2) (W := W) (Z := Z) (Ro := Ro) (Co := Co) (fi := fi) (lk := lk1) (su := su1) (jd := jd1) (wy := wy1) (a := fr) (b := ((y0 / 10) % 10) - 1) (i := q) (lx := lx fr (((y0 / 10) % 10) - 1)) f2364 f2366 f2367 f2368 f2369 f2370 f2371 f2372 f2373 f2374 f2375 f2376 f2377 f2378 hm hye (by omega) bb1 bb2 (by omega) (by omega) hfi (by omega) (by omega) (by omega) (by omega) (by omega) (hlx fr (by omega) (((y0 / 10) % 10) - 1) (by omega)) (hlx3 fr (((y0 / 10) % 10) - 1))) f2364 rfl rfl rfl (Nat.le_of_ble_eq_true rfl) (by decide) (by decide) rfl (fun h2410 q2409 => ?_)
                            obtain ⟨lk12405, su12406, jd12407, wy12408, f2411, f2412, f2413, f2414, k2415, p2416, p2417⟩ := q2409
                            have f2418 := rng_at k2415 (by decide) f2364
                            have f2419 := rng_at k2415 (by decide) f2365
                            have f2420 := rng_at k2415 (by decide) f2366
                            have f2421 := rng_at k2415 (by decide) f2367
                            have f2422 := rng_at k2415 (by decide) f2368
                            have f2423 := rng_at k2415 (by decide) f2369
                            have f2424 := rng_at k2415 (by decide) f2370
                            have f2425 := rng_at k2415 (by decide) f2371
                            have f2426 := rng_at k2415 (by decide) f2372
                            have f2427 := rng_at k2415 (by decide) f2373
                            have f2428 := rng_at k2415 (by decide) f2374
                            refine aw_istore [(13, .int (if jU (lx fr (((y0 / 10) % 10) - 1)) (fi (((y0 / 10) % 10) - 1)) (fi fr) q then 1 else 0)), (12, .int (nI (((y0 / 10) % 10) - 1))), (11, .int 10), (10, .int (nI q)), (9, .int (nI fr)), (8, .int dv), (7, .int sv), (4, .int v), (3, .int (nI y0)), (0, .ref (G.1 + 88))] dX9_chain_201 (by decide) rfl ?_
                            refine aw_aload_n 9 dX9_chain_203 rfl rfl ?_
                            refine aw_get fX9_53 dX9_chain_204 f2418 rfl ?_
                            refine aw_iload 3 dX9_chain_207 rfl ?_
                            refine aw_iald q (rfl) (by omega) (by decide) dX9_chain_209 f2413 ?_
                            refine aw_istore [(14, .int (jd12407 q)), (13, .int (if jU (lx fr (((y0 / 10) % 10) - 1)) (fi (((y0 / 10) % 10) - 1)) (fi fr) q then 1 else 0)), (12, .int (nI (((y0 / 10) % 10) - 1))), (11, .int 10), (10, .int (nI q)), (9, .int (nI fr)), (8, .int dv), (7, .int sv), (4, .int v), (3, .int (nI y0)), (0, .ref (G.1 + 88))] dX9_chain_210 (by decide) rfl ?_
                            refine aw_iload 0 dX9_chain_212 rfl ?_
                            refine aw_if_lt 256 dX9_chain_214 (by decide) (fun c214 => ?_) (fun c214 => ?_)
                            · have d214 := (j_lt (a := (jd12407 q).toInt) (b := (0)) (rfl) (rfl)).mp c214
                              refine aw_iload 0 dX9_chain_256 rfl ?_
                              refine aw_istore [(10, .int (jd12407 q)), (14, .int (jd12407 q)), (13, .int (if jU (lx fr (((y0 / 10) % 10) - 1)) (fi (((y0 / 10) % 10) - 1)) (fi fr) q then 1 else 0)), (12, .int (nI (((y0 / 10) % 10) - 1))), (11, .int 10), (9, .int (nI fr)), (8, .int dv), (7, .int sv), (4, .int v), (3, .int (nI y0)), (0, .ref (G.1 + 88))] dX9_chain_258 (by decide) rfl ?_
                              refine aw_iload 3 dX9_chain_260 rfl ?_
                              refine aw_istore [(9, .int (nI (((y0 / 10) % 10) - 1))), (10, .int (jd12407 q)), (14, .int (jd12407 q)), (13, .int (if jU (lx fr (((y0 / 10) % 10) - 1)) (fi (((y0 / 10) % 10) - 1)) (fi fr) q then 1 else 0)), (12, .int (nI (((y0 / 10) % 10) - 1))), (11, .int 10), (8, .int dv), (7, .int sv), (4, .int v), (3, .int (nI y0)), (0, .ref (G.1 + 88))] dX9_chain_262 (by decide) rfl ?_
                              refine aw_iload 5 dX9_chain_264 rfl ?_
                              refine aw_bipush (10) dX9_chain_266 (by decide) ?_
                              refine aw_idiv dX9_chain_268 (by decide) ?_
                              refine aw_toe 1 (by decide) ?_
                              refine aw_istore [(11, .int 1), (9, .int (nI (((y0 / 10) % 10) - 1))), (10, .int (jd12407 q)), (14, .int (jd12407 q)), (13, .int (if jU (lx fr (((y0 / 10) % 10) - 1)) (fi (((y0 / 10) % 10) - 1)) (fi fr) q then 1 else 0)), (12, .int (nI (((y0 / 10) % 10) - 1))), (8, .int dv), (7, .int sv), (4, .int v), (3, .int (nI y0)), (0, .ref (G.1 + 88))] dX9_chain_269 (by decide) rfl ?_
                              refine aw_goto 170 dX9_chain_271 (by decide) ?_
                              refine aw_lv [(11, .int 1), (10, .int (jd12407 q)), (9, .int (nI (((y0 / 10) % 10) - 1))), (8, .int dv), (7, .int sv), (4, .int v), (3, .int (nI y0)), (0, .ref (G.1 + 88))] [0, 2, 1, 6, 7, 8, 9, 10] rfl ?_
                              have e9 := pB_9 p2416 (show q < 10 by omega) (by omega)
                              exact ih2380 1 (jd12407 q) (((y0 / 10) % 10) - 1) dv sv lk12405 su12406 jd12407 wy12408 _ (by omega) (by decide) (Or.inl e9) (by omega) (p2416) (by rw [e9]; exact hcv.trans (chV_n (t := y0 / 10 % 10 - 1) (by omega) (by show ¬ y0 / 10 % 10 = 0; omega) rfl ((p2417 q bqf).symm.trans e9))) f2418 f2419 f2420 f2421 f2422 f2423 f2424 f2425 f2426 f2427 f2428 f2411 f2412 f2413 f2414 (rg2_tr (k2379) (rg2_w k2415 (by decide)))
                            · have d214 := mt (j_lt (a := (jd12407 q).toInt) (b := (0)) (rfl) (rfl)).mpr c214
                              obtain ⟨q2, bq2, eq2⟩ := pB_g p2416 (show q < 10 by omega) d214
                              have fb9 := hfi (y0 / 10 % 10 - 1) (by omega)
                              have hP := (p2417 q bqf).symm.trans eq2
                              have bq2f := jP_lt (by omega) (by omega) hP
                              rw [eq2]
                              refine aw_iinc (j := 7) (sv + 1) [(7, .int (sv + 1)), (14, .int (nI q2)), (13, .int (if jU (lx fr (((y0 / 10) % 10) - 1)) (fi (((y0 / 10) % 10) - 1)) (fi fr) q then 1 else 0)), (12, .int (nI (((y0 / 10) % 10) - 1))), (11, .int 10), (10, .int (nI q)), (9, .int (nI fr)), (8, .int dv), (4, .int v), (3, .int (nI y0)), (0, .ref (G.1 + 88))] dX9_chain_217 rfl (by rfl) (by decide) rfl ?_
                              refine aw_iload 7 dX9_chain_220 rfl ?_
                              refine aw_iconst (0) dX9_chain_222 (by decide) ?_
                              refine aw_bipush (100) dX9_chain_223 (by decide) ?_
                              refine aw_aload_n 10 dX9_chain_225 rfl rfl ?_
                              refine aw_iload 6 dX9_chain_226 rfl ?_
                              refine aw_iload 5 dX9_chain_228 rfl ?_
                              refine aw_iload 3 dX9_chain_230 rfl ?_
                              refine aw_iload 1 dX9_chain_232 rfl ?_
                              refine aw_dV [.int (nI fr), .int (nI q), .int (nI (((y0 / 10) % 10) - 1)), .int (nI q2)] [.int 100, .int 0, .int dv] lX9_166 vX9_likeOf mX9_likeOf dX9_chain_234 (bX9_likeOf (sp := sp) (fa := fa) (nb := nb) (ns := ns) (nm := nm) (nv := nv) (sh := sh) (ho := ho) (ow := ow) (sl := sl) (m := m) (ye := ye) (b1 := b1) (b2 := b2) (W := W) (Z := Z) (Ro := Ro) (Co := Co) (a := fr) (i := q) (b := ((y0 / 10) % 10) - 1) (k := q2) f2418 f2420 f2421 f2422 f2423 f2424 f2425 f2426 f2427 hm hye (by omega) bb1 bb2 (by omega) (by omega) (by omega) (by omega) (by omega) (by omega)) f2418 rfl rfl rfl (Nat.le_of_ble_eq_true rfl) (by decide) (by decide) rfl ?_
                              refine aw_toe (nI (lx fr (((y0 / 10) % 10) - 1) q q2)) (hlx fr (by omega) (((y0 / 10) % 10) - 1) (by omega) q (by omega) q2 (by omega)) ?_
                              refine aw_isub dX9_chain_237 ?_
                              refine aw_mmax lX9_162 dX9_chain_238 (Nat.le_of_ble_eq_true rfl) (by decide) (by decide) ?_
                              refine aw_toe (chX (nI (lx fr (((y0 / 10) % 10) - 1) q q2))) (rfl) ?_
                              refine aw_iload 2 dX9_chain_241 rfl ?_
                              refine aw_if_eq 250 dX9_chain_243 (by decide) (fun c243 => ?_) (fun c243 => ?_)
                              · have t243 := ite_0 c243
                                refine aw_bipush (50) dX9_chain_250 (by decide) ?_
                                refine aw_iadd dX9_chain_252 ?_
                                refine aw_iadd dX9_chain_253 ?_
                                refine aw_istore [(8, .int (dv + ((chX (nI (lx fr (((y0 / 10) % 10) - 1) q q2))) + 50))), (7, .int (sv + 1)), (14, .int (nI q2)), (13, .int (if jU (lx fr (((y0 / 10) % 10) - 1)) (fi (((y0 / 10) % 10) - 1)) (fi fr) q then 1 else 0)), (12, .int (nI (((y0 / 10) % 10) - 1))), (11, .int 10), (10, .int (nI q)), (9, .int (nI fr)), (4, .int v), (3, .int (nI y0)), (0, .ref (G.1 + 88))] dX9_chain_254 (by decide) rfl ?_
                                refine aw_iload 2 dX9_chain_256 rfl ?_
                                refine aw_istore [(10, .int (nI q2)), (8, .int (dv + ((chX (nI (lx fr (((y0 / 10) % 10) - 1) q q2))) + 50))), (7, .int (sv + 1)), (14, .int (nI q2)), (13, .int (if jU (lx fr (((y0 / 10) % 10) - 1)) (fi (((y0 / 10) % 10) - 1)) (fi fr) q then 1 else 0)), (12, .int (nI (((y0 / 10) % 10) - 1))), (11, .int 10), (9, .int (nI fr)), (4, .int v), (3, .int (nI y0)), (0, .ref (G.1 + 88))] dX9_chain_258 (by decide) rfl ?_
                                refine aw_iload 5 dX9_chain_260 rfl ?_
                                refine aw_istore [(9, .int (nI (((y0 / 10) % 10) - 1))), (10, .int (nI q2)), (8, .int (dv + ((chX (nI (lx fr (((y0 / 10) % 10) - 1) q q2))) + 50))), (7, .int (sv + 1)), (14, .int (nI q2)), (13, .int (if jU (lx fr (((y0 / 10) % 10) - 1)) (fi (((y0 / 10) % 10) - 1)) (fi fr) q then 1 else 0)), (12, .int (nI (((y0 / 10) % 10) - 1))), (11, .int 10), (4, .int v), (3, .int (nI y0)), (0, .ref (G.1 + 88))] dX9_chain_262 (by decide) rfl ?_
                                refine aw_iload 7 dX9_chain_264 rfl ?_
                                refine aw_bipush (10) dX9_chain_266 (by decide) ?_
                                refine aw_idiv dX9_chain_268 (by decide) ?_
                                refine aw_toe 1 (by decide) ?_
                                refine aw_istore [(11, .int 1), (9, .int (nI (((y0 / 10) % 10) - 1))), (10, .int (nI q2)), (8, .int (dv + ((chX (nI (lx fr (((y0 / 10) % 10) - 1) q q2))) + 50))), (7, .int (sv + 1)), (14, .int (nI q2)), (13, .int (if jU (lx fr (((y0 / 10) % 10) - 1)) (fi (((y0 / 10) % 10) - 1)) (fi fr) q then 1 else 0)), (12, .int (nI (((y0 / 10) % 10) - 1))), (4, .int v), (3, .int (nI y0)), (0, .ref (G.1 + 88))] dX9_chain_269 (by decide) rfl ?_
                                refine aw_goto 170 dX9_chain_271 (by decide) ?_
                                refine aw_lv [(11, .int 1), (10, .int (nI q2)), (9, .int (nI (((y0 / 10) % 10) - 1))), (8, .int (dv + ((chX (nI (lx fr (((y0 / 10) % 10) - 1) q q2))) + 50))), (7, .int (sv + 1)), (4, .int v), (3, .int (nI y0)), (0, .ref (G.1 + 88))] [0, 2, 1, 3, 4, 8, 9, 10] rfl ?_
                                exact ih2380 1 (nI q2) (((y0 / 10) % 10) - 1) (dv + ((chX (nI (lx fr (((y0 / 10) % 10) - 1) q q2))) + 50)) (sv + 1) lk12405 su12406 jd12407 wy12408 _ (by omega) (by decide) (Or.inr ⟨_, bq2, bq2f, rfl⟩) (by omega) (p2416) (hcv.trans (chV_s (t := y0 / 10 % 10 - 1) (by omega) (by omega) (by show ¬ y0 / 10 % 10 = 0; omega) rfl hP (by rw [if_neg t243]))) f2418 f2419 f2420 f2421 f2422 f2423 f2424 f2425 f2426 f2427 f2428 f2411 f2412 f2413 f2414 (rg2_tr (k2379) (rg2_w k2415 (by decide)))
                              · have t243 := ite_1 c243
                                refine aw_iconst (0) dX9_chain_246 (by decide) ?_
                                refine aw_goto 252 dX9_chain_247 (by decide) ?_
                                refine aw_iadd dX9_chain_252 ?_
                                refine aw_iadd dX9_chain_253 ?_
                                refine aw_istore [(8, .int (dv + ((chX (nI (lx fr (((y0 / 10) % 10) - 1) q q2))) + 0))), (7, .int (sv + 1)), (14, .int (nI q2)), (13, .int (if jU (lx fr (((y0 / 10) % 10) - 1)) (fi (((y0 / 10) % 10) - 1)) (fi fr) q then 1 else 0)), (12, .int (nI (((y0 / 10) % 10) - 1))), (11, .int 10), (10, .int (nI q)), (9, .int (nI fr)), (4, .int v), (3, .int (nI y0)), (0, .ref (G.1 + 88))] dX9_chain_254 (by decide) rfl ?_
                                refine aw_iload 2 dX9_chain_256 rfl ?_
                                refine aw_istore [(10, .int (nI q2)), (8, .int (dv + ((chX (nI (lx fr (((y0 / 10) % 10) - 1) q q2))) + 0))), (7, .int (sv + 1)), (14, .int (nI q2)), (13, .int (if jU (lx fr (((y0 / 10) % 10) - 1)) (fi (((y0 / 10) % 10) - 1)) (fi fr) q then 1 else 0)), (12, .int (nI (((y0 / 10) % 10) - 1))), (11, .int 10), (9, .int (nI fr)), (4, .int v), (3, .int (nI y0)), (0, .ref (G.1 + 88))] dX9_chain_258 (by decide) rfl ?_
                                refine aw_iload 5 dX9_chain_260 rfl ?_
                                refine aw_istore [(9, .int (nI (((y0 / 10) % 10) - 1))), (10, .int (nI q2)), (8, .int (dv + ((chX (nI (lx fr (((y0 / 10) % 10) - 1) q q2))) + 0))), (7, .int (sv + 1)), (14, .int (nI q2)), (13, .int (if jU (lx fr (((y0 / 10) % 10) - 1)) (fi (((y0 / 10) % 10) - 1)) (fi fr) q then 1 else 0)), (12, .int (nI (((y0 / 10) % 10) - 1))), (11, .int 10), (4, .int v), (3, .int (nI y0)), (0, .ref (G.1 + 88))] dX9_chain_262 (by decide) rfl ?_
                                refine aw_iload 7 dX9_chain_264 rfl ?_
                                refine aw_bipush (10) dX9_chain_266 (by decide) ?_
                                refine aw_idiv dX9_chain_268 (by decide) ?_
                                refine aw_toe 1 (by decide) ?_
                                refine aw_istore [(11, .int 1), (9, .int (nI (((y0 / 10) % 10) - 1))), (10, .int (nI q2)), (8, .int (dv + ((chX (nI (lx fr (((y0 / 10) % 10) - 1) q q2))) + 0))), (7, .int (sv + 1)), (14, .int (nI q2)), (13, .int (if jU (lx fr (((y0 / 10) % 10) - 1)) (fi (((y0 / 10) % 10) - 1)) (fi fr) q then 1 else 0)), (12, .int (nI (((y0 / 10) % 10) - 1))), (4, .int v), (3, .int (nI y0)), (0, .ref (G.1 + 88))] dX9_chain_269 (by decide) rfl ?_
                                refine aw_goto 170 dX9_chain_271 (by decide) ?_
                                refine aw_lv [(11, .int 1), (10, .int (nI q2)), (9, .int (nI (((y0 / 10) % 10) - 1))), (8, .int (dv + ((chX (nI (lx fr (((y0 / 10) % 10) - 1) q q2))) + 0))), (7, .int (sv + 1)), (4, .int v), (3, .int (nI y0)), (0, .ref (G.1 + 88))] [0, 2, 1, 3, 4, 8, 9, 10] rfl ?_
                                exact ih2380 1 (nI q2) (((y0 / 10) % 10) - 1) (dv + ((chX (nI (lx fr (((y0 / 10) % 10) - 1) q q2))) + 0)) (sv + 1) lk12405 su12406 jd12407 wy12408 _ (by omega) (by decide) (Or.inr ⟨_, bq2, bq2f, rfl⟩) (by omega) (p2416) (hcv.trans (chV_s (t := y0 / 10 % 10 - 1) (by omega) (by omega) (by show ¬ y0 / 10 % 10 = 0; omega) rfl hP (by rw [if_pos t243]))) f2418 f2419 f2420 f2421 f2422 f2423 f2424 f2425 f2426 f2427 f2428 f2411 f2412 f2413 f2414 (rg2_tr (k2379) (rg2_w k2415 (by decide)))
                    · have t123 := ite_0 c123
                      refine aw_aload_n 4 dX9_chain_126 rfl rfl ?_
                      refine aw_bipush (-2) dX9_chain_127 (by decide) ?_
                      refine aw_eV [.int (-2)] [] lX9_130 vX9_refuse mX9_refuse dX9_chain_129 (bX9_refuse (sp := sp) (fa := fa) (nb := nb) (ns := ns) (nm := nm) (nv := nv) (sh := sh) (ho := ho) (ow := ow) (sl := sl) (rg := rg) (x := (-2)) (q := 2) h88 h89 (by decide) (by decide)) h88 rfl rfl rfl (Nat.le_of_ble_eq_true rfl) (by decide) (by decide) rfl (fun h2431 q2430 => ?_)
                      obtain ⟨rg12429, f2432, k2433⟩ := q2430
                      have f2434 := rng_at k2433 (by decide) h88
                      have f2435 := rng_at k2433 (by decide) h90
                      have f2436 := rng_at k2433 (by decide) h91
                      have f2437 := rng_at k2433 (by decide) h93
                      have f2438 := rng_at k2433 (by decide) h94
                      have f2439 := rng_at k2433 (by decide) h95
                      have f2440 := rng_at k2433 (by decide) h96
                      have f2441 := rng_at k2433 (by decide) h97
                      have f2442 := rng_at k2433 (by decide) h98
                      have f2443 := rng_at k2433 (by decide) h92
                      have f2444 := rng_at k2433 (by decide) h99
                      have f2445 := rng_at k2433 (by decide) h100
                      have f2446 := rng_at k2433 (by decide) h101
                      have f2447 := rng_at k2433 (by decide) h102
                      subst hQF
                      exact aw_iret rfl dX9_chain_132 (by decide) (by decide) ⟨by rw [chA_2 hEW (by omega)], _, _, _, _, _, f2444, f2445, f2446, f2447, f2432, rg2_tr (rg2_rf 89 89 99 102 h) (rg2_w k2433 (by decide)), hjd⟩
                  · have t89 := ite_1e c89
                    refine aw_aload_n 4 dX9_chain_92 rfl rfl ?_
                    refine aw_iconst (-1) dX9_chain_93 (by decide) ?_
                    refine aw_eV [.int (-1)] [] lX9_130 vX9_refuse mX9_refuse dX9_chain_94 (bX9_refuse (sp := sp) (fa := fa) (nb := nb) (ns := ns) (nm := nm) (nv := nv) (sh := sh) (ho := ho) (ow := ow) (sl := sl) (rg := rg) (x := (-1)) (q := 1) h88 h89 (by decide) (by decide)) h88 rfl rfl rfl (Nat.le_of_ble_eq_true rfl) (by decide) (by decide) rfl (fun h2450 q2449 => ?_)
                    obtain ⟨rg12448, f2451, k2452⟩ := q2449
                    have f2453 := rng_at k2452 (by decide) h88
                    have f2454 := rng_at k2452 (by decide) h90
                    have f2455 := rng_at k2452 (by decide) h91
                    have f2456 := rng_at k2452 (by decide) h93
                    have f2457 := rng_at k2452 (by decide) h94
                    have f2458 := rng_at k2452 (by decide) h95
                    have f2459 := rng_at k2452 (by decide) h96
                    have f2460 := rng_at k2452 (by decide) h97
                    have f2461 := rng_at k2452 (by decide) h98
                    have f2462 := rng_at k2452 (by decide) h92
                    have f2463 := rng_at k2452 (by decide) h99
                    have f2464 := rng_at k2452 (by decide) h100
                    have f2465 := rng_at k2452 (by decide) h101
                    have f2466 := rng_at k2452 (by decide) h102
                    subst hQF
                    exact aw_iret rfl dX9_chain_97 (by decide) (by decide) ⟨by rw [chA_1 (fun q9 => by have w9 := (wyO q9.2).2; rw [nn_a0, nn_y0, hw1.trans (wyG_n (by omega) (fun q9 => q9.2 t89))] at w9; exact absurd w9 (by decide))], _, _, _, _, _, f2463, f2464, f2465, f2466, f2451, rg2_tr (rg2_rf 89 89 99 102 h) (rg2_w k2452 (by decide)), hjd⟩
              · have t89 := ite_1e c89
                refine aw_aload_n 4 dX9_chain_92 rfl rfl ?_
                refine aw_iconst (-1) dX9_chain_93 (by decide) ?_
                refine aw_eV [.int (-1)] [] lX9_130 vX9_refuse mX9_refuse dX9_chain_94 (bX9_refuse (sp := sp) (fa := fa) (nb := nb) (ns := ns) (nm := nm) (nv := nv) (sh := sh) (ho := ho) (ow := ow) (sl := sl) (rg := rg) (x := (-1)) (q := 1) h88 h89 (by decide) (by decide)) h88 rfl rfl rfl (Nat.le_of_ble_eq_true rfl) (by decide) (by decide) rfl (fun h2469 q2468 => ?_)
                obtain ⟨rg12467, f2470, k2471⟩ := q2468
                have f2472 := rng_at k2471 (by decide) h88
                have f2473 := rng_at k2471 (by decide) h90
                have f2474 := rng_at k2471 (by decide) h91
                have f2475 := rng_at k2471 (by decide) h93
                have f2476 := rng_at k2471 (by decide) h94
                have f2477 := rng_at k2471 (by decide) h95
                have f2478 := rng_at k2471 (by decide) h96
                have f2479 := rng_at k2471 (by decide) h97
                have f2480 := rng_at k2471 (by decide) h98
                have f2481 := rng_at k2471 (by decide) h92
                have f2482 := rng_at k2471 (by decide) h99
                have f2483 := rng_at k2471 (by decide) h100
                have f2484 := rng_at k2471 (by decide) h101
                have f2485 := rng_at k2471 (by decide) h102
                subst hQF
                exact aw_iret rfl dX9_chain_97 (by decide) (by decide) ⟨by rw [chA_1 (fun q9 => by have w9 := (wyO q9.2).2; rw [nn_a0, nn_y0, hw0.trans (wyG_n (by omega) (fun q9 => q9.2 t89))] at w9; exact absurd w9 (by decide))], _, _, _, _, _, f2482, f2483, f2484, f2485, f2470, rg2_tr (rg2_rf 89 89 99 102 h) (rg2_w k2471 (by decide)), hjd⟩
        · have d35 := mt (nv_le (a := y0) (b := 99) (rfl) (rfl) (by omega) (by omega)).mpr c35
          refine aw_iconst (3) dX9_chain_38 (by decide) ?_
          refine aw_goto 53 dX9_chain_39 (by decide) ?_
          refine aw_istore [(6, .int 3), (5, .int (nI (2 ^ a0))), (0, .ref (G.1 + 88)), (1, .int (nI a0)), (2, .int (nI i0)), (3, .int (nI y0)), (4, .int v)] dX9_chain_53 (by decide) rfl ?_
          refine aw_iload_n 5 dX9_chain_55 rfl rfl ?_
          refine aw_istore [(7, .int (nI y0)), (6, .int 3), (5, .int (nI (2 ^ a0))), (0, .ref (G.1 + 88)), (1, .int (nI a0)), (2, .int (nI i0)), (3, .int (nI y0)), (4, .int v)] dX9_chain_56 (by decide) rfl ?_
          refine aw_iload 0 dX9_chain_58 rfl ?_
          refine aw_if_le 117 dX9_chain_60 (by decide) (fun c60 => absurd c60 (by simp only [i_le, (nI_toInt (n := y0) (by omega)), (show (0 : Int32).toInt = 0 from rfl)] <;> omega)) (fun c60 => ?_)
          refine aw_iload 0 dX9_chain_63 rfl ?_
          refine aw_bipush (10) dX9_chain_65 (by decide) ?_
          refine aw_irem dX9_chain_67 (by decide) ?_
          refine aw_toe (nI (y0 % 10)) (nv_rem (rfl) (rfl) (by omega) (by decide) (by decide)) ?_
          refine aw_iconst (1) dX9_chain_68 (by decide) ?_
          refine aw_isub dX9_chain_69 ?_
          refine aw_istore [(8, .int ((nI (y0 % 10)) - 1)), (7, .int (nI y0)), (6, .int 3), (5, .int (nI (2 ^ a0))), (0, .ref (G.1 + 88)), (1, .int (nI a0)), (2, .int (nI i0)), (3, .int (nI y0)), (4, .int v)] dX9_chain_70 (by decide) rfl ?_
          refine aw_iload 0 dX9_chain_72 rfl ?_
          refine aw_iconst (4) dX9_chain_74 (by decide) ?_
          refine aw_dS [.int ((nI (y0 % 10)) - 1), .int 4] [] lX9_126 sX9_isIn mX9_isIn dX9_chain_75 (bX9_isIn (x := (nI (y0 % 10)) - 1) (n := 4) (by omega)) rfl (Nat.le_of_ble_eq_true rfl) (by decide) (by decide) rfl ?_
          refine aw_if_eq 92 dX9_chain_78 (by decide) (fun c78 => ?_) (fun c78 => ?_)
          · have t78 := ite_0 c78
            refine aw_aload_n 4 dX9_chain_92 rfl rfl ?_
            refine aw_iconst (-1) dX9_chain_93 (by decide) ?_
            refine aw_eV [.int (-1)] [] lX9_130 vX9_refuse mX9_refuse dX9_chain_94 (bX9_refuse (sp := sp) (fa := fa) (nb := nb) (ns := ns) (nm := nm) (nv := nv) (sh := sh) (ho := ho) (ow := ow) (sl := sl) (rg := rg) (x := (-1)) (q := 1) h88 h89 (by decide) (by decide)) h88 rfl rfl rfl (Nat.le_of_ble_eq_true rfl) (by decide) (by decide) rfl (fun h2488 q2487 => ?_)
            obtain ⟨rg12486, f2489, k2490⟩ := q2487
            have f2491 := rng_at k2490 (by decide) h88
            have f2492 := rng_at k2490 (by decide) h90
            have f2493 := rng_at k2490 (by decide) h91
            have f2494 := rng_at k2490 (by decide) h93
            have f2495 := rng_at k2490 (by decide) h94
            have f2496 := rng_at k2490 (by decide) h95
            have f2497 := rng_at k2490 (by decide) h96
            have f2498 := rng_at k2490 (by decide) h97
            have f2499 := rng_at k2490 (by decide) h98
            have f2500 := rng_at k2490 (by decide) h92
            have f2501 := rng_at k2490 (by decide) h99
            have f2502 := rng_at k2490 (by decide) h100
            have f2503 := rng_at k2490 (by decide) h101
            have f2504 := rng_at k2490 (by decide) h102
            subst hQF
            exact aw_iret rfl dX9_chain_97 (by decide) (by decide) ⟨by rw [chA_1 (fun q9 => by have w9 := (wyO q9.2).2; rw [nn_a0, nn_y0, hw0.trans (wyG_n (by omega) (fun q9 => t78 (by rw [dig_i (by omega)]; omega)))] at w9; exact absurd w9 (by decide))], _, _, _, _, _, f2501, f2502, f2503, f2504, f2489, rg2_tr (rg2_rf 89 89 99 102 h) (rg2_w k2490 (by decide)), hjd⟩
          · have t78 := ite_1 c78
            have g0 : 1 ≤ y0 % 10 ∧ y0 % 10 ≤ 4 := by rw [dig_i (by omega)] at t78; omega
            rw [dig_e g0.1]
            refine aw_iload 3 dX9_chain_81 rfl ?_
            refine aw_iload 0 dX9_chain_83 rfl ?_
            refine aw_ishr dX9_chain_85 ?_
            refine aw_iconst (1) dX9_chain_86 (by decide) ?_
            refine aw_iand dX9_chain_87 ?_
            refine aw_toe (if (2 ^ a0).testBit (y0 % 10 - 1) = true then 1 else 0) (nv_bit (rfl) (rfl) (by omega) (by omega)) ?_
            refine aw_iconst (1) dX9_chain_88 (by decide) ?_
            refine aw_icmp_ne 98 dX9_chain_89 (by decide) (fun c89 => ?_) (fun c89 => ?_)
            · have t89 := ite_0e c89
              have w1 := or_16 (a := 2 ^ a0) (b := y0 % 10 - 1) (by omega) (by omega)
              have hw1 := hw0.trans (wyG_y (by omega) g0 t89)
              refine aw_iload 3 dX9_chain_98 rfl ?_
              refine aw_iconst (1) dX9_chain_100 (by decide) ?_
              refine aw_iload 0 dX9_chain_101 rfl ?_
              refine aw_ishl dX9_chain_103 ?_
              refine aw_toe (nI (2 ^ (y0 % 10 - 1))) (nv_shl1 (rfl) (by omega)) ?_
              refine aw_ior dX9_chain_104 ?_
              refine aw_toe (nI ((2 ^ a0) ||| (2 ^ (y0 % 10 - 1)))) (nv_or (rfl) (rfl)) ?_
              refine aw_istore [(5, .int (nI ((2 ^ a0) ||| (2 ^ (y0 % 10 - 1))))), (8, .int (nI (y0 % 10 - 1))), (7, .int (nI y0)), (6, .int 3), (0, .ref (G.1 + 88)), (1, .int (nI a0)), (2, .int (nI i0)), (3, .int (nI y0)), (4, .int v)] dX9_chain_105 (by decide) rfl ?_
              refine aw_iload 2 dX9_chain_107 rfl ?_
              refine aw_bipush (10) dX9_chain_109 (by decide) ?_
              refine aw_idiv dX9_chain_111 (by decide) ?_
              refine aw_toe (nI (y0 / 10)) (nv_div (rfl) (rfl) (by omega) (by decide) (by decide)) ?_
              refine aw_istore [(7, .int (nI (y0 / 10))), (5, .int (nI ((2 ^ a0) ||| (2 ^ (y0 % 10 - 1))))), (8, .int (nI (y0 % 10 - 1))), (6, .int 3), (0, .ref (G.1 + 88)), (1, .int (nI a0)), (2, .int (nI i0)), (3, .int (nI y0)), (4, .int v)] dX9_chain_112 (by decide) rfl ?_
              refine aw_goto 58 dX9_chain_114 (by decide) ?_
              refine aw_iload 0 dX9_chain_58 rfl ?_
              refine aw_if_le 117 dX9_chain_60 (by decide) (fun c60 => absurd c60 (by simp only [i_le, (nI_toInt (n := y0 / 10) (by omega)), (show (0 : Int32).toInt = 0 from rfl)] <;> omega)) (fun c60 => ?_)
              refine aw_iload 0 dX9_chain_63 rfl ?_
              refine aw_bipush (10) dX9_chain_65 (by decide) ?_
              refine aw_irem dX9_chain_67 (by decide) ?_
              refine aw_toe (nI ((y0 / 10) % 10)) (nv_rem (rfl) (rfl) (by omega) (by decide) (by decide)) ?_
              refine aw_iconst (1) dX9_chain_68 (by decide) ?_
              refine aw_isub dX9_chain_69 ?_
              refine aw_istore [(8, .int ((nI ((y0 / 10) % 10)) - 1)), (7, .int (nI (y0 / 10))), (5, .int (nI ((2 ^ a0) ||| (2 ^ (y0 % 10 - 1))))), (6, .int 3), (0, .ref (G.1 + 88)), (1, .int (nI a0)), (2, .int (nI i0)), (3, .int (nI y0)), (4, .int v)] dX9_chain_70 (by decide) rfl ?_
              refine aw_iload 0 dX9_chain_72 rfl ?_
              refine aw_iconst (4) dX9_chain_74 (by decide) ?_
              refine aw_dS [.int ((nI ((y0 / 10) % 10)) - 1), .int 4] [] lX9_126 sX9_isIn mX9_isIn dX9_chain_75 (bX9_isIn (x := (nI ((y0 / 10) % 10)) - 1) (n := 4) (by omega)) rfl (Nat.le_of_ble_eq_true rfl) (by decide) (by decide) rfl ?_
              refine aw_if_eq 92 dX9_chain_78 (by decide) (fun c78 => ?_) (fun c78 => ?_)
              · have t78 := ite_0 c78
                refine aw_aload_n 4 dX9_chain_92 rfl rfl ?_
                refine aw_iconst (-1) dX9_chain_93 (by decide) ?_
                refine aw_eV [.int (-1)] [] lX9_130 vX9_refuse mX9_refuse dX9_chain_94 (bX9_refuse (sp := sp) (fa := fa) (nb := nb) (ns := ns) (nm := nm) (nv := nv) (sh := sh) (ho := ho) (ow := ow) (sl := sl) (rg := rg) (x := (-1)) (q := 1) h88 h89 (by decide) (by decide)) h88 rfl rfl rfl (Nat.le_of_ble_eq_true rfl) (by decide) (by decide) rfl (fun h2507 q2506 => ?_)
                obtain ⟨rg12505, f2508, k2509⟩ := q2506
                have f2510 := rng_at k2509 (by decide) h88
                have f2511 := rng_at k2509 (by decide) h90
                have f2512 := rng_at k2509 (by decide) h91
                have f2513 := rng_at k2509 (by decide) h93
                have f2514 := rng_at k2509 (by decide) h94
                have f2515 := rng_at k2509 (by decide) h95
                have f2516 := rng_at k2509 (by decide) h96
                have f2517 := rng_at k2509 (by decide) h97
                have f2518 := rng_at k2509 (by decide) h98
                have f2519 := rng_at k2509 (by decide) h92
                have f2520 := rng_at k2509 (by decide) h99
                have f2521 := rng_at k2509 (by decide) h100
                have f2522 := rng_at k2509 (by decide) h101
                have f2523 := rng_at k2509 (by decide) h102
                subst hQF
                exact aw_iret rfl dX9_chain_97 (by decide) (by decide) ⟨by rw [chA_1 (fun q9 => by have w9 := (wyO q9.2).2; rw [nn_a0, nn_y0, hw1.trans (wyG_n (by omega) (fun q9 => t78 (by rw [dig_i (by omega)]; omega)))] at w9; exact absurd w9 (by decide))], _, _, _, _, _, f2520, f2521, f2522, f2523, f2508, rg2_tr (rg2_rf 89 89 99 102 h) (rg2_w k2509 (by decide)), hjd⟩
              · have t78 := ite_1 c78
                have g1 : 1 ≤ (y0 / 10) % 10 ∧ (y0 / 10) % 10 ≤ 4 := by rw [dig_i (by omega)] at t78; omega
                rw [dig_e g1.1]
                refine aw_iload 2 dX9_chain_81 rfl ?_
                refine aw_iload 0 dX9_chain_83 rfl ?_
                refine aw_ishr dX9_chain_85 ?_
                refine aw_iconst (1) dX9_chain_86 (by decide) ?_
                refine aw_iand dX9_chain_87 ?_
                refine aw_toe (if ((2 ^ a0) ||| (2 ^ (y0 % 10 - 1))).testBit ((y0 / 10) % 10 - 1) = true then 1 else 0) (nv_bit (rfl) (rfl) (by omega) (by omega)) ?_
                refine aw_iconst (1) dX9_chain_88 (by decide) ?_
                refine aw_icmp_ne 98 dX9_chain_89 (by decide) (fun c89 => ?_) (fun c89 => ?_)
                · have t89 := ite_0e c89
                  have w2 := or_16 (a := (2 ^ a0) ||| (2 ^ (y0 % 10 - 1))) (b := (y0 / 10) % 10 - 1) (by omega) (by omega)
                  have hw2 := hw1.trans (wyG_y (by omega) g1 t89)
                  refine aw_iload 2 dX9_chain_98 rfl ?_
                  refine aw_iconst (1) dX9_chain_100 (by decide) ?_
                  refine aw_iload 0 dX9_chain_101 rfl ?_
                  refine aw_ishl dX9_chain_103 ?_
                  refine aw_toe (nI (2 ^ ((y0 / 10) % 10 - 1))) (nv_shl1 (rfl) (by omega)) ?_
                  refine aw_ior dX9_chain_104 ?_
                  refine aw_toe (nI (((2 ^ a0) ||| (2 ^ (y0 % 10 - 1))) ||| (2 ^ ((y0 / 10) % 10 - 1)))) (nv_or (rfl) (rfl)) ?_
                  refine aw_istore [(5, .int (nI (((2 ^ a0) ||| (2 ^ (y0 % 10 - 1))) ||| (2 ^ ((y0 / 10) % 10 - 1))))), (8, .int (nI ((y0 / 10) % 10 - 1))), (7, .int (nI (y0 / 10))), (6, .int 3), (0, .ref (G.1 + 88)), (1, .int (nI a0)), (2, .int (nI i0)), (3, .int (nI y0)), (4, .int v)] dX9_chain_105 (by decide) rfl ?_
                  refine aw_iload 2 dX9_chain_107 rfl ?_
                  refine aw_bipush (10) dX9_chain_109 (by decide) ?_
                  refine aw_idiv dX9_chain_111 (by decide) ?_
                  refine aw_toe (nI ((y0 / 10) / 10)) (nv_div (rfl) (rfl) (by omega) (by decide) (by decide)) ?_
                  refine aw_istore [(7, .int (nI ((y0 / 10) / 10))), (5, .int (nI (((2 ^ a0) ||| (2 ^ (y0 % 10 - 1))) ||| (2 ^ ((y0 / 10) % 10 - 1))))), (8, .int (nI ((y0 / 10) % 10 - 1))), (6, .int 3), (0, .ref (G.1 + 88)), (1, .int (nI a0)), (2, .int (nI i0)), (3, .int (nI y0)), (4, .int v)] dX9_chain_112 (by decide) rfl ?_
                  refine aw_goto 58 dX9_chain_114 (by decide) ?_
                  refine aw_iload 0 dX9_chain_58 rfl ?_
                  refine aw_if_le 117 dX9_chain_60 (by decide) (fun c60 => absurd c60 (by simp only [i_le, (nI_toInt (n := (y0 / 10) / 10) (by omega)), (show (0 : Int32).toInt = 0 from rfl)] <;> omega)) (fun c60 => ?_)
                  refine aw_iload 0 dX9_chain_63 rfl ?_
                  refine aw_bipush (10) dX9_chain_65 (by decide) ?_
                  refine aw_irem dX9_chain_67 (by decide) ?_
                  refine aw_toe (nI (((y0 / 10) / 10) % 10)) (nv_rem (rfl) (rfl) (by omega) (by decide) (by decide)) ?_
                  refine aw_iconst (1) dX9_chain_68 (by decide) ?_
                  refine aw_isub dX9_chain_69 ?_
                  refine aw_istore [(8, .int ((nI (((y0 / 10) / 10) % 10)) - 1)), (7, .int (nI ((y0 / 10) / 10))), (5, .int (nI (((2 ^ a0) ||| (2 ^ (y0 % 10 - 1))) ||| (2 ^ ((y0 / 10) % 10 - 1))))), (6, .int 3), (0, .ref (G.1 + 88)), (1, .int (nI a0)), (2, .int (nI i0)), (3, .int (nI y0)), (4, .int v)] dX9_chain_70 (by decide) rfl ?_
                  refine aw_iload 0 dX9_chain_72 rfl ?_
                  refine aw_iconst (4) dX9_chain_74 (by decide) ?_
                  refine aw_dS [.int ((nI (((y0 / 10) / 10) % 10)) - 1), .int 4] [] lX9_126 sX9_isIn mX9_isIn dX9_chain_75 (bX9_isIn (x := (nI (((y0 / 10) / 10) % 10)) - 1) (n := 4) (by omega)) rfl (Nat.le_of_ble_eq_true rfl) (by decide) (by decide) rfl ?_
                  refine aw_if_eq 92 dX9_chain_78 (by decide) (fun c78 => ?_) (fun c78 => ?_)
                  · have t78 := ite_0 c78
                    refine aw_aload_n 4 dX9_chain_92 rfl rfl ?_
                    refine aw_iconst (-1) dX9_chain_93 (by decide) ?_
                    refine aw_eV [.int (-1)] [] lX9_130 vX9_refuse mX9_refuse dX9_chain_94 (bX9_refuse (sp := sp) (fa := fa) (nb := nb) (ns := ns) (nm := nm) (nv := nv) (sh := sh) (ho := ho) (ow := ow) (sl := sl) (rg := rg) (x := (-1)) (q := 1) h88 h89 (by decide) (by decide)) h88 rfl rfl rfl (Nat.le_of_ble_eq_true rfl) (by decide) (by decide) rfl (fun h2526 q2525 => ?_)
                    obtain ⟨rg12524, f2527, k2528⟩ := q2525
                    have f2529 := rng_at k2528 (by decide) h88
                    have f2530 := rng_at k2528 (by decide) h90
                    have f2531 := rng_at k2528 (by decide) h91
                    have f2532 := rng_at k2528 (by decide) h93
                    have f2533 := rng_at k2528 (by decide) h94
                    have f2534 := rng_at k2528 (by decide) h95
                    have f2535 := rng_at k2528 (by decide) h96
                    have f2536 := rng_at k2528 (by decide) h97
                    have f2537 := rng_at k2528 (by decide) h98
                    have f2538 := rng_at k2528 (by decide) h92
                    have f2539 := rng_at k2528 (by decide) h99
                    have f2540 := rng_at k2528 (by decide) h100
                    have f2541 := rng_at k2528 (by decide) h101
                    have f2542 := rng_at k2528 (by decide) h102
                    subst hQF
                    exact aw_iret rfl dX9_chain_97 (by decide) (by decide) ⟨by rw [chA_1 (fun q9 => by have w9 := (wyO q9.2).2; rw [nn_a0, nn_y0, hw2.trans (wyG_n (by omega) (fun q9 => t78 (by rw [dig_i (by omega)]; omega)))] at w9; exact absurd w9 (by decide))], _, _, _, _, _, f2539, f2540, f2541, f2542, f2527, rg2_tr (rg2_rf 89 89 99 102 h) (rg2_w k2528 (by decide)), hjd⟩
                  · have t78 := ite_1 c78
                    have g2 : 1 ≤ ((y0 / 10) / 10) % 10 ∧ ((y0 / 10) / 10) % 10 ≤ 4 := by rw [dig_i (by omega)] at t78; omega
                    rw [dig_e g2.1]
                    refine aw_iload 2 dX9_chain_81 rfl ?_
                    refine aw_iload 0 dX9_chain_83 rfl ?_
                    refine aw_ishr dX9_chain_85 ?_
                    refine aw_iconst (1) dX9_chain_86 (by decide) ?_
                    refine aw_iand dX9_chain_87 ?_
                    refine aw_toe (if (((2 ^ a0) ||| (2 ^ (y0 % 10 - 1))) ||| (2 ^ ((y0 / 10) % 10 - 1))).testBit (((y0 / 10) / 10) % 10 - 1) = true then 1 else 0) (nv_bit (rfl) (rfl) (by omega) (by omega)) ?_
                    refine aw_iconst (1) dX9_chain_88 (by decide) ?_
                    refine aw_icmp_ne 98 dX9_chain_89 (by decide) (fun c89 => ?_) (fun c89 => ?_)
                    · have t89 := ite_0e c89
                      have w3 := or_16 (a := ((2 ^ a0) ||| (2 ^ (y0 % 10 - 1))) ||| (2 ^ ((y0 / 10) % 10 - 1))) (b := ((y0 / 10) / 10) % 10 - 1) (by omega) (by omega)
                      have hw3 := hw2.trans (wyG_y (by omega) g2 t89)
                      refine aw_iload 2 dX9_chain_98 rfl ?_
                      refine aw_iconst (1) dX9_chain_100 (by decide) ?_
                      refine aw_iload 0 dX9_chain_101 rfl ?_
                      refine aw_ishl dX9_chain_103 ?_
                      refine aw_toe (nI (2 ^ (((y0 / 10) / 10) % 10 - 1))) (nv_shl1 (rfl) (by omega)) ?_
                      refine aw_ior dX9_chain_104 ?_
                      refine aw_toe (nI ((((2 ^ a0) ||| (2 ^ (y0 % 10 - 1))) ||| (2 ^ ((y0 / 10) % 10 - 1))) ||| (2 ^ (((y0 / 10) / 10) % 10 - 1)))) (nv_or (rfl) (rfl)) ?_
                      refine aw_istore [(5, .int (nI ((((2 ^ a0) ||| (2 ^ (y0 % 10 - 1))) ||| (2 ^ ((y0 / 10) % 10 - 1))) ||| (2 ^ (((y0 / 10) / 10) % 10 - 1))))), (8, .int (nI (((y0 / 10) / 10) % 10 - 1))), (7, .int (nI ((y0 / 10) / 10))), (6, .int 3), (0, .ref (G.1 + 88)), (1, .int (nI a0)), (2, .int (nI i0)), (3, .int (nI y0)), (4, .int v)] dX9_chain_105 (by decide) rfl ?_
                      refine aw_iload 2 dX9_chain_107 rfl ?_
                      refine aw_bipush (10) dX9_chain_109 (by decide) ?_
                      refine aw_idiv dX9_chain_111 (by decide) ?_
                      refine aw_toe (nI (((y0 / 10) / 10) / 10)) (nv_div (rfl) (rfl) (by omega) (by decide) (by decide)) ?_
                      refine aw_istore [(7, .int (nI (((y0 / 10) / 10) / 10))), (5, .int (nI ((((2 ^ a0) ||| (2 ^ (y0 % 10 - 1))) ||| (2 ^ ((y0 / 10) % 10 - 1))) ||| (2 ^ (((y0 / 10) / 10) % 10 - 1))))), (8, .int (nI (((y0 / 10) / 10) % 10 - 1))), (6, .int 3), (0, .ref (G.1 + 88)), (1, .int (nI a0)), (2, .int (nI i0)), (3, .int (nI y0)), (4, .int v)] dX9_chain_112 (by decide) rfl ?_
                      refine aw_goto 58 dX9_chain_114 (by decide) ?_
                      refine aw_iload 0 dX9_chain_58 rfl ?_
                      refine aw_if_le 117 dX9_chain_60 (by decide) (fun c60 => ?_) (fun c60 => absurd (by simp only [i_le, (nI_toInt (n := ((y0 / 10) / 10) / 10) (by omega)), (show (0 : Int32).toInt = 0 from rfl)] <;> omega) c60)
                      have hwy : wyF a0 (nI y0) = true := wyI ⟨by omega, by rw [nn_y0, hw3, show ((y0 / 10) / 10) / 10 = 0 by omega]; exact wyG_0⟩
                      have hEW : ((0 ≤ (nI a0).toInt ∧ (nI a0).toInt < 4) ∧ 0 ≤ (nI i0).toInt ∧ (nI i0).toInt < (fi (tn (nI a0)) : Int)) ∧ wyF (tn (nI a0)) (nI y0) = true := ⟨by rw [nn_a0]; omega, by rw [nn_a0]; exact hwy⟩
                      refine aw_iload 8 dX9_chain_117 rfl ?_
                      refine aw_iconst (3) dX9_chain_119 (by decide) ?_
                      refine aw_dS [.int v, .int 3] [] lX9_126 sX9_isIn mX9_isIn dX9_chain_120 (bX9_isIn (x := v) (n := 3) (by omega)) rfl (Nat.le_of_ble_eq_true rfl) (by decide) (by decide) rfl ?_
                      refine aw_if_ne 133 dX9_chain_123 (by decide) (fun c123 => ?_) (fun c123 => ?_)
                      · have t123 := ite_1 c123
                        refine aw_iconst (0) dX9_chain_133 (by decide) ?_
                        refine aw_istore [(7, .int 0), (5, .int (nI ((((2 ^ a0) ||| (2 ^ (y0 % 10 - 1))) ||| (2 ^ ((y0 / 10) % 10 - 1))) ||| (2 ^ (((y0 / 10) / 10) % 10 - 1))))), (8, .int (nI (((y0 / 10) / 10) % 10 - 1))), (6, .int 3), (0, .ref (G.1 + 88)), (1, .int (nI a0)), (2, .int (nI i0)), (3, .int (nI y0)), (4, .int v)] dX9_chain_134 (by decide) rfl ?_
                        refine aw_iconst (0) dX9_chain_136 (by decide) ?_
                        refine aw_istore [(8, .int 0), (7, .int 0), (5, .int (nI ((((2 ^ a0) ||| (2 ^ (y0 % 10 - 1))) ||| (2 ^ ((y0 / 10) % 10 - 1))) ||| (2 ^ (((y0 / 10) / 10) % 10 - 1))))), (6, .int 3), (0, .ref (G.1 + 88)), (1, .int (nI a0)), (2, .int (nI i0)), (3, .int (nI y0)), (4, .int v)] dX9_chain_137 (by decide) rfl ?_
                        refine aw_iload_n 5 dX9_chain_139 rfl rfl ?_
                        refine aw_istore [(9, .int (nI a0)), (8, .int 0), (7, .int 0), (5, .int (nI ((((2 ^ a0) ||| (2 ^ (y0 % 10 - 1))) ||| (2 ^ ((y0 / 10) % 10 - 1))) ||| (2 ^ (((y0 / 10) / 10) % 10 - 1))))), (6, .int 3), (0, .ref (G.1 + 88)), (1, .int (nI a0)), (2, .int (nI i0)), (3, .int (nI y0)), (4, .int v)] dX9_chain_140 (by decide) rfl ?_
                        refine aw_iload_n 7 dX9_chain_142 rfl rfl ?_
                        refine aw_istore [(10, .int (nI i0)), (9, .int (nI a0)), (8, .int 0), (7, .int 0), (5, .int (nI ((((2 ^ a0) ||| (2 ^ (y0 % 10 - 1))) ||| (2 ^ ((y0 / 10) % 10 - 1))) ||| (2 ^ (((y0 / 10) / 10) % 10 - 1))))), (6, .int 3), (0, .ref (G.1 + 88)), (1, .int (nI a0)), (2, .int (nI i0)), (3, .int (nI y0)), (4, .int v)] dX9_chain_143 (by decide) rfl ?_
                        refine aw_iload 5 dX9_chain_145 rfl ?_
                        refine aw_iconst (3) dX9_chain_147 (by decide) ?_
                        refine aw_icmp_ne 156 dX9_chain_148 (by decide) (fun c148 => absurd (by decide) c148) (fun c148 => ?_)
                        refine aw_bipush (100) dX9_chain_151 (by decide) ?_
                        refine aw_goto 168 dX9_chain_153 (by decide) ?_
                        refine aw_istore [(11, .int 100), (10, .int (nI i0)), (9, .int (nI a0)), (8, .int 0), (7, .int 0), (5, .int (nI ((((2 ^ a0) ||| (2 ^ (y0 % 10 - 1))) ||| (2 ^ ((y0 / 10) % 10 - 1))) ||| (2 ^ (((y0 / 10) / 10) % 10 - 1))))), (6, .int 3), (0, .ref (G.1 + 88)), (1, .int (nI a0)), (2, .int (nI i0)), (3, .int (nI y0)), (4, .int v)] dX9_chain_168 (by decide) rfl ?_
                        refine aw_lv [(11, .int 100), (10, .int (nI i0)), (9, .int (nI a0)), (8, .int 0), (7, .int 0), (4, .int v), (3, .int (nI y0)), (0, .ref (G.1 + 88))] [0, 1, 2, 3, 4, 11, 10, 7] rfl ?_
                        suffices L2560 : ∀ (mm : Nat) (x : Nat) (ev : Int32) (fr : Nat) (dv : Int32) (sv : Int32) (lk1 : Nat → Int32) (su1 : Nat → Int32) (jd1 : Nat → Int32) (wy1 : Nat → Int32) (h2543 : List va_E), x < mm → (x = 0 ∨ x = 1 ∨ x = 2 ∨ x = 3) → (ev = -9 ∨ ∃ q, q < 10 ∧ q < fi fr ∧ ev = nI q) → (fr < 4) → (pB jd1) → (chV lx fi y0 3 a0 (nI i0) 0 0 = chV lx fi y0 x fr ev sv dv) → h2543[88]? = some (oB 9 (lM G (nI sp) (nI fa) (nI nb) (nI ns) (nI nm) ho ow sl (nI nv) (nI sh))) → h2543[89]? = some (aI 7 rg) → h2543[90]? = some (aI 20 (nA m)) → h2543[91]? = some (aI 4 (nA ye)) → h2543[93]? = some (aI 40 W) → h2543[94]? = some (aI 40 Z) → h2543[95]? = some (aI 40 Ro) → h2543[96]? = some (aI 40 Co) → h2543[97]? = some (aI 30 (nA b1)) → h2543[98]? = some (aI 30 (nA b2)) → h2543[92]? = some (aI 4 (nA fi)) → h2543[99]? = some (aI 100 lk1) → h2543[100]? = some (aI 11264 su1) → h2543[101]? = some (aI 10 jd1) → h2543[102]? = some (aI 11264 wy1) → rg2 89 89 99 102 h h2543 → AW l G yX9_chain cX9_chain 15 (some .int) (xR 6 0 0) (fun _ _ => True) QF 0 0 170 [(11, .int (nI (p10 x))), (10, .int ev), (9, .int (nI fr)), (8, .int dv), (7, .int sv), (4, .int v), (3, .int (nI y0)), (0, .ref (G.1 + 88))] [] h2543 from L2560 (3 + 1) 3 (nI i0) a0 0 0 lk su jd wy _ (Nat.lt_succ_self _) (by decide) (Or.inr ⟨_, by omega, by omega, rfl⟩) (by omega) (hjd) (rfl) h88 h89 h90 h91 h93 h94 h95 h96 h97 h98 h92 h99 h100 h101 h102 (rg2_rf 89 89 99 102 h)
                        intro mm
                        induction mm with
                        | zero =>
                          intro x ev fr dv sv lk1 su1 jd1 wy1 h2543 hmm hx he bfr hp hcv f2544 f2545 f2546 f2547 f2548 f2549 f2550 f2551 f2552 f2553 f2554 f2555 f2556 f2557 f2558 k2559
                          exact absurd hmm (Nat.not_lt_zero _)
                        | succ mm ih2560 =>
                          intro x ev fr dv sv lk1 su1 jd1 wy1 h2543 hmm hx he bfr hp hcv f2544 f2545 f2546 f2547 f2548 f2549 f2550 f2551 f2552 f2553 f2554 f2555 f2556 f2557 f2558 k2559
                          rcases hx with rfl | rfl | rfl | rfl
                          · refine aw_lv [(11, .int 0), (10, .int ev), (9, .int (nI fr)), (8, .int dv), (7, .int sv), (4, .int v), (3, .int (nI y0)), (0, .ref (G.1 + 88))] [0, 1, 2, 3, 4, 5, 6, 7] rfl ?_
                            refine aw_iload 0 dX9_chain_170 rfl ?_
                            refine aw_if_le 274 dX9_chain_172 (by decide) (fun c172 => ?_) (fun c172 => absurd (by decide) c172)
                            refine aw_iload 5 dX9_chain_274 rfl ?_
                            refine aw_if_ne 284 dX9_chain_276 (by decide) (fun c276 => ?_) (fun c276 => ?_)
                            · have d276 := mt (j_eq (a := v.toInt) (b := (0)) (rfl) (rfl)).mpr c276
                              refine aw_iload 5 dX9_chain_284 rfl ?_
                              refine aw_iconst (1) dX9_chain_286 (by decide) ?_
                              refine aw_icmp_ne 295 dX9_chain_287 (by decide) (fun c287 => ?_) (fun c287 => ?_)
                              · have d287 := mt (j_eq (a := v.toInt) (b := (1)) (rfl) (rfl)).mpr c287
                                refine aw_iload 3 dX9_chain_295 rfl ?_
                                subst hQF
                                exact aw_iret rfl dX9_chain_297 (by decide) (by decide) ⟨by rw [chA_y hEW (by omega), nn_y0, nn_a0, hcv, chV_z, chR_2 c276 c287], _, _, _, _, _, f2555, f2556, f2557, f2558, f2545, k2559, hp⟩
                              · have d287 := (j_eq (a := v.toInt) (b := (1)) (rfl) (rfl)).mp c287
                                refine aw_iload 4 dX9_chain_290 rfl ?_
                                refine aw_goto 297 dX9_chain_292 (by decide) ?_
                                subst hQF
                                exact aw_iret rfl dX9_chain_297 (by decide) (by decide) ⟨by rw [chA_y hEW (by omega), nn_y0, nn_a0, hcv, chV_z, chR_1 c276 c287], _, _, _, _, _, f2555, f2556, f2557, f2558, f2545, k2559, hp⟩
                            · have d276 := (j_eq (a := v.toInt) (b := (0)) (rfl) (rfl)).mp c276
                              refine aw_iload 1 dX9_chain_279 rfl ?_
                              refine aw_goto 297 dX9_chain_281 (by decide) ?_
                              subst hQF
                              exact aw_iret rfl dX9_chain_297 (by decide) (by decide) ⟨by rw [chA_y hEW (by omega), nn_y0, nn_a0, hcv, chV_z, chR_0 c276], _, _, _, _, _, f2555, f2556, f2557, f2558, f2545, k2559, hp⟩
                          · refine aw_lv [(11, .int 1), (10, .int ev), (9, .int (nI fr)), (8, .int dv), (7, .int sv), (4, .int v), (3, .int (nI y0)), (0, .ref (G.1 + 88))] [0, 1, 2, 3, 4, 5, 6, 7] rfl ?_
                            refine aw_iload 0 dX9_chain_170 rfl ?_
                            refine aw_if_le 274 dX9_chain_172 (by decide) (fun c172 => absurd c172 (by decide)) (fun c172 => ?_)
                            refine aw_iload 1 dX9_chain_175 rfl ?_
                            refine aw_if_lt 274 dX9_chain_177 (by decide) (fun c177 => ?_) (fun c177 => ?_)
                            · have d177 := (j_lt (a := ev.toInt) (b := (0)) (rfl) (rfl)).mp c177
                              refine aw_iload 5 dX9_chain_274 rfl ?_
                              refine aw_if_ne 284 dX9_chain_276 (by decide) (fun c276 => ?_) (fun c276 => ?_)
                              · have d276 := mt (j_eq (a := v.toInt) (b := (0)) (rfl) (rfl)).mpr c276
                                refine aw_iload 5 dX9_chain_284 rfl ?_
                                refine aw_iconst (1) dX9_chain_286 (by decide) ?_
                                refine aw_icmp_ne 295 dX9_chain_287 (by decide) (fun c287 => ?_) (fun c287 => ?_)
                                · have d287 := mt (j_eq (a := v.toInt) (b := (1)) (rfl) (rfl)).mpr c287
                                  refine aw_iload 3 dX9_chain_295 rfl ?_
                                  subst hQF
                                  have e9 : ev = -9 := he.elim id (fun ⟨q9, h9, _, e⟩ => by exfalso; rw [e, nI_toInt (by omega)] at d177; omega)
                                  exact aw_iret rfl dX9_chain_297 (by decide) (by decide) ⟨by rw [chA_y hEW (by omega), nn_y0, nn_a0, hcv, e9, chV_9, chR_2 c276 c287], _, _, _, _, _, f2555, f2556, f2557, f2558, f2545, k2559, hp⟩
                                · have d287 := (j_eq (a := v.toInt) (b := (1)) (rfl) (rfl)).mp c287
                                  refine aw_iload 4 dX9_chain_290 rfl ?_
                                  refine aw_goto 297 dX9_chain_292 (by decide) ?_
                                  subst hQF
                                  have e9 : ev = -9 := he.elim id (fun ⟨q9, h9, _, e⟩ => by exfalso; rw [e, nI_toInt (by omega)] at d177; omega)
                                  exact aw_iret rfl dX9_chain_297 (by decide) (by decide) ⟨by rw [chA_y hEW (by omega), nn_y0, nn_a0, hcv, e9, chV_9, chR_1 c276 c287], _, _, _, _, _, f2555, f2556, f2557, f2558, f2545, k2559, hp⟩
                              · have d276 := (j_eq (a := v.toInt) (b := (0)) (rfl) (rfl)).mp c276
                                refine aw_iload 1 dX9_chain_279 rfl ?_
                                refine aw_goto 297 dX9_chain_281 (by decide) ?_
                                subst hQF
                                have e9 : ev = -9 := he.elim id (fun ⟨q9, h9, _, e⟩ => by exfalso; rw [e, nI_toInt (by omega)] at d177; omega)
                                exact aw_iret rfl dX9_chain_297 (by decide) (by decide) ⟨by rw [chA_y hEW (by omega), nn_y0, nn_a0, hcv, e9, chV_9, chR_0 c276], _, _, _, _, _, f2555, f2556, f2557, f2558, f2545, k2559, hp⟩
                            · have d177 := mt (j_lt (a := ev.toInt) (b := (0)) (rfl) (rfl)).mpr c177
                              obtain ⟨q, bq, bqf, rfl⟩ := he.resolve_left (fun e => by rw [e] at d177; exact d177 (by decide))
                              refine aw_iload_n 6 dX9_chain_180 rfl rfl ?_
                              refine aw_iload 0 dX9_chain_181 rfl ?_
                              refine aw_idiv dX9_chain_183 (by decide) ?_
                              refine aw_toe (nI (y0 / 1)) (nv_div (rfl) (rfl) (by omega) (by decide) (by decide)) ?_
                              refine aw_bipush (10) dX9_chain_184 (by decide) ?_
                              refine aw_irem dX9_chain_186 (by decide) ?_
                              refine aw_toe (nI ((y0 / 1) % 10)) (nv_rem (rfl) (rfl) (by omega) (by decide) (by decide)) ?_
                              refine aw_iconst (1) dX9_chain_187 (by decide) ?_
                              refine aw_isub dX9_chain_188 ?_
                              refine aw_toe (nI (((y0 / 1) % 10) - 1)) (nv_sub (rfl) (rfl) (by omega)) ?_
                              refine aw_istore [(12, .int (nI (((y0 / 1) % 10) - 1))), (11, .int 1), (10, .int (nI q)), (9, .int (nI fr)), (8, .int dv), (7, .int sv), (4, .int v), (3, .int (nI y0)), (0, .ref (G.1 + 88))] dX9_chain_189 (by decide) rfl ?_
                              refine aw_aload_n 8 dX9_chain_191 rfl rfl ?_
                              refine aw_iload 3 dX9_chain_192 rfl ?_
                              refine aw_iload 2 dX9_chain_194 rfl ?_
                              refine aw_iload 0 dX9_chain_196 rfl ?_
                              refine aw_eV [.int (nI fr), .int (nI q), .int (nI (((y0 / 1) % 10) - 1))] [] lX9_190 vX9_isSure mX9_isSure dX9_chain_198 (bX9_isSure (sp := sp) (fa := fa) (nb := nb) (ns := ns) (nm := nm) (nv := nv) (sh := sh) (ho := ho) (ow := ow) (sl := sl) (m := m) (ye := ye) (b1 := b1) (b2 := b2) (W := W) (Z := Z) (Ro := Ro) (Co := Co) (fi := fi) (lk := lk1) (su := su1) (jd := jd1) (wy := wy1) (a := fr) (b := ((y0 / 1) % 10) - 1) (i := q) (lx := lx fr (((y0 / 1) % 10) - 1)) f2544 f2546 f2547 f2548 f2549 f2550 f2551 f2552 f2553 f2554 f2555 f2556 f2557 f2558 hm hye (by omega) bb1 bb2 (by omega) (by omega) hfi (by omega) (by omega) (by omega) (by omega) (by omega) (hlx fr (by omega) (((y0 / 1) % 10) - 1) (by omega)) (hlx3 fr (((y0 / 1) % 10) - 1))) f2544 rfl rfl rfl (Nat.le_of_ble_eq_true rfl) (by decide) (by decide) rfl (fun h2566 q2565 => ?_)
                              obtain ⟨lk12561, su12562, jd12563, wy12564, f2567, f2568, f2569, f2570, k2571, p2572, p2573⟩ := q2565
                              have f2574 := rng_at k2571 (by decide) f2544
                              have f2575 := rng_at k2571 (by decide) f2545
                              have f2576 := rng_at k2571 (by decide) f2546
                              have f2577 := rng_at k2571 (by decide) f2547
                              have f2578 := rng_at k2571 (by decide) f2548
                              have f2579 := rng_at k2571 (by decide) f2549
                              have f2580 := rng_at k2571 (by decide) f2550
                              have f2581 := rng_at k2571 (by decide) f2551
                              have f2582 := rng_at k2571 (by decide) f2552
                              have f2583 := rng_at k2571 (by decide) f2553
                              have f2584 := rng_at k2571 (by decide) f2554
                              refine aw_istore [(13, .int (if jU (lx fr (((y0 / 1) % 10) - 1)) (fi (((y0 / 1) % 10) - 1)) (fi fr) q then 1 else 0)), (12, .int (nI (((y0 / 1) % 10) - 1))), (11, .int 1), (10, .int (nI q)), (9, .int (nI fr)), (8, .int dv), (7, .int sv), (4, .int v), (3, .int (nI y0)), (0, .ref (G.1 + 88))] dX9_chain_201 (by decide) rfl ?_
                              refine aw_aload_n 9 dX9_chain_203 rfl rfl ?_
                              refine aw_get fX9_53 dX9_chain_204 f2574 rfl ?_
                              refine aw_iload 3 dX9_chain_207 rfl ?_
                              refine aw_iald q (rfl) (by omega) (by decide) dX9_chain_209 f2569 ?_
                              refine aw_istore [(14, .int (jd12563 q)), (13, .int (if jU (lx fr (((y0 / 1) % 10) - 1)) (fi (((y0 / 1) % 10) - 1)) (fi fr) q then 1 else 0)), (12, .int (nI (((y0 / 1) % 10) - 1))), (11, .int 1), (10, .int (nI q)), (9, .int (nI fr)), (8, .int dv), (7, .int sv), (4, .int v), (3, .int (nI y0)), (0, .ref (G.1 + 88))] dX9_chain_210 (by decide) rfl ?_
                              refine aw_iload 0 dX9_chain_212 rfl ?_
                              refine aw_if_lt 256 dX9_chain_214 (by decide) (fun c214 => ?_) (fun c214 => ?_)
                              · have d214 := (j_lt (a := (jd12563 q).toInt) (b := (0)) (rfl) (rfl)).mp c214
                                refine aw_iload 0 dX9_chain_256 rfl ?_
                                refine aw_istore [(10, .int (jd12563 q)), (14, .int (jd12563 q)), (13, .int (if jU (lx fr (((y0 / 1) % 10) - 1)) (fi (((y0 / 1) % 10) - 1)) (fi fr) q then 1 else 0)), (12, .int (nI (((y0 / 1) % 10) - 1))), (11, .int 1), (9, .int (nI fr)), (8, .int dv), (7, .int sv), (4, .int v), (3, .int (nI y0)), (0, .ref (G.1 + 88))] dX9_chain_258 (by decide) rfl ?_
                                refine aw_iload 3 dX9_chain_260 rfl ?_
                                refine aw_istore [(9, .int (nI (((y0 / 1) % 10) - 1))), (10, .int (jd12563 q)), (14, .int (jd12563 q)), (13, .int (if jU (lx fr (((y0 / 1) % 10) - 1)) (fi (((y0 / 1) % 10) - 1)) (fi fr) q then 1 else 0)), (12, .int (nI (((y0 / 1) % 10) - 1))), (11, .int 1), (8, .int dv), (7, .int sv), (4, .int v), (3, .int (nI y0)), (0, .ref (G.1 + 88))] dX9_chain_262 (by decide) rfl ?_
                                refine aw_iload 5 dX9_chain_264 rfl ?_
                                refine aw_bipush (10) dX9_chain_266 (by decide) ?_
                                refine aw_idiv dX9_chain_268 (by decide) ?_
                                refine aw_toe 0 (by decide) ?_
                                refine aw_istore [(11, .int 0), (9, .int (nI (((y0 / 1) % 10) - 1))), (10, .int (jd12563 q)), (14, .int (jd12563 q)), (13, .int (if jU (lx fr (((y0 / 1) % 10) - 1)) (fi (((y0 / 1) % 10) - 1)) (fi fr) q then 1 else 0)), (12, .int (nI (((y0 / 1) % 10) - 1))), (8, .int dv), (7, .int sv), (4, .int v), (3, .int (nI y0)), (0, .ref (G.1 + 88))] dX9_chain_269 (by decide) rfl ?_
                                refine aw_goto 170 dX9_chain_271 (by decide) ?_
                                refine aw_lv [(11, .int 0), (10, .int (jd12563 q)), (9, .int (nI (((y0 / 1) % 10) - 1))), (8, .int dv), (7, .int sv), (4, .int v), (3, .int (nI y0)), (0, .ref (G.1 + 88))] [0, 2, 1, 6, 7, 8, 9, 10] rfl ?_
                                have e9 := pB_9 p2572 (show q < 10 by omega) (by omega)
                                exact ih2560 0 (jd12563 q) (((y0 / 1) % 10) - 1) dv sv lk12561 su12562 jd12563 wy12564 _ (by omega) (by decide) (Or.inl e9) (by omega) (p2572) (by rw [e9]; exact hcv.trans (chV_n (t := y0 / 1 % 10 - 1) (by omega) (by show ¬ y0 / 1 % 10 = 0; omega) rfl ((p2573 q bqf).symm.trans e9))) f2574 f2575 f2576 f2577 f2578 f2579 f2580 f2581 f2582 f2583 f2584 f2567 f2568 f2569 f2570 (rg2_tr (k2559) (rg2_w k2571 (by decide)))
                              · have d214 := mt (j_lt (a := (jd12563 q).toInt) (b := (0)) (rfl) (rfl)).mpr c214
                                obtain ⟨q2, bq2, eq2⟩ := pB_g p2572 (show q < 10 by omega) d214
                                have fb9 := hfi (y0 / 1 % 10 - 1) (by omega)
                                have hP := (p2573 q bqf).symm.trans eq2
                                have bq2f := jP_lt (by omega) (by omega) hP
                                rw [eq2]
                                refine aw_iinc (j := 7) (sv + 1) [(7, .int (sv + 1)), (14, .int (nI q2)), (13, .int (if jU (lx fr (((y0 / 1) % 10) - 1)) (fi (((y0 / 1) % 10) - 1)) (fi fr) q then 1 else 0)), (12, .int (nI (((y0 / 1) % 10) - 1))), (11, .int 1), (10, .int (nI q)), (9, .int (nI fr)), (8, .int dv), (4, .int v), (3, .int (nI y0)), (0, .ref (G.1 + 88))] dX9_chain_217 rfl (by rfl) (by decide) rfl ?_
                                refine aw_iload 7 dX9_chain_220 rfl ?_
                                refine aw_iconst (0) dX9_chain_222 (by decide) ?_
                                refine aw_bipush (100) dX9_chain_223 (by decide) ?_
                                refine aw_aload_n 10 dX9_chain_225 rfl rfl ?_
                                refine aw_iload 6 dX9_chain_226 rfl ?_
                                refine aw_iload 5 dX9_chain_228 rfl ?_
                                refine aw_iload 3 dX9_chain_230 rfl ?_
                                refine aw_iload 1 dX9_chain_232 rfl ?_
                                refine aw_dV [.int (nI fr), .int (nI q), .int (nI (((y0 / 1) % 10) - 1)), .int (nI q2)] [.int 100, .int 0, .int dv] lX9_166 vX9_likeOf mX9_likeOf dX9_chain_234 (bX9_likeOf (sp := sp) (fa := fa) (nb := nb) (ns := ns) (nm := nm) (nv := nv) (sh := sh) (ho := ho) (ow := ow) (sl := sl) (m := m) (ye := ye) (b1 := b1) (b2 := b2) (W := W) (Z := Z) (Ro := Ro) (Co := Co) (a := fr) (i := q) (b := ((y0 / 1) % 10) - 1) (k := q2) f2574 f2576 f2577 f2578 f2579 f2580 f2581 f2582 f2583 hm hye (by omega) bb1 bb2 (by omega) (by omega) (by omega) (by omega) (by omega) (by omega)) f2574 rfl rfl rfl (Nat.le_of_ble_eq_true rfl) (by decide) (by decide) rfl ?_
                                refine aw_toe (nI (lx fr (((y0 / 1) % 10) - 1) q q2)) (hlx fr (by omega) (((y0 / 1) % 10) - 1) (by omega) q (by omega) q2 (by omega)) ?_
                                refine aw_isub dX9_chain_237 ?_
                                refine aw_mmax lX9_162 dX9_chain_238 (Nat.le_of_ble_eq_true rfl) (by decide) (by decide) ?_
                                refine aw_toe (chX (nI (lx fr (((y0 / 1) % 10) - 1) q q2))) (rfl) ?_
                                refine aw_iload 2 dX9_chain_241 rfl ?_
                                refine aw_if_eq 250 dX9_chain_243 (by decide) (fun c243 => ?_) (fun c243 => ?_)
                                · have t243 := ite_0 c243
                                  refine aw_bipush (50) dX9_chain_250 (by decide) ?_
                                  refine aw_iadd dX9_chain_252 ?_
                                  refine aw_iadd dX9_chain_253 ?_
                                  refine aw_istore [(8, .int (dv + ((chX (nI (lx fr (((y0 / 1) % 10) - 1) q q2))) + 50))), (7, .int (sv + 1)), (14, .int (nI q2)), (13, .int (if jU (lx fr (((y0 / 1) % 10) - 1)) (fi (((y0 / 1) % 10) - 1)) (fi fr) q then 1 else 0)), (12, .int (nI (((y0 / 1) % 10) - 1))), (11, .int 1), (10, .int (nI q)), (9, .int (nI fr)), (4, .int v), (3, .int (nI y0)), (0, .ref (G.1 + 88))] dX9_chain_254 (by decide) rfl ?_
                                  refine aw_iload 2 dX9_chain_256 rfl ?_
                                  refine aw_istore [(10, .int (nI q2)), (8, .int (dv + ((chX (nI (lx fr (((y0 / 1) % 10) - 1) q q2))) + 50))), (7, .int (sv + 1)), (14, .int (nI q2)), (13, .int (if jU (lx fr (((y0 / 1) % 10) - 1)) (fi (((y0 / 1) % 10) - 1)) (fi fr) q then 1 else 0)), (12, .int (nI (((y0 / 1) % 10) - 1))), (11, .int 1), (9, .int (nI fr)), (4, .int v), (3, .int (nI y0)), (0, .ref (G.1 + 88))] dX9_chain_258 (by decide) rfl ?_
                                  refine aw_iload 5 dX9_chain_260 rfl ?_
                                  refine aw_istore [(9, .int (nI (((y0 / 1) % 10) - 1))), (10, .int (nI q2)), (8, .int (dv + ((chX (nI (lx fr (((y0 / 1) % 10) - 1) q q2))) + 50))), (7, .int (sv + 1)), (14, .int (nI q2)), (13, .int (if jU (lx fr (((y0 / 1) % 10) - 1)) (fi (((y0 / 1) % 10) - 1)) (fi fr) q then 1 else 0)), (12, .int (nI (((y0 / 1) % 10) - 1))), (11, .int 1), (4, .int v), (3, .int (nI y0)), (0, .ref (G.1 + 88))] dX9_chain_262 (by decide) rfl ?_
                                  refine aw_iload 7 dX9_chain_264 rfl ?_
                                  refine aw_bipush (10) dX9_chain_266 (by decide) ?_
                                  refine aw_idiv dX9_chain_268 (by decide) ?_
                                  refine aw_toe 0 (by decide) ?_
                                  refine aw_istore [(11, .int 0), (9, .int (nI (((y0 / 1) % 10) - 1))), (10, .int (nI q2)), (8, .int (dv + ((chX (nI (lx fr (((y0 / 1) % 10) - 1) q q2))) + 50))), (7, .int (sv + 1)), (14, .int (nI q2)), (13, .int (if jU (lx fr (((y0 / 1) % 10) - 1)) (fi (((y0 / 1) % 10) - 1)) (fi fr) q then 1 else 0)), (12, .int (nI (((y0 / 1) % 10) - 1))), (4, .int v), (3, .int (nI y0)), (0, .ref (G.1 + 88))] dX9_chain_269 (by decide) rfl ?_
                                  refine aw_goto 170 dX9_chain_271 (by decide) ?_
                                  refine aw_lv [(11, .int 0), (10, .int (nI q2)), (9, .int (nI (((y0 / 1) % 10) - 1))), (8, .int (dv + ((chX (nI (lx fr (((y0 / 1) % 10) - 1) q q2))) + 50))), (7, .int (sv + 1)), (4, .int v), (3, .int (nI y0)), (0, .ref (G.1 + 88))] [0, 2, 1, 3, 4, 8, 9, 10] rfl ?_
                                  exact ih2560 0 (nI q2) (((y0 / 1) % 10) - 1) (dv + ((chX (nI (lx fr (((y0 / 1) % 10) - 1) q q2))) + 50)) (sv + 1) lk12561 su12562 jd12563 wy12564 _ (by omega) (by decide) (Or.inr ⟨_, bq2, bq2f, rfl⟩) (by omega) (p2572) (hcv.trans (chV_s (t := y0 / 1 % 10 - 1) (by omega) (by omega) (by show ¬ y0 / 1 % 10 = 0; omega) rfl hP (by rw [if_neg t243]))) f2574 f2575 f2576 f2577 f2578 f2579 f2580 f2581 f2582 f2583 f2584 f2567 f2568 f2569 f2570 (rg2_tr (k2559) (rg2_w k2571 (by decide)))
                                · have t243 := ite_1 c243
                                  refine aw_iconst (0) dX9_chain_246 (by decide) ?_
                                  refine aw_goto 252 dX9_chain_247 (by decide) ?_
                                  refine aw_iadd dX9_chain_252 ?_
                                  refine aw_iadd dX9_chain_253 ?_
                                  refine aw_istore [(8, .int (dv + ((chX (nI (lx fr (((y0 / 1) % 10) - 1) q q2))) + 0))), (7, .int (sv + 1)), (14, .int (nI q2)), (13, .int (if jU (lx fr (((y0 / 1) % 10) - 1)) (fi (((y0 / 1) % 10) - 1)) (fi fr) q then 1 else 0)), (12, .int (nI (((y0 / 1) % 10) - 1))), (11, .int 1), (10, .int (nI q)), (9, .int (nI fr)), (4, .int v), (3, .int (nI y0)), (0, .ref (G.1 + 88))] dX9_chain_254 (by decide) rfl ?_
                                  refine aw_iload 2 dX9_chain_256 rfl ?_
                                  refine aw_istore [(10, .int (nI q2)), (8, .int (dv + ((chX (nI (lx fr (((y0 / 1) % 10) - 1) q q2))) + 0))), (7, .int (sv + 1)), (14, .int (nI q2)), (13, .int (if jU (lx fr (((y0 / 1) % 10) - 1)) (fi (((y0 / 1) % 10) - 1)) (fi fr) q then 1 else 0)), (12, .int (nI (((y0 / 1) % 10) - 1))), (11, .int 1), (9, .int (nI fr)), (4, .int v), (3, .int (nI y0)), (0, .ref (G.1 + 88))] dX9_chain_258 (by decide) rfl ?_
                                  refine aw_iload 5 dX9_chain_260 rfl ?_
                                  refine aw_istore [(9, .int (nI (((y0 / 1) % 10) - 1))), (10, .int (nI q2)), (8, .int (dv + ((chX (nI (lx fr (((y0 / 1) % 10) - 1) q q2))) + 0))), (7, .int (sv + 1)), (14, .int (nI q2)), (13, .int (if jU (lx fr (((y0 / 1) % 10) - 1)) (fi (((y0 / 1) % 10) - 1)) (fi fr) q then 1 else 0)), (12, .int (nI (((y0 / 1) % 10) - 1))), (11, .int 1), (4, .int v), (3, .int (nI y0)), (0, .ref (G.1 + 88))] dX9_chain_262 (by decide) rfl ?_
                                  refine aw_iload 7 dX9_chain_264 rfl ?_
                                  refine aw_bipush (10) dX9_chain_266 (by decide) ?_
                                  refine aw_idiv dX9_chain_268 (by decide) ?_
                                  refine aw_toe 0 (by decide) ?_
                                  refine aw_istore [(11, .int 0), (9, .int (nI (((y0 / 1) % 10) - 1))), (10, .int (nI q2)), (8, .int (dv + ((chX (nI (lx fr (((y0 / 1) % 10) - 1) q q2))) + 0))), (7, .int (sv + 1)), (14, .int (nI q2)), (13, .int (if jU (lx fr (((y0 / 1) % 10) - 1)) (fi (((y0 / 1) % 10) - 1)) (fi fr) q then 1 else 0)), (12, .int (nI (((y0 / 1) % 10) - 1))), (4, .int v), (3, .int (nI y0)), (0, .ref (G.1 + 88))] dX9_chain_269 (by decide) rfl ?_
                                  refine aw_goto 170 dX9_chain_271 (by decide) ?_
                                  refine aw_lv [(11, .int 0), (10, .int (nI q2)), (9, .int (nI (((y0 / 1) % 10) - 1))), (8, .int (dv + ((chX (nI (lx fr (((y0 / 1) % 10) - 1) q q2))) + 0))), (7, .int (sv + 1)), (4, .int v), (3, .int (nI y0)), (0, .ref (G.1 + 88))] [0, 2, 1, 3, 4, 8, 9, 10] rfl ?_
                                  exact ih2560 0 (nI q2) (((y0 / 1) % 10) - 1) (dv + ((chX (nI (lx fr (((y0 / 1) % 10) - 1) q q2))) + 0)) (sv + 1) lk12561 su12562 jd12563 wy12564 _ (by omega) (by decide) (Or.inr ⟨_, bq2, bq2f, rfl⟩) (by omega) (p2572) (hcv.trans (chV_s (t := y0 / 1 % 10 - 1) (by omega) (by omega) (by show ¬ y0 / 1 % 10 = 0; omega) rfl hP (by rw [if_pos t243]))) f2574 f2575 f2576 f2577 f2578 f2579 f2580 f2581 f2582 f2583 f2584 f2567 f2568 f2569 f2570 (rg2_tr (k2559) (rg2_w k2571 (by decide)))
                          · refine aw_lv [(11, .int 10), (10, .int ev), (9, .int (nI fr)), (8, .int dv), (7, .int sv), (4, .int v), (3, .int (nI y0)), (0, .ref (G.1 + 88))] [0, 1, 2, 3, 4, 5, 6, 7] rfl ?_
                            refine aw_iload 0 dX9_chain_170 rfl ?_
                            refine aw_if_le 274 dX9_chain_172 (by decide) (fun c172 => absurd c172 (by decide)) (fun c172 => ?_)
                            refine aw_iload 1 dX9_chain_175 rfl ?_
                            refine aw_if_lt 274 dX9_chain_177 (by decide) (fun c177 => ?_) (fun c177 => ?_)
                            · have d177 := (j_lt (a := ev.toInt) (b := (0)) (rfl) (rfl)).mp c177
                              refine aw_iload 5 dX9_chain_274 rfl ?_
                              refine aw_if_ne 284 dX9_chain_276 (by decide) (fun c276 => ?_) (fun c276 => ?_)
                              · have d276 := mt (j_eq (a := v.toInt) (b := (0)) (rfl) (rfl)).mpr c276
                                refine aw_iload 5 dX9_chain_284 rfl ?_
                                refine aw_iconst (1) dX9_chain_286 (by decide) ?_
                                refine aw_icmp_ne 295 dX9_chain_287 (by decide) (fun c287 => ?_) (fun c287 => ?_)
                                · have d287 := mt (j_eq (a := v.toInt) (b := (1)) (rfl) (rfl)).mpr c287
                                  refine aw_iload 3 dX9_chain_295 rfl ?_
                                  subst hQF
                                  have e9 : ev = -9 := he.elim id (fun ⟨q9, h9, _, e⟩ => by exfalso; rw [e, nI_toInt (by omega)] at d177; omega)
                                  exact aw_iret rfl dX9_chain_297 (by decide) (by decide) ⟨by rw [chA_y hEW (by omega), nn_y0, nn_a0, hcv, e9, chV_9, chR_2 c276 c287], _, _, _, _, _, f2555, f2556, f2557, f2558, f2545, k2559, hp⟩
                                · have d287 := (j_eq (a := v.toInt) (b := (1)) (rfl) (rfl)).mp c287
                                  refine aw_iload 4 dX9_chain_290 rfl ?_
                                  refine aw_goto 297 dX9_chain_292 (by decide) ?_
                                  subst hQF
                                  have e9 : ev = -9 := he.elim id (fun ⟨q9, h9, _, e⟩ => by exfalso; rw [e, nI_toInt (by omega)] at d177; omega)
                                  exact aw_iret rfl dX9_chain_297 (by decide) (by decide) ⟨by rw [chA_y hEW (by omega), nn_y0, nn_a0, hcv, e9, chV_9, chR_1 c276 c287], _, _, _, _, _, f2555, f2556, f2557, f2558, f2545, k2559, hp⟩
                              · have d276 := (j_eq (a := v.toInt) (b := (0)) (rfl) (rfl)).mp c276
                                refine aw_iload 1 dX9_chain_279 rfl ?_
                                refine aw_goto 297 dX9_chain_281 (by decide) ?_
                                subst hQF
                                have e9 : ev = -9 := he.elim id (fun ⟨q9, h9, _, e⟩ => by exfalso; rw [e, nI_toInt (by omega)] at d177; omega)
                                exact aw_iret rfl dX9_chain_297 (by decide) (by decide) ⟨by rw [chA_y hEW (by omega), nn_y0, nn_a0, hcv, e9, chV_9, chR_0 c276], _, _, _, _, _, f2555, f2556, f2557, f2558, f2545, k2559, hp⟩
                            · have d177 := mt (j_lt (a := ev.toInt) (b := (0)) (rfl) (rfl)).mpr c177
                              obtain ⟨q, bq, bqf, rfl⟩ := he.resolve_left (fun e => by rw [e] at d177; exact d177 (by decide))
                              refine aw_iload_n 6 dX9_chain_180 rfl rfl ?_
                              refine aw_iload 0 dX9_chain_181 rfl ?_
                              refine aw_idiv dX9_chain_183 (by decide) ?_
                              refine aw_toe (nI (y0 / 10)) (nv_div (rfl) (rfl) (by omega) (by decide) (by decide)) ?_
                              refine aw_bipush (10) dX9_chain_184 (by decide) ?_
                              refine aw_irem dX9_chain_186 (by decide) ?_
                              refine aw_toe (nI ((y0 / 10) % 10)) (nv_rem (rfl) (rfl) (by omega) (by decide) (by decide)) ?_
                              refine aw_iconst (1) dX9_chain_187 (by decide) ?_
                              refine aw_isub dX9_chain_188 ?_
                              refine aw_toe (nI (((y0 / 10) % 10) - 1)) (nv_sub (rfl) (rfl) (by omega)) ?_
                              refine aw_istore [(12, .int (nI (((y0 / 10) % 10) - 1))), (11, .int 10), (10, .int (nI q)), (9, .int (nI fr)), (8, .int dv), (7, .int sv), (4, .int v), (3, .int (nI y0)), (0, .ref (G.1 + 88))] dX9_chain_189 (by decide) rfl ?_
                              refine aw_aload_n 8 dX9_chain_191 rfl rfl ?_
                              refine aw_iload 3 dX9_chain_192 rfl ?_
                              refine aw_iload 2 dX9_chain_194 rfl ?_
                              refine aw_iload 0 dX9_chain_196 rfl ?_
                              refine aw_eV [.int (nI fr), .int (nI q), .int (nI (((y0 / 10) % 10) - 1))] [] lX9_190 vX9_isSure mX9_isSure dX9_chain_198 (bX9_isSure (sp := sp) (fa := fa) (nb := nb) (ns := ns) (nm := nm) (nv := nv) (sh := sh) (ho := ho) (ow := ow) (sl := sl) (m := m) (ye := ye) (b1 := b1) (b2 := b2) (W := W) (Z := Z) (Ro := Ro) (Co := Co) (fi := fi) (lk := lk1) (su := su1) (jd := jd1) (wy := wy1) (a := fr) (b := ((y0 / 10) % 10) - 1) (i := q) (lx := lx fr (((y0 / 10) % 10) - 1)) f2544 f2546 f2547 f2548 f2549 f2550 f2551 f2552 f2553 f2554 f2555 f2556 f2557 f2558 hm hye (by omega) bb1 bb2 (by omega) (by omega) hfi (by omega) (by omega) (by omega) (by omega) (by omega) (hlx fr (by omega) (((y0 / 10) % 10) - 1) (by omega)) (hlx3 fr (((y0 / 10) % 10) - 1))) f2544 rfl rfl rfl (Nat.le_of_ble_eq_true rfl) (by decide) (by decide) rfl (fun h2590 q2589 => ?_)
                              obtain ⟨lk12585, su12586, jd12587, wy12588, f2591, f2592, f2593, f2594, k2595, p2596, p2597⟩ := q2589
                              have f2598 := rng_at k2595 (by decide) f2544
                              have f2599 := rng_at k2595 (by decide) f2545
                              have f2600 := rng_at k2595 (by decide) f2546
                              have f2601 := rng_at k2595 (by decide) f2547
                              have f2602 := rng_at k2595 (by decide) f2548
                              have f2603 := rng_at k2595 (by decide) f2549
                              have f2604 := rng_at k2595 (by decide) f2550
                              have f2605 := rng_at k2595 (by decide) f2551
                              have f2606 := rng_at k2595 (by decide) f2552
                              have f2607 := rng_at k2595 (by decide) f2553
                              have f2608 := rng_at k2595 (by decide) f2554
                              refine aw_istore [(13, .int (if jU (lx fr (((y0 / 10) % 10) - 1)) (fi (((y0 / 10) % 10) - 1)) (fi fr) q then 1 else 0)), (12, .int (nI (((y0 / 10) % 10) - 1))), (11, .int 10), (10, .int (nI q)), (9, .int (nI fr)), (8, .int dv), (7, .int sv), (4, .int v), (3, .int (nI y0)), (0, .ref (G.1 + 88))] dX9_chain_201 (by decide) rfl ?_
                              refine aw_aload_n 9 dX9_chain_203 rfl rfl ?_
                              refine aw_get fX9_53 dX9_chain_204 f2598 rfl ?_
                              refine aw_iload 3 dX9_chain_207 rfl ?_
                              refine aw_iald q (rfl) (by omega) (by decide) dX9_chain_209 f2593 ?_
                              refine aw_istore [(14, .int (jd12587 q)), (13, .int (if jU (lx fr (((y0 / 10) % 10) - 1)) (fi (((y0 / 10) % 10) - 1)) (fi fr) q then 1 else 0)), (12, .int (nI (((y0 / 10) % 10) - 1))), (11, .int 10), (10, .int (nI q)), (9, .int (nI fr)), (8, .int dv), (7, .int sv), (4, .int v), (3, .int (nI y0)), (0, .ref (G.1 + 88))] dX9_chain_210 (by decide) rfl ?_
                              refine aw_iload 0 dX9_chain_212 rfl ?_
                              refine aw_if_lt 256 dX9_chain_214 (by decide) (fun c214 => ?_) (fun c214 => ?_)
                              · have d214 := (j_lt (a := (jd12587 q).toInt) (b := (0)) (rfl) (rfl)).mp c214
                                refine aw_iload 0 dX9_chain_256 rfl ?_
                                refine aw_istore [(10, .int (jd12587 q)), (14, .int (jd12587 q)), (13, .int (if jU (lx fr (((y0 / 10) % 10) - 1)) (fi (((y0 / 10) % 10) - 1)) (fi fr) q then 1 else 0)), (12, .int (nI (((y0 / 10) % 10) - 1))), (11, .int 10), (9, .int (nI fr)), (8, .int dv), (7, .int sv), (4, .int v), (3, .int (nI y0)), (0, .ref (G.1 + 88))] dX9_chain_258 (by decide) rfl ?_
                                refine aw_iload 3 dX9_chain_260 rfl ?_
                                refine aw_istore [(9, .int (nI (((y0 / 10) % 10) - 1))), (10, .int (jd12587 q)), (14, .int (jd12587 q)), (13, .int (if jU (lx fr (((y0 / 10) % 10) - 1)) (fi (((y0 / 10) % 10) - 1)) (fi fr) q then 1 else 0)), (12, .int (nI (((y0 / 10) % 10) - 1))), (11, .int 10), (8, .int dv), (7, .int sv), (4, .int v), (3, .int (nI y0)), (0, .ref (G.1 + 88))] dX9_chain_262 (by decide) rfl ?_
                                refine aw_iload 5 dX9_chain_264 rfl ?_
                                refine aw_bipush (10) dX9_chain_266 (by decide) ?_
                                refine aw_idiv dX9_chain_268 (by decide) ?_
                                refine aw_toe 1 (by decide) ?_
                                refine aw_istore [(11, .int 1), (9, .int (nI (((y0 / 10) % 10) - 1))), (10, .int (jd12587 q)), (14, .int (jd12587 q)), (13, .int (if jU (lx fr (((y0 / 10) % 10) - 1)) (fi (((y0 / 10) % 10) - 1)) (fi fr) q then 1 else 0)), (12, .int (nI (((y0 / 10) % 10) - 1))), (8, .int dv), (7, .int sv), (4, .int v), (3, .int (nI y0)), (0, .ref (G.1 + 88))] dX9_chain_269 (by decide) rfl ?_
                                refine aw_goto 170 dX9_chain_271 (by decide) ?_
                                refine aw_lv [(11, .int 1), (10, .int (jd12587 q)), (9, .int (nI (((y0 / 10) % 10) - 1))), (8, .int dv), (7, .int sv), (4, .int v), (3, .int (nI y0)), (0, .ref (G.1 + 88))] [0, 2, 1, 6, 7, 8, 9, 10] rfl ?_
                                have e9 := pB_9 p2596 (show q < 10 by omega) (by omega)
                                exact ih2560 1 (jd12587 q) (((y0 / 10) % 10) - 1) dv sv lk12585 su12586 jd12587 wy12588 _ (by omega) (by decide) (Or.inl e9) (by omega) (p2596) (by rw [e9]; exact hcv.trans (chV_n (t := y0 / 10 % 10 - 1) (by omega) (by show ¬ y0 / 10 % 10 = 0; omega) rfl ((p2597 q bqf).symm.trans e9))) f2598 f2599 f2600 f2601 f2602 f2603 f2604 f2605 f2606 f2607 f2608 f2591 f2592 f2593 f2594 (rg2_tr (k2559) (rg2_w k2595 (by decide)))
                              · have d214 := mt (j_lt (a := (jd12587 q).toInt) (b := (0)) (rfl) (rfl)).mpr c214
                                obtain ⟨q2, bq2, eq2⟩ := pB_g p2596 (show q < 10 by omega) d214
                                have fb9 := hfi (y0 / 10 % 10 - 1) (by omega)
                                have hP := (p2597 q bqf).symm.trans eq2
                                have bq2f := jP_lt (by omega) (by omega) hP
                                rw [eq2]
                                refine aw_iinc (j := 7) (sv + 1) [(7, .int (sv + 1)), (14, .int (nI q2)), (13, .int (if jU (lx fr (((y0 / 10) % 10) - 1)) (fi (((y0 / 10) % 10) - 1)) (fi fr) q then 1 else 0)), (12, .int (nI (((y0 / 10) % 10) - 1))), (11, .int 10), (10, .int (nI q)), (9, .int (nI fr)), (8, .int dv), (4, .int v), (3, .int (nI y0)), (0, .ref (G.1 + 88))] dX9_chain_217 rfl (by rfl) (by decide) rfl ?_
                                refine aw_iload 7 dX9_chain_220 rfl ?_
                                refine aw_iconst (0) dX9_chain_222 (by decide) ?_
                                refine aw_bipush (100) dX9_chain_223 (by decide) ?_
                                refine aw_aload_n 10 dX9_chain_225 rfl rfl ?_
                                refine aw_iload 6 dX9_chain_226 rfl ?_
                                refine aw_iload 5 dX9_chain_228 rfl ?_
                                refine aw_iload 3 dX9_chain_230 rfl ?_
                                refine aw_iload 1 dX9_chain_232 rfl ?_
                                refine aw_dV [.int (nI fr), .int (nI q), .int (nI (((y0 / 10) % 10) - 1)), .int (nI q2)] [.int 100, .int 0, .int dv] lX9_166 vX9_likeOf mX9_likeOf dX9_chain_234 (bX9_likeOf (sp := sp) (fa := fa) (nb := nb) (ns := ns) (nm := nm) (nv := nv) (sh := sh) (ho := ho) (ow := ow) (sl := sl) (m := m) (ye := ye) (b1 := b1) (b2 := b2) (W := W) (Z := Z) (Ro := Ro) (Co := Co) (a := fr) (i := q) (b := ((y0 / 10) % 10) - 1) (k := q2) f2598 f2600 f2601 f2602 f2603 f2604 f2605 f2606 f2607 hm hye (by omega) bb1 bb2 (by omega) (by omega) (by omega) (by omega) (by omega) (by omega)) f2598 rfl rfl rfl (Nat.le_of_ble_eq_true rfl) (by decide) (by decide) rfl ?_
                                refine aw_toe (nI (lx fr (((y0 / 10) % 10) - 1) q q2)) (hlx fr (by omega) (((y0 / 10) % 10) - 1) (by omega) q (by omega) q2 (by omega)) ?_
                                refine aw_isub dX9_chain_237 ?_
                                refine aw_mmax lX9_162 dX9_chain_238 (Nat.le_of_ble_eq_true rfl) (by decide) (by decide) ?_
                                refine aw_toe (chX (nI (lx fr (((y0 / 10) % 10) - 1) q q2))) (rfl) ?_
                                refine aw_iload 2 dX9_chain_241 rfl ?_
                                refine aw_if_eq 250 dX9_chain_243 (by decide) (fun c243 => ?_) (fun c243 => ?_)
                                · have t243 := ite_0 c243
                                  refine aw_bipush (50) dX9_chain_250 (by decide) ?_
                                  refine aw_iadd dX9_chain_252 ?_
                                  refine aw_iadd dX9_chain_253 ?_
                                  refine aw_istore [(8, .int (dv + ((chX (nI (lx fr (((y0 / 10) % 10) - 1) q q2))) + 50))), (7, .int (sv + 1)), (14, .int (nI q2)), (13, .int (if jU (lx fr (((y0 / 10) % 10) - 1)) (fi (((y0 / 10) % 10) - 1)) (fi fr) q then 1 else 0)), (12, .int (nI (((y0 / 10) % 10) - 1))), (11, .int 10), (10, .int (nI q)), (9, .int (nI fr)), (4, .int v), (3, .int (nI y0)), (0, .ref (G.1 + 88))] dX9_chain_254 (by decide) rfl ?_
                                  refine aw_iload 2 dX9_chain_256 rfl ?_
                                  refine aw_istore [(10, .int (nI q2)), (8, .int (dv + ((chX (nI (lx fr (((y0 / 10) % 10) - 1) q q2))) + 50))), (7, .int (sv + 1)), (14, .int (nI q2)), (13, .int (if jU (lx fr (((y0 / 10) % 10) - 1)) (fi (((y0 / 10) % 10) - 1)) (fi fr) q then 1 else 0)), (12, .int (nI (((y0 / 10) % 10) - 1))), (11, .int 10), (9, .int (nI fr)), (4, .int v), (3, .int (nI y0)), (0, .ref (G.1 + 88))] dX9_chain_258 (by decide) rfl ?_
                                  refine aw_iload 5 dX9_chain_260 rfl ?_
                                  refine aw_istore [(9, .int (nI (((y0 / 10) % 10) - 1))), (10, .int (nI q2)), (8, .int (dv + ((chX (nI (lx fr (((y0 / 10) % 10) - 1) q q2))) + 50))), (7, .int (sv + 1)), (14, .int (nI q2)), (13, .int (if jU (lx fr (((y0 / 10) % 10) - 1)) (fi (((y0 / 10) % 10) - 1)) (fi fr) q then 1 else 0)), (12, .int (nI (((y0 / 10) % 10) - 1))), (11, .int 10), (4, .int v), (3, .int (nI y0)), (0, .ref (G.1 + 88))] dX9_chain_262 (by decide) rfl ?_
                                  refine aw_iload 7 dX9_chain_264 rfl ?_
                                  refine aw_bipush (10) dX9_chain_266 (by decide) ?_
                                  refine aw_idiv dX9_chain_268 (by decide) ?_
                                  refine aw_toe 1 (by decide) ?_
                                  refine aw_istore [(11, .int 1), (9, .int (nI (((y0 / 10) % 10) - 1))), (10, .int (nI q2)), (8, .int (dv + ((chX (nI (lx fr (((y0 / 10) % 10) - 1) q q2))) + 50))), (7, .int (sv + 1)), (14, .int (nI q2)), (13, .int (if jU (lx fr (((y0 / 10) % 10) - 1)) (fi (((y0 / 10) % 10) - 1)) (fi fr) q then 1 else 0)), (12, .int (nI (((y0 / 10) % 10) - 1))), (4, .int v), (3, .int (nI y0)), (0, .ref (G.1 + 88))] dX9_chain_269 (by decide) rfl ?_
                                  refine aw_goto 170 dX9_chain_271 (by decide) ?_
                                  refine aw_lv [(11, .int 1), (10, .int (nI q2)), (9, .int (nI (((y0 / 10) % 10) - 1))), (8, .int (dv + ((chX (nI (lx fr (((y0 / 10) % 10) - 1) q q2))) + 50))), (7, .int (sv + 1)), (4, .int v), (3, .int (nI y0)), (0, .ref (G.1 + 88))] [0, 2, 1, 3, 4, 8, 9, 10] rfl ?_
                                  exact ih2560 1 (nI q2) (((y0 / 10) % 10) - 1) (dv + ((chX (nI (lx fr (((y0 / 10) % 10) - 1) q q2))) + 50)) (sv + 1) lk12585 su12586 jd12587 wy12588 _ (by omega) (by decide) (Or.inr ⟨_, bq2, bq2f, rfl⟩) (by omega) (p2596) (hcv.trans (chV_s (t := y0 / 10 % 10 - 1) (by omega) (by omega) (by show ¬ y0 / 10 % 10 = 0; omega) rfl hP (by rw [if_neg t243]))) f2598 f2599 f2600 f2601 f2602 f2603 f2604 f2605 f2606 f2607 f2608 f2591 f2592 f2593 f2594 (rg2_tr (k2559) (rg2_w k2595 (by decide)))
                                · have t243 := ite_1 c243
                                  refine aw_iconst (0) dX9_chain_246 (by decide) ?_
                                  refine aw_goto 252 dX9_chain_247 (by decide) ?_
                                  refine aw_iadd dX9_chain_252 ?_
                                  refine aw_iadd dX9_chain_253 ?_
                                  refine aw_istore [(8, .int (dv + ((chX (nI (lx fr (((y0 / 10) % 10) - 1) q q2))) + 0))), (7, .int (sv + 1)), (14, .int (nI q2)), (13, .int (if jU (lx fr (((y0 / 10) % 10) - 1)) (fi (((y0 / 10) % 10) - 1)) (fi fr) q then 1 else 0)), (12, .int (nI (((y0 / 10) % 10) - 1))), (11, .int 10), (10, .int (nI q)), (9, .int (nI fr)), (4, .int v), (3, .int (nI y0)), (0, .ref (G.1 + 88))] dX9_chain_254 (by decide) rfl ?_
                                  refine aw_iload 2 dX9_chain_256 rfl ?_
                                  refine aw_istore [(10, .int (nI q2)), (8, .int (dv + ((chX (nI (lx fr (((y0 / 10) % 10) - 1) q q2))) + 0))), (7, .int (sv + 1)), (14, .int (nI q2)), (13, .int (if jU (lx fr (((y0 / 10) % 10) - 1)) (fi (((y0 / 10) % 10) - 1)) (fi fr) q then 1 else 0)), (12, .int (nI (((y0 / 10) % 10) - 1))), (11, .int 10), (9, .int (nI fr)), (4, .int v), (3, .int (nI y0)), (0, .ref (G.1 + 88))] dX9_chain_258 (by decide) rfl ?_
                                  refine aw_iload 5 dX9_chain_260 rfl ?_
                                  refine aw_istore [(9, .int (nI (((y0 / 10) % 10) - 1))), (10, .int (nI q2)), (8, .int (dv + ((chX (nI (lx fr (((y0 / 10) % 10) - 1) q q2))) + 0))), (7, .int (sv + 1)), (14, .int (nI q2)), (13, .int (if jU (lx fr (((y0 / 10) % 10) - 1)) (fi (((y0 / 10) % 10) - 1)) (fi fr) q then 1 else 0)), (12, .int (nI (((y0 / 10) % 10) - 1))), (11, .int 10), (4, .int v), (3, .int (nI y0)), (0, .ref (G.1 + 88))] dX9_chain_262 (by decide) rfl ?_
                                  refine aw_iload 7 dX9_chain_264 rfl ?_
                                  refine aw_bipush (10) dX9_chain_266 (by decide) ?_
                                  refine aw_idiv dX9_chain_268 (by decide) ?_
                                  refine aw_toe 1 (by decide) ?_
                                  refine aw_istore [(11, .int 1), (9, .int (nI (((y0 / 10) % 10) - 1))), (10, .int (nI q2)), (8, .int (dv + ((chX (nI (lx fr (((y0 / 10) % 10) - 1) q q2))) + 0))), (7, .int (sv + 1)), (14, .int (nI q2)), (13, .int (if jU (lx fr (((y0 / 10) % 10) - 1)) (fi (((y0 / 10) % 10) - 1)) (fi fr) q then 1 else 0)), (12, .int (nI (((y0 / 10) % 10) - 1))), (4, .int v), (3, .int (nI y0)), (0, .ref (G.1 + 88))] dX9_chain_269 (by decide) rfl ?_
                                  refine aw_goto 170 dX9_chain_271 (by decide) ?_
                                  refine aw_lv [(11, .int 1), (10, .int (nI q2)), (9, .int (nI (((y0 / 10) % 10) - 1))), (8, .int (dv + ((chX (nI (lx fr (((y0 / 10) % 10) - 1) q q2))) + 0))), (7, .int (sv + 1)), (4, .int v), (3, .int (nI y0)), (0, .ref (G.1 + 88))] [0, 2, 1, 3, 4, 8, 9, 10] rfl ?_
                                  exact ih2560 1 (nI q2) (((y0 / 10) % 10) - 1) (dv + ((chX (nI (lx fr (((y0 / 10) % 10) - 1) q q2))) + 0)) (sv + 1) lk12585 su12586 jd12587 wy12588 _ (by omega) (by decide) (Or.inr ⟨_, bq2, bq2f, rfl⟩) (by omega) (p2596) (hcv.trans (chV_s (t := y0 / 10 % 10 - 1) (by omega) (by omega) (by show ¬ y0 / 10 % 10 = 0; omega) rfl hP (by rw [if_pos t243]))) f2598 f2599 f2600 f2601 f2602 f2603 f2604 f2605 f2606 f2607 f2608 f2591 f2592 f2593 f2594 (rg2_tr (k2559) (rg2_w k2595 (by decide)))
                          · refine aw_lv [(11, .int 100), (10, .int ev), (9, .int (nI fr)), (8, .int dv), (7, .int sv), (4, .int v), (3, .int (nI y0)), (0, .ref (G.1 + 88))] [0, 1, 2, 3, 4, 5, 6, 7] rfl ?_
                            refine aw_iload 0 dX9_chain_170 rfl ?_
                            refine aw_if_le 274 dX9_chain_172 (by decide) (fun c172 => absurd c172 (by decide)) (fun c172 => ?_)
                            refine aw_iload 1 dX9_chain_175 rfl ?_
                            refine aw_if_lt 274 dX9_chain_177 (by decide) (fun c177 => ?_) (fun c177 => ?_)
                            · have d177 := (j_lt (a := ev.toInt) (b := (0)) (rfl) (rfl)).mp c177
                              refine aw_iload 5 dX9_chain_274 rfl ?_
                              refine aw_if_ne 284 dX9_chain_276 (by decide) (fun c276 => ?_) (fun c276 => ?_)
                              · have d276 := mt (j_eq (a := v.toInt) (b := (0)) (rfl) (rfl)).mpr c276
                                refine aw_iload 5 dX9_chain_284 rfl ?_
                                refine aw_iconst (1) dX9_chain_286 (by decide) ?_
                                refine aw_icmp_ne 295 dX9_chain_287 (by decide) (fun c287 => ?_) (fun c287 => ?_)
                                · have d287 := mt (j_eq (a := v.toInt) (b := (1)) (rfl) (rfl)).mpr c287
                                  refine aw_iload 3 dX9_chain_295 rfl ?_
                                  subst hQF
                                  have e9 : ev = -9 := he.elim id (fun ⟨q9, h9, _, e⟩ => by exfalso; rw [e, nI_toInt (by omega)] at d177; omega)
                                  exact aw_iret rfl dX9_chain_297 (by decide) (by decide) ⟨by rw [chA_y hEW (by omega), nn_y0, nn_a0, hcv, e9, chV_9, chR_2 c276 c287], _, _, _, _, _, f2555, f2556, f2557, f2558, f2545, k2559, hp⟩
                                · have d287 := (j_eq (a := v.toInt) (b := (1)) (rfl) (rfl)).mp c287
                                  refine aw_iload 4 dX9_chain_290 rfl ?_
                                  refine aw_goto 297 dX9_chain_292 (by decide) ?_
                                  subst hQF
                                  have e9 : ev = -9 := he.elim id (fun ⟨q9, h9, _, e⟩ => by exfalso; rw [e, nI_toInt (by omega)] at d177; omega)
                                  exact aw_iret rfl dX9_chain_297 (by decide) (by decide) ⟨by rw [chA_y hEW (by omega), nn_y0, nn_a0, hcv, e9, chV_9, chR_1 c276 c287], _, _, _, _, _, f2555, f2556, f2557, f2558, f2545, k2559, hp⟩
                              · have d276 := (j_eq (a := v.toInt) (b := (0)) (rfl) (rfl)).mp c276
                                refine aw_iload 1 dX9_chain_279 rfl ?_
                                refine aw_goto 297 dX9_chain_281 (by decide) ?_
                                subst hQF
                                have e9 : ev = -9 := he.elim id (fun ⟨q9, h9, _, e⟩ => by exfalso; rw [e, nI_toInt (by omega)] at d177; omega)
                                exact aw_iret rfl dX9_chain_297 (by decide) (by decide) ⟨by rw [chA_y hEW (by omega), nn_y0, nn_a0, hcv, e9, chV_9, chR_0 c276], _, _, _, _, _, f2555, f2556, f2557, f2558, f2545, k2559, hp⟩
                            · have d177 := mt (j_lt (a := ev.toInt) (b := (0)) (rfl) (rfl)).mpr c177
                              obtain ⟨q, bq, bqf, rfl⟩ := he.resolve_left (fun e => by rw [e] at d177; exact d177 (by decide))
                              refine aw_iload_n 6 dX9_chain_180 rfl rfl ?_
                              refine aw_iload 0 dX9_chain_181 rfl ?_
                              refine aw_idiv dX9_chain_183 (by decide) ?_
                              refine aw_toe (nI (y0 / 100)) (nv_div (rfl) (rfl) (by omega) (by decide) (by decide)) ?_
                              refine aw_bipush (10) dX9_chain_184 (by decide) ?_
                              refine aw_irem dX9_chain_186 (by decide) ?_
                              refine aw_toe (nI ((y0 / 100) % 10)) (nv_rem (rfl) (rfl) (by omega) (by decide) (by decide)) ?_
                              refine aw_iconst (1) dX9_chain_187 (by decide) ?_
                              refine aw_isub dX9_chain_188 ?_
                              refine aw_toe (nI (((y0 / 100) % 10) - 1)) (nv_sub (rfl) (rfl) (by omega)) ?_
                              refine aw_istore [(12, .int (nI (((y0 / 100) % 10) - 1))), (11, .int 100), (10, .int (nI q)), (9, .int (nI fr)), (8, .int dv), (7, .int sv), (4, .int v), (3, .int (nI y0)), (0, .ref (G.1 + 88))] dX9_chain_189 (by decide) rfl ?_
                              refine aw_aload_n 8 dX9_chain_191 rfl rfl ?_
                              refine aw_iload 3 dX9_chain_192 rfl ?_
                              refine aw_iload 2 dX9_chain_194 rfl ?_
                              refine aw_iload 0 dX9_chain_196 rfl ?_
                              refine aw_eV [.int (nI fr), .int (nI q), .int (nI (((y0 / 100) % 10) - 1))] [] lX9_190 vX9_isSure mX9_isSure dX9_chain_198 (bX9_isSure (sp := sp) (fa := fa) (nb := nb) (ns := ns) (nm := nm) (nv := nv) (sh := sh) (ho := ho) (ow := ow) (sl := sl) (m := m) (ye := ye) (b1 := b1) (b2 := b2) (W := W) (Z := Z) (Ro := Ro) (Co := Co) (fi := fi) (lk := lk1) (su := su1) (jd := jd1) (wy := wy1) (a := fr) (b := ((y0 / 100) % 10) - 1) (i := q) (lx := lx fr (((y0 / 100) % 10) - 1)) f2544 f2546 f2547 f2548 f2549 f2550 f2551 f2552 f2553 f2554 f2555 f2556 f2557 f2558 hm hye (by omega) bb1 bb2 (by omega) (by omega) hfi (by omega) (by omega) (by omega) (by omega) (by omega) (hlx fr (by omega) (((y0 / 100) % 10) - 1) (by omega)) (hlx3 fr (((y0 / 100) % 10) - 1))) f2544 rfl rfl rfl (Nat.le_of_ble_eq_true rfl) (by decide) (by decide) rfl (fun h2614 q2613 => ?_)
                              obtain ⟨lk12609, su12610, jd12611, wy12612, f2615, f2616, f2617, f2618, k2619, p2620, p2621⟩ := q2613
                              have f2622 := rng_at k2619 (by decide) f2544
                              have f2623 := rng_at k2619 (by decide) f2545
                              have f2624 := rng_at k2619 (by decide) f2546
                              have f2625 := rng_at k2619 (by decide) f2547
                              have f2626 := rng_at k2619 (by decide) f2548
                              have f2627 := rng_at k2619 (by decide) f2549
                              have f2628 := rng_at k2619 (by decide) f2550
                              have f2629 := rng_at k2619 (by decide) f2551
                              have f2630 := rng_at k2619 (by decide) f2552
                              have f2631 := rng_at k2619 (by decide) f2553
                              have f2632 := rng_at k2619 (by decide) f2554
                              refine aw_istore [(13, .int (if jU (lx fr (((y0 / 100) % 10) - 1)) (fi (((y0 / 100) % 10) - 1)) (fi fr) q then 1 else 0)), (12, .int (nI (((y0 / 100) % 10) - 1))), (11, .int 100), (10, .int (nI q)), (9, .int (nI fr)), (8, .int dv), (7, .int sv), (4, .int v), (3, .int (nI y0)), (0, .ref (G.1 + 88))] dX9_chain_201 (by decide) rfl ?_
                              refine aw_aload_n 9 dX9_chain_203 rfl rfl ?_
                              refine aw_get fX9_53 dX9_chain_204 f2622 rfl ?_
                              refine aw_iload 3 dX9_chain_207 rfl ?_
                              refine aw_iald q (rfl) (by omega) (by decide) dX9_chain_209 f2617 ?_
                              refine aw_istore [(14, .int (jd12611 q)), (13, .int (if jU (lx fr (((y0 / 100) % 10) - 1)) (fi (((y0 / 100) % 10) - 1)) (fi fr) q then 1 else 0)), (12, .int (nI (((y0 / 100) % 10) - 1))), (11, .int 100), (10, .int (nI q)), (9, .int (nI fr)), (8, .int dv), (7, .int sv), (4, .int v), (3, .int (nI y0)), (0, .ref (G.1 + 88))] dX9_chain_210 (by decide) rfl ?_
                              refine aw_iload 0 dX9_chain_212 rfl ?_
                              refine aw_if_lt 256 dX9_chain_214 (by decide) (fun c214 => ?_) (fun c214 => ?_)
                              · have d214 := (j_lt (a := (jd12611 q).toInt) (b := (0)) (rfl) (rfl)).mp c214
                                refine aw_iload 0 dX9_chain_256 rfl ?_
                                refine aw_istore [(10, .int (jd12611 q)), (14, .int (jd12611 q)), (13, .int (if jU (lx fr (((y0 / 100) % 10) - 1)) (fi (((y0 / 100) % 10) - 1)) (fi fr) q then 1 else 0)), (12, .int (nI (((y0 / 100) % 10) - 1))), (11, .int 100), (9, .int (nI fr)), (8, .int dv), (7, .int sv), (4, .int v), (3, .int (nI y0)), (0, .ref (G.1 + 88))] dX9_chain_258 (by decide) rfl ?_
                                refine aw_iload 3 dX9_chain_260 rfl ?_
                                refine aw_istore [(9, .int (nI (((y0 / 100) % 10) - 1))), (10, .int (jd12611 q)), (14, .int (jd12611 q)), (13, .int (if jU (lx fr (((y0 / 100) % 10) - 1)) (fi (((y0 / 100) % 10) - 1)) (fi fr) q then 1 else 0)), (12, .int (nI (((y0 / 100) % 10) - 1))), (11, .int 100), (8, .int dv), (7, .int sv), (4, .int v), (3, .int (nI y0)), (0, .ref (G.1 + 88))] dX9_chain_262 (by decide) rfl ?_
                                refine aw_iload 5 dX9_chain_264 rfl ?_
                                refine aw_bipush (10) dX9_chain_266 (by decide) ?_
                                refine aw_idiv dX9_chain_268 (by decide) ?_
                                refine aw_toe 10 (by decide) ?_
                                refine aw_istore [(11, .int 10), (9, .int (nI (((y0 / 100) % 10) - 1))), (10, .int (jd12611 q)), (14, .int (jd12611 q)), (13, .int (if jU (lx fr (((y0 / 100) % 10) - 1)) (fi (((y0 / 100) % 10) - 1)) (fi fr) q then 1 else 0)), (12, .int (nI (((y0 / 100) % 10) - 1))), (8, .int dv), (7, .int sv), (4, .int v), (3, .int (nI y0)), (0, .ref (G.1 + 88))] dX9_chain_269 (by decide) rfl ?_
                                refine aw_goto 170 dX9_chain_271 (by decide) ?_
                                refine aw_lv [(11, .int 10), (10, .int (jd12611 q)), (9, .int (nI (((y0 / 100) % 10) - 1))), (8, .int dv), (7, .int sv), (4, .int v), (3, .int (nI y0)), (0, .ref (G.1 + 88))] [0, 2, 1, 6, 7, 8, 9, 10] rfl ?_
                                have e9 := pB_9 p2620 (show q < 10 by omega) (by omega)
                                exact ih2560 2 (jd12611 q) (((y0 / 100) % 10) - 1) dv sv lk12609 su12610 jd12611 wy12612 _ (by omega) (by decide) (Or.inl e9) (by omega) (p2620) (by rw [e9]; exact hcv.trans (chV_n (t := y0 / 100 % 10 - 1) (by omega) (by show ¬ y0 / 100 % 10 = 0; omega) rfl ((p2621 q bqf).symm.trans e9))) f2622 f2623 f2624 f2625 f2626 f2627 f2628 f2629 f2630 f2631 f2632 f2615 f2616 f2617 f2618 (rg2_tr (k2559) (rg2_w k2619 (by decide)))
                              · have d214 := mt (j_lt (a := (jd12611 q).toInt) (b := (0)) (rfl) (rfl)).mpr c214
                                obtain ⟨q2, bq2, eq2⟩ := pB_g p2620 (show q < 10 by omega) d214
                                have fb9 := hfi (y0 / 100 % 10 - 1) (by omega)
                                have hP := (p2621 q bqf).symm.trans eq2
                                have bq2f := jP_lt (by omega) (by omega) hP
                                rw [eq2]
                                refine aw_iinc (j := 7) (sv + 1) [(7, .int (sv + 1)), (14, .int (nI q2)), (13, .int (if jU (lx fr (((y0 / 100) % 10) - 1)) (fi (((y0 / 100) % 10) - 1)) (fi fr) q then 1 else 0)), (12, .int (nI (((y0 / 100) % 10) - 1))), (11, .int 100), (10, .int (nI q)), (9, .int (nI fr)), (8, .int dv), (4, .int v), (3, .int (nI y0)), (0, .ref (G.1 + 88))] dX9_chain_217 rfl (by rfl) (by decide) rfl ?_
                                refine aw_iload 7 dX9_chain_220 rfl ?_
                                refine aw_iconst (0) dX9_chain_222 (by decide) ?_
                                refine aw_bipush (100) dX9_chain_223 (by decide) ?_
                                refine aw_aload_n 10 dX9_chain_225 rfl rfl ?_
                                refine aw_iload 6 dX9_chain_226 rfl ?_
                                refine aw_iload 5 dX9_chain_228 rfl ?_
                                refine aw_iload 3 dX9_chain_230 rfl ?_
                                refine aw_iload 1 dX9_chain_232 rfl ?_
                                refine aw_dV [.int (nI fr), .int (nI q), .int (nI (((y0 / 100) % 10) - 1)), .int (nI q2)] [.int 100, .int 0, .int dv] lX9_166 vX9_likeOf mX9_likeOf dX9_chain_234 (bX9_likeOf (sp := sp) (fa := fa) (nb := nb) (ns := ns) (nm := nm) (nv := nv) (sh := sh) (ho := ho) (ow := ow) (sl := sl) (m := m) (ye := ye) (b1 := b1) (b2 := b2) (W := W) (Z := Z) (Ro := Ro) (Co := Co) (a := fr) (i := q) (b := ((y0 / 100) % 10) - 1) (k := q2) f2622 f2624 f2625 f2626 f2627 f2628 f2629 f2630 f2631 hm hye (by omega) bb1 bb2 (by omega) (by omega) (by omega) (by omega) (by omega) (by omega)) f2622 rfl rfl rfl (Nat.le_of_ble_eq_true rfl) (by decide) (by decide) rfl ?_
                                refine aw_toe (nI (lx fr (((y0 / 100) % 10) - 1) q q2)) (hlx fr (by omega) (((y0 / 100) % 10) - 1) (by omega) q (by omega) q2 (by omega)) ?_
                                refine aw_isub dX9_chain_237 ?_
                                refine aw_mmax lX9_162 dX9_chain_238 (Nat.le_of_ble_eq_true rfl) (by decide) (by decide) ?_
                                refine aw_toe (chX (nI (lx fr (((y0 / 100) % 10) - 1) q q2))) (rfl) ?_
                                refine aw_iload 2 dX9_chain_241 rfl ?_
                                refine aw_if_eq 250 dX9_chain_243 (by decide) (fun c243 => ?_) (fun c243 => ?_)
                                · have t243 := ite_0 c243
                                  refine aw_bipush (50) dX9_chain_250 (by decide) ?_
                                  refine aw_iadd dX9_chain_252 ?_
                                  refine aw_iadd dX9_chain_253 ?_
                                  refine aw_istore [(8, .int (dv + ((chX (nI (lx fr (((y0 / 100) % 10) - 1) q q2))) + 50))), (7, .int (sv + 1)), (14, .int (nI q2)), (13, .int (if jU (lx fr (((y0 / 100) % 10) - 1)) (fi (((y0 / 100) % 10) - 1)) (fi fr) q then 1 else 0)), (12, .int (nI (((y0 / 100) % 10) - 1))), (11, .int 100), (10, .int (nI q)), (9, .int (nI fr)), (4, .int v), (3, .int (nI y0)), (0, .ref (G.1 + 88))] dX9_chain_254 (by decide) rfl ?_
                                  refine aw_iload 2 dX9_chain_256 rfl ?_
                                  refine aw_istore [(10, .int (nI q2)), (8, .int (dv + ((chX (nI (lx fr (((y0 / 100) % 10) - 1) q q2))) + 50))), (7, .int (sv + 1)), (14, .int (nI q2)), (13, .int (if jU (lx fr (((y0 / 100) % 10) - 1)) (fi (((y0 / 100) % 10) - 1)) (fi fr) q then 1 else 0)), (12, .int (nI (((y0 / 100) % 10) - 1))), (11, .int 100), (9, .int (nI fr)), (4, .int v), (3, .int (nI y0)), (0, .ref (G.1 + 88))] dX9_chain_258 (by decide) rfl ?_
                                  refine aw_iload 5 dX9_chain_260 rfl ?_
                                  refine aw_istore [(9, .int (nI (((y0 / 100) % 10) - 1))), (10, .int (nI q2)), (8, .int (dv + ((chX (nI (lx fr (((y0 / 100) % 10) - 1) q q2))) + 50))), (7, .int (sv + 1)), (14, .int (nI q2)), (13, .int (if jU (lx fr (((y0 / 100) % 10) - 1)) (fi (((y0 / 100) % 10) - 1)) (fi fr) q then 1 else 0)), (12, .int (nI (((y0 / 100) % 10) - 1))), (11, .int 100), (4, .int v), (3, .int (nI y0)), (0, .ref (G.1 + 88))] dX9_chain_262 (by decide) rfl ?_
                                  refine aw_iload 7 dX9_chain_264 rfl ?_
                                  refine aw_bipush (10) dX9_chain_266 (by decide) ?_
                                  refine aw_idiv dX9_chain_268 (by decide) ?_
                                  refine aw_toe 10 (by decide) ?_
                                  refine aw_istore [(11, .int 10), (9, .int (nI (((y0 / 100) % 10) - 1))), (10, .int (nI q2)), (8, .int (dv + ((chX (nI (lx fr (((y0 / 100) % 10) - 1) q q2))) + 50))), (7, .int (sv + 1)), (14, .int (nI q2)), (13, .int (if jU (lx fr (((y0 / 100) % 10) - 1)) (fi (((y0 / 100) % 10) - 1)) (fi fr) q then 1 else 0)), (12, .int (nI (((y0 / 100) % 10) - 1))), (4, .int v), (3, .int (nI y0)), (0, .ref (G.1 + 88))] dX9_chain_269 (by decide) rfl ?_
                                  refine aw_goto 170 dX9_chain_271 (by decide) ?_
                                  refine aw_lv [(11, .int 10), (10, .int (nI q2)), (9, .int (nI (((y0 / 100) % 10) - 1))), (8, .int (dv + ((chX (nI (lx fr (((y0 / 100) % 10) - 1) q q2))) + 50))), (7, .int (sv + 1)), (4, .int v), (3, .int (nI y0)), (0, .ref (G.1 + 88))] [0, 2, 1, 3, 4, 8, 9, 10] rfl ?_
                                  exact ih2560 2 (nI q2) (((y0 / 100) % 10) - 1) (dv + ((chX (nI (lx fr (((y0 / 100) % 10) - 1) q q2))) + 50)) (sv + 1) lk12609 su12610 jd12611 wy12612 _ (by omega) (by decide) (Or.inr ⟨_, bq2, bq2f, rfl⟩) (by omega) (p2620) (hcv.trans (chV_s (t := y0 / 100 % 10 - 1) (by omega) (by omega) (by show ¬ y0 / 100 % 10 = 0; omega) rfl hP (by rw [if_neg t243]))) f2622 f2623 f2624 f2625 f2626 f2627 f2628 f2629 f2630 f2631 f2632 f2615 f2616 f2617 f2618 (rg2_tr (k2559) (rg2_w k2619 (by decide)))
                                · have t243 := ite_1 c243
                                  refine aw_iconst (0) dX9_chain_246 (by decide) ?_
                                  refine aw_goto 252 dX9_chain_247 (by decide) ?_
                                  refine aw_iadd dX9_chain_252 ?_
                                  refine aw_iadd dX9_chain_253 ?_
                                  refine aw_istore [(8, .int (dv + ((chX (nI (lx fr (((y0 / 100) % 10) - 1) q q2))) + 0))), (7, .int (sv + 1)), (14, .int (nI q2)), (13, .int (if jU (lx fr (((y0 / 100) % 10) - 1)) (fi (((y0 / 100) % 10) - 1)) (fi fr) q then 1 else 0)), (12, .int (nI (((y0 / 100) % 10) - 1))), (11, .int 100), (10, .int (nI q)), (9, .int (nI fr)), (4, .int v), (3, .int (nI y0)), (0, .ref (G.1 + 88))] dX9_chain_254 (by decide) rfl ?_
                                  refine aw_iload 2 dX9_chain_256 rfl ?_
                                  refine aw_istore [(10, .int (nI q2)), (8, .int (dv + ((chX (nI (lx fr (((y0 / 100) % 10) - 1) q q2))) + 0))), (7, .int (sv + 1)), (14, .int (nI q2)), (13, .int (if jU (lx fr (((y0 / 100) % 10) - 1)) (fi (((y0 / 100) % 10) - 1)) (fi fr) q then 1 else 0)), (12, .int (nI (((y0 / 100) % 10) - 1))), (11, .int 100), (9, .int (nI fr)), (4, .int v), (3, .int (nI y0)), (0, .ref (G.1 + 88))] dX9_chain_258 (by decide) rfl ?_
                                  refine aw_iload 5 dX9_chain_260 rfl ?_
                                  refine aw_istore [(9, .int (nI (((y0 / 100) % 10) - 1))), (10, .int (nI q2)), (8, .int (dv + ((chX (nI (lx fr (((y0 / 100) % 10) - 1) q q2))) + 0))), (7, .int (sv + 1)), (14, .int (nI q2)), (13, .int (if jU (lx fr (((y0 / 100) % 10) - 1)) (fi (((y0 / 100) % 10) - 1)) (fi fr) q then 1 else 0)), (12, .int (nI (((y0 / 100) % 10) - 1))), (11, .int 100), (4, .int v), (3, .int (nI y0)), (0, .ref (G.1 + 88))] dX9_chain_262 (by decide) rfl ?_
                                  refine aw_iload 7 dX9_chain_264 rfl ?_
                                  refine aw_bipush (10) dX9_chain_266 (by decide) ?_
                                  refine aw_idiv dX9_chain_268 (by decide) ?_
                                  refine aw_toe 10 (by decide) ?_
                                  refine aw_istore [(11, .int 10), (9, .int (nI (((y0 / 100) % 10) - 1))), (10, .int (nI q2)), (8, .int (dv + ((chX (nI (lx fr (((y0 / 100) % 10) - 1) q q2))) + 0))), (7, .int (sv + 1)), (14, .int (nI q2)), (13, .int (if jU (lx fr (((y0 / 100) % 10) - 1)) (fi (((y0 / 100) % 10) - 1)) (fi fr) q then 1 else 0)), (12, .int (nI (((y0 / 100) % 10) - 1))), (4, .int v), (3, .int (nI y0)), (0, .ref (G.1 + 88))] dX9_chain_269 (by decide) rfl ?_
                                  refine aw_goto 170 dX9_chain_271 (by decide) ?_
                                  refine aw_lv [(11, .int 10), (10, .int (nI q2)), (9, .int (nI (((y0 / 100) % 10) - 1))), (8, .int (dv + ((chX (nI (lx fr (((y0 / 100) % 10) - 1) q q2))) + 0))), (7, .int (sv + 1)), (4, .int v), (3, .int (nI y0)), (0, .ref (G.1 + 88))] [0, 2, 1, 3, 4, 8, 9, 10] rfl ?_
                                  exact ih2560 2 (nI q2) (((y0 / 100) % 10) - 1) (dv + ((chX (nI (lx fr (((y0 / 100) % 10) - 1) q q2))) + 0)) (sv + 1) lk12609 su12610 jd12611 wy12612 _ (by omega) (by decide) (Or.inr ⟨_, bq2, bq2f, rfl⟩) (by omega) (p2620) (hcv.trans (chV_s (t := y0 / 100 % 10 - 1) (by omega) (by omega) (by show ¬ y0 / 100 % 10 = 0; omega) rfl hP (by rw [if_pos t243]))) f2622 f2623 f2624 f2625 f2626 f2627 f2628 f2629 f2630 f2631 f2632 f2615 f2616 f2617 f2618 (rg2_tr (k2559) (rg2_w k2619 (by decide)))
                      · have t123 := ite_0 c123
                        refine aw_aload_n 4 dX9_chain_126 rfl rfl ?_
                        refine aw_bipush (-2) dX9_chain_127 (by decide) ?_
                        refine aw_eV [.int (-2)] [] lX9_130 vX9_refuse mX9_refuse dX9_chain_129 (bX9_refuse (sp := sp) (fa := fa) (nb := nb) (ns := ns) (nm := nm) (nv := nv) (sh := sh) (ho := ho) (ow := ow) (sl := sl) (rg := rg) (x := (-2)) (q := 2) h88 h89 (by decide) (by decide)) h88 rfl rfl rfl (Nat.le_of_ble_eq_true rfl) (by decide) (by decide) rfl (fun h2635 q2634 => ?_)
                        obtain ⟨rg12633, f2636, k2637⟩ := q2634
                        have f2638 := rng_at k2637 (by decide) h88
                        have f2639 := rng_at k2637 (by decide) h90
                        have f2640 := rng_at k2637 (by decide) h91
                        have f2641 := rng_at k2637 (by decide) h93
                        have f2642 := rng_at k2637 (by decide) h94
                        have f2643 := rng_at k2637 (by decide) h95
                        have f2644 := rng_at k2637 (by decide) h96
                        have f2645 := rng_at k2637 (by decide) h97
                        have f2646 := rng_at k2637 (by decide) h98
                        have f2647 := rng_at k2637 (by decide) h92
                        have f2648 := rng_at k2637 (by decide) h99
                        have f2649 := rng_at k2637 (by decide) h100
                        have f2650 := rng_at k2637 (by decide) h101
                        have f2651 := rng_at k2637 (by decide) h102
                        subst hQF
                        exact aw_iret rfl dX9_chain_132 (by decide) (by decide) ⟨by rw [chA_2 hEW (by omega)], _, _, _, _, _, f2648, f2649, f2650, f2651, f2636, rg2_tr (rg2_rf 89 89 99 102 h) (rg2_w k2637 (by decide)), hjd⟩
                    · have t89 := ite_1e c89
                      refine aw_aload_n 4 dX9_chain_92 rfl rfl ?_
                      refine aw_iconst (-1) dX9_chain_93 (by decide) ?_
                      refine aw_eV [.int (-1)] [] lX9_130 vX9_refuse mX9_refuse dX9_chain_94 (bX9_refuse (sp := sp) (fa := fa) (nb := nb) (ns := ns) (nm := nm) (nv := nv) (sh := sh) (ho := ho) (ow := ow) (sl := sl) (rg := rg) (x := (-1)) (q := 1) h88 h89 (by decide) (by decide)) h88 rfl rfl rfl (Nat.le_of_ble_eq_true rfl) (by decide) (by decide) rfl (fun h2654 q2653 => ?_)
                      obtain ⟨rg12652, f2655, k2656⟩ := q2653
                      have f2657 := rng_at k2656 (by decide) h88
                      have f2658 := rng_at k2656 (by decide) h90
                      have f2659 := rng_at k2656 (by decide) h91
                      have f2660 := rng_at k2656 (by decide) h93
                      have f2661 := rng_at k2656 (by decide) h94
                      have f2662 := rng_at k2656 (by decide) h95
                      have f2663 := rng_at k2656 (by decide) h96
                      have f2664 := rng_at k2656 (by decide) h97
                      have f2665 := rng_at k2656 (by decide) h98
                      have f2666 := rng_at k2656 (by decide) h92
                      have f2667 := rng_at k2656 (by decide) h99
                      have f2668 := rng_at k2656 (by decide) h100
                      have f2669 := rng_at k2656 (by decide) h101
                      have f2670 := rng_at k2656 (by decide) h102
                      subst hQF
                      exact aw_iret rfl dX9_chain_97 (by decide) (by decide) ⟨by rw [chA_1 (fun q9 => by have w9 := (wyO q9.2).2; rw [nn_a0, nn_y0, hw2.trans (wyG_n (by omega) (fun q9 => q9.2 t89))] at w9; exact absurd w9 (by decide))], _, _, _, _, _, f2667, f2668, f2669, f2670, f2655, rg2_tr (rg2_rf 89 89 99 102 h) (rg2_w k2656 (by decide)), hjd⟩
                · have t89 := ite_1e c89
                  refine aw_aload_n 4 dX9_chain_92 rfl rfl ?_
                  refine aw_iconst (-1) dX9_chain_93 (by decide) ?_
                  refine aw_eV [.int (-1)] [] lX9_130 vX9_refuse mX9_refuse dX9_chain_94 (bX9_refuse (sp := sp) (fa := fa) (nb := nb) (ns := ns) (nm := nm) (nv := nv) (sh := sh) (ho := ho) (ow := ow) (sl := sl) (rg := rg) (x := (-1)) (q := 1) h88 h89 (by decide) (by decide)) h88 rfl rfl rfl (Nat.le_of_ble_eq_true rfl) (by decide) (by decide) rfl (fun h2673 q2672 => ?_)
                  obtain ⟨rg12671, f2674, k2675⟩ := q2672
                  have f2676 := rng_at k2675 (by decide) h88
                  have f2677 := rng_at k2675 (by decide) h90
                  have f2678 := rng_at k2675 (by decide) h91
                  have f2679 := rng_at k2675 (by decide) h93
                  have f2680 := rng_at k2675 (by decide) h94
                  have f2681 := rng_at k2675 (by decide) h95
                  have f2682 := rng_at k2675 (by decide) h96
                  have f2683 := rng_at k2675 (by decide) h97
                  have f2684 := rng_at k2675 (by decide) h98
                  have f2685 := rng_at k2675 (by decide) h92
                  have f2686 := rng_at k2675 (by decide) h99
                  have f2687 := rng_at k2675 (by decide) h100
                  have f2688 := rng_at k2675 (by decide) h101
                  have f2689 := rng_at k2675 (by decide) h102
                  subst hQF
                  exact aw_iret rfl dX9_chain_97 (by decide) (by decide) ⟨by rw [chA_1 (fun q9 => by have w9 := (wyO q9.2).2; rw [nn_a0, nn_y0, hw1.trans (wyG_n (by omega) (fun q9 => q9.2 t89))] at w9; exact absurd w9 (by decide))], _, _, _, _, _, f2686, f2687, f2688, f2689, f2674, rg2_tr (rg2_rf 89 89 99 102 h) (rg2_w k2675 (by decide)), hjd⟩
            · have t89 := ite_1e c89
              refine aw_aload_n 4 dX9_chain_92 rfl rfl ?_
              refine aw_iconst (-1) dX9_chain_93 (by decide) ?_
              refine aw_eV [.int (-1)] [] lX9_130 vX9_refuse mX9_refuse dX9_chain_94 (bX9_refuse (sp := sp) (fa := fa) (nb := nb) (ns := ns) (nm := nm) (nv := nv) (sh := sh) (ho := ho) (ow := ow) (sl := sl) (rg := rg) (x := (-1)) (q := 1) h88 h89 (by decide) (by decide)) h88 rfl rfl rfl (Nat.le_of_ble_eq_true rfl) (by decide) (by decide) rfl (fun h2692 q2691 => ?_)
              obtain ⟨rg12690, f2693, k2694⟩ := q2691
              have f2695 := rng_at k2694 (by decide) h88
              have f2696 := rng_at k2694 (by decide) h90
              have f2697 := rng_at k2694 (by decide) h91
              have f2698 := rng_at k2694 (by decide) h93
              have f2699 := rng_at k2694 (by decide) h94
              have f2700 := rng_at k2694 (by decide) h95
              have f2701 := rng_at k2694 (by decide) h96
              have f2702 := rng_at k2694 (by decide) h97
              have f2703 := rng_at k2694 (by decide) h98
              have f2704 := rng_at k2694 (by decide) h92
              have f2705 := rng_at k2694 (by decide) h99
              have f2706 := rng_at k2694 (by decide) h100
              have f2707 := rng_at k2694 (by decide) h101
              have f2708 := rng_at k2694 (by decide) h102
              subst hQF
              exact aw_iret rfl dX9_chain_97 (by decide) (by decide) ⟨by rw [chA_1 (fun q9 => by have w9 := (wyO q9.2).2; rw [nn_a0, nn_y0, hw0.trans (wyG_n (by omega) (fun q9 => q9.2 t89))] at w9; exact absurd w9 (by decide))], _, _, _, _, _, f2705, f2706, f2707, f2708, f2693, rg2_tr (rg2_rf 89 89 99 102 h) (rg2_w k2694 (by decide)), hjd⟩
      · have d18 := mt (j_le (a := y.toInt) (b := (999)) (rfl) (rfl)).mpr c18
        refine aw_aload_n 0 dX9_chain_21 rfl rfl ?_
        refine aw_iconst (-1) dX9_chain_22 (by decide) ?_
        refine aw_eV [.int (-1)] [] lX9_130 vX9_refuse mX9_refuse dX9_chain_23 (bX9_refuse (sp := sp) (fa := fa) (nb := nb) (ns := ns) (nm := nm) (nv := nv) (sh := sh) (ho := ho) (ow := ow) (sl := sl) (rg := rg) (x := (-1)) (q := 1) h88 h89 (by decide) (by decide)) h88 rfl rfl rfl (Nat.le_of_ble_eq_true rfl) (by decide) (by decide) rfl (fun h2711 q2710 => ?_)
        obtain ⟨rg12709, f2712, k2713⟩ := q2710
        have f2714 := rng_at k2713 (by decide) h88
        have f2715 := rng_at k2713 (by decide) h90
        have f2716 := rng_at k2713 (by decide) h91
        have f2717 := rng_at k2713 (by decide) h93
        have f2718 := rng_at k2713 (by decide) h94
        have f2719 := rng_at k2713 (by decide) h95
        have f2720 := rng_at k2713 (by decide) h96
        have f2721 := rng_at k2713 (by decide) h97
        have f2722 := rng_at k2713 (by decide) h98
        have f2723 := rng_at k2713 (by decide) h92
        have f2724 := rng_at k2713 (by decide) h99
        have f2725 := rng_at k2713 (by decide) h100
        have f2726 := rng_at k2713 (by decide) h101
        have f2727 := rng_at k2713 (by decide) h102
        subst hQF
        exact aw_iret rfl dX9_chain_26 (by decide) (by decide) ⟨by rw [chA_1 (fun q9 => by have w9 := (wyO q9.2).1; omega)], _, _, _, _, _, f2724, f2725, f2726, f2727, f2712, rg2_tr (rg2_rf 89 89 99 102 h) (rg2_w k2713 (by decide)), hjd⟩
