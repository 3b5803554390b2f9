set_option maxHeartbeats 4000000 in
theorem oX9_chain {l : Launch} {G : xG} {h : List va_E} {sp fa nb ns nm nv sh : Nat} {ho ow sl : Int32} {rg : Nat → Int32} {m ye b1 b2 : Nat → Nat} {W Z Ro Co : Nat → Int32} {fi : Nat → Nat} {lk su jd wy : Nat → Int32} {a i y v : Int32} (h88 : h[88]? = some (oB 9 (lM G (nI sp) (nI fa) (nI nb) (nI ns) (nI nm) ho ow sl (nI nv) (nI sh)))) (h89 : h[89]? = some (aI 7 rg)) (h90 : h[90]? = some (aI 20 (nA m))) (h91 : h[91]? = some (aI 4 (nA ye))) (h93 : h[93]? = some (aI 40 W)) (h94 : h[94]? = some (aI 40 Z)) (h95 : h[95]? = some (aI 40 Ro)) (h96 : h[96]? = some (aI 40 Co)) (h97 : h[97]? = some (aI 30 (nA b1))) (h98 : h[98]? = some (aI 30 (nA b2))) (h92 : h[92]? = some (aI 4 (nA fi))) (h99 : h[99]? = some (aI 100 lk)) (h100 : h[100]? = some (aI 11264 su)) (h101 : h[101]? = some (aI 10 jd)) (h102 : h[102]? = some (aI 11264 wy)) (hm : ∀ j, j < 20 → m j ≤ j) (hye : ∀ j, j < 4 → ye j < 1901) (hnb : nb ≤ 30) (bb1 : ∀ j, j < 30 → b1 j < 40) (bb2 : ∀ j, j < 30 → b2 j < 40) (hsp : sp ≤ 50) (hfd : fa ≤ 9) (hfi : ∀ j, j < 4 → fi j < 11) (hjd : pB jd) : CU l G yX9_chain cX9_chain 15 (some .int) 6 0 0 [.ref (G.1 + 88), .int a, .int i, .int y, .int v] h (fun r h1 => ∃ lk1 : Nat → Int32, ∃ su1 : Nat → Int32, ∃ jd1 : Nat → Int32, ∃ wy1 : Nat → Int32, ∃ rg1 : Nat → Int32, h1[99]? = some (aI 100 lk1) ∧ h1[100]? = some (aI 11264 su1) ∧ h1[101]? = some (aI 10 jd1) ∧ h1[102]? = some (aI 11264 wy1) ∧ h1[89]? = some (aI 7 rg1) ∧ rg2 89 89 99 102 h h1 ∧ pB jd1 ∧ True) := by
  refine cm_ofQ rfl (Nat.le_of_ble_eq_true rfl) [(0, .ref (G.1 + 88)), (1, .int a), (2, .int i), (3, .int y), (4, .int v)] rfl (fun QF hQF => ?_)
  refine aw_aload_n 0 dX9_chain_0 rfl rfl ?_
  refine aw_iload_n 1 dX9_chain_1 rfl rfl ?_
  refine aw_iload_n 2 dX9_chain_2 rfl rfl ?_
  refine aw_dV [.int a, .int i] [] lX9_145 vX9_isEntry mX9_isEntry dX9_chain_3 (bX9_isEntry (sp := sp) (fa := fa) (nb := nb) (ns := ns) (nm := nm) (nv := nv) (sh := sh) (ho := ho) (ow := ow) (sl := sl) (fi := fi) (c := a) (i := i) h88 h92 hfi) h88 rfl rfl rfl (Nat.le_of_ble_eq_true rfl) (by decide) (by decide) rfl ?_
  refine aw_if_eq 21 dX9_chain_6 (by decide) (fun c6 => ?_) (fun c6 => ?_)
  · have t6 := ite_0 c6
    refine aw_aload_n 0 dX9_chain_21 rfl rfl ?_
    refine aw_iconst (-1) dX9_chain_22 (by decide) ?_
    refine aw_eV [.int (-1)] [] lX9_130 vX9_refuse mX9_refuse dX9_chain_23 (bX9_refuse (sp := sp) (fa := fa) (nb := nb) (ns := ns) (nm := nm) (nv := nv) (sh := sh) (ho := ho) (ow := ow) (sl := sl) (rg := rg) (x := (-1)) (q := 1) h88 h89 (by decide) (by decide)) h88 rfl rfl rfl (Nat.le_of_ble_eq_true rfl) (by decide) (by decide) rfl (fun h2196 q2195 => ?_)
    obtain ⟨rg12194, f2197, k2198⟩ := q2195
    have f2199 := rng_at k2198 (by decide) h88
    have f2200 := rng_at k2198 (by decide) h90
    have f2201 := rng_at k2198 (by decide) h91
    have f2202 := rng_at k2198 (by decide) h93
    have f2203 := rng_at k2198 (by decide) h94
    have f2204 := rng_at k2198 (by decide) h95
    have f2205 := rng_at k2198 (by decide) h96
    have f2206 := rng_at k2198 (by decide) h97
    have f2207 := rng_at k2198 (by decide) h98
    have f2208 := rng_at k2198 (by decide) h92
    have f2209 := rng_at k2198 (by decide) h99
    have f2210 := rng_at k2198 (by decide) h100
    have f2211 := rng_at k2198 (by decide) h101
    have f2212 := rng_at k2198 (by decide) h102
    subst hQF
    exact aw_iret rfl dX9_chain_26 (by decide) (by decide) ⟨_, rfl, _, _, _, _, _, f2209, f2210, f2211, f2212, f2197, rg2_tr (rg2_rf 89 89 99 102 h) (rg2_w k2198 (by decide)), hjd, trivial⟩
  · have t6 := ite_1 c6
    refine aw_iload_n 3 dX9_chain_9 rfl rfl ?_
    refine aw_iconst (1) dX9_chain_10 (by decide) ?_
    refine aw_icmp_lt 21 dX9_chain_11 (by decide) (fun c11 => ?_) (fun c11 => ?_)
    · have d11 := (j_lt (a := y.toInt) (b := (1)) (rfl) (rfl)).mp c11
      refine aw_aload_n 0 dX9_chain_21 rfl rfl ?_
      refine aw_iconst (-1) dX9_chain_22 (by decide) ?_
      refine aw_eV [.int (-1)] [] lX9_130 vX9_refuse mX9_refuse dX9_chain_23 (bX9_refuse (sp := sp) (fa := fa) (nb := nb) (ns := ns) (nm := nm) (nv := nv) (sh := sh) (ho := ho) (ow := ow) (sl := sl) (rg := rg) (x := (-1)) (q := 1) h88 h89 (by decide) (by decide)) h88 rfl rfl rfl (Nat.le_of_ble_eq_true rfl) (by decide) (by decide) rfl (fun h2215 q2214 => ?_)
      obtain ⟨rg12213, f2216, k2217⟩ := q2214
      have f2218 := rng_at k2217 (by decide) h88
      have f2219 := rng_at k2217 (by decide) h90
      have f2220 := rng_at k2217 (by decide) h91
      have f2221 := rng_at k2217 (by decide) h93
      have f2222 := rng_at k2217 (by decide) h94
      have f2223 := rng_at k2217 (by decide) h95
      have f2224 := rng_at k2217 (by decide) h96
      have f2225 := rng_at k2217 (by decide) h97
      have f2226 := rng_at k2217 (by decide) h98
      have f2227 := rng_at k2217 (by decide) h92
      have f2228 := rng_at k2217 (by decide) h99
      have f2229 := rng_at k2217 (by decide) h100
      have f2230 := rng_at k2217 (by decide) h101
      have f2231 := rng_at k2217 (by decide) h102
      subst hQF
      exact aw_iret rfl dX9_chain_26 (by decide) (by decide) ⟨_, rfl, _, _, _, _, _, f2228, f2229, f2230, f2231, f2216, rg2_tr (rg2_rf 89 89 99 102 h) (rg2_w k2217 (by decide)), hjd, trivial⟩
    · have d11 := mt (j_lt (a := y.toInt) (b := (1)) (rfl) (rfl)).mpr c11
      refine aw_iload_n 3 dX9_chain_14 rfl rfl ?_
      refine aw_sipush (999) dX9_chain_15 (by decide) ?_
      refine aw_icmp_le 27 dX9_chain_18 (by decide) (fun c18 => ?_) (fun c18 => ?_)
      · have d18 := (j_le (a := y.toInt) (b := (999)) (rfl) (rfl)).mp c18
        have fa0 := hfi (tn a) (by unfold tn; omega)
        obtain ⟨a0, bb_a0, ee_a0⟩ := i_nat (x := a) (N := 4) (by omega) (by omega)
        subst ee_a0
        have tt_a0 : (nI a0).toInt = (a0 : Int) := nI_toInt (by omega)
        have nn_a0 : tn (nI a0) = a0 := tn_nI (by omega)
        rw [nn_a0] at t6 fa0
        obtain ⟨i0, bb_i0, ee_i0⟩ := i_nat (x := i) (N := 10) (by omega) (by omega)
        subst ee_i0
        have tt_i0 : (nI i0).toInt = (i0 : Int) := nI_toInt (by omega)
        have nn_i0 : tn (nI i0) = i0 := tn_nI (by omega)
        obtain ⟨y0, bb_y0, ee_y0⟩ := i_nat (x := y) (N := 1000) (by omega) (by omega)
        subst ee_y0
        have tt_y0 : (nI y0).toInt = (y0 : Int) := nI_toInt (by omega)
        have nn_y0 : tn (nI y0) = y0 := tn_nI (by omega)
        have pw := pw4 a0 (by omega)
        refine aw_iconst (1) dX9_chain_27 (by decide) ?_
        refine aw_iload_n 1 dX9_chain_28 rfl rfl ?_
        refine aw_ishl dX9_chain_29 ?_
        refine aw_toe (nI (2 ^ a0)) (nv_shl1 (rfl) (by omega)) ?_
        refine aw_istore [(5, .int (nI (2 ^ a0))), (0, .ref (G.1 + 88)), (1, .int (nI a0)), (2, .int (nI i0)), (3, .int (nI y0)), (4, .int v)] dX9_chain_30 (by decide) rfl ?_
        refine aw_iload_n 4 dX9_chain_32 rfl rfl ?_
        refine aw_bipush (99) dX9_chain_33 (by decide) ?_
        refine aw_icmp_le 42 dX9_chain_35 (by decide) (fun c35 => ?_) (fun c35 => ?_)
        · have d35 := (nv_le (a := y0) (b := 99) (rfl) (rfl) (by omega) (by omega)).mp c35
          refine aw_iload_n 4 dX9_chain_42 rfl rfl ?_
          refine aw_bipush (9) dX9_chain_43 (by decide) ?_
          refine aw_icmp_le 52 dX9_chain_45 (by decide) (fun c45 => ?_) (fun c45 => ?_)
          · have d45 := (nv_le (a := y0) (b := 9) (rfl) (rfl) (by omega) (by omega)).mp c45
            refine aw_iconst (1) dX9_chain_52 (by decide) ?_
            refine aw_istore [(6, .int 1), (5, .int (nI (2 ^ a0))), (0, .ref (G.1 + 88)), (1, .int (nI a0)), (2, .int (nI i0)), (3, .int (nI y0)), (4, .int v)] dX9_chain_53 (by decide) rfl ?_
            refine aw_iload_n 5 dX9_chain_55 rfl rfl ?_
            refine aw_istore [(7, .int (nI y0)), (6, .int 1), (5, .int (nI (2 ^ a0))), (0, .ref (G.1 + 88)), (1, .int (nI a0)), (2, .int (nI i0)), (3, .int (nI y0)), (4, .int v)] dX9_chain_56 (by decide) rfl ?_
            refine aw_iload 0 dX9_chain_58 rfl ?_
            refine aw_if_le 117 dX9_chain_60 (by decide) (fun c60 => absurd c60 (by simp only [i_le, (nI_toInt (n := y0) (by omega)), (show (0 : Int32).toInt = 0 from rfl)] <;> omega)) (fun c60 => ?_)
            refine aw_iload 0 dX9_chain_63 rfl ?_
            refine aw_bipush (10) dX9_chain_65 (by decide) ?_
            refine aw_irem dX9_chain_67 (by decide) ?_
            refine aw_toe (nI (y0 % 10)) (nv_rem (rfl) (rfl) (by omega) (by decide) (by decide)) ?_
            refine aw_iconst (1) dX9_chain_68 (by decide) ?_
            refine aw_isub dX9_chain_69 ?_
            refine aw_istore [(8, .int ((nI (y0 % 10)) - 1)), (7, .int (nI y0)), (6, .int 1), (5, .int (nI (2 ^ a0))), (0, .ref (G.1 + 88)), (1, .int (nI a0)), (2, .int (nI i0)), (3, .int (nI y0)), (4, .int v)] dX9_chain_70 (by decide) rfl ?_
            refine aw_iload 0 dX9_chain_72 rfl ?_
            refine aw_iconst (4) dX9_chain_74 (by decide) ?_
            refine aw_dS [.int ((nI (y0 % 10)) - 1), .int 4] [] lX9_126 sX9_isIn mX9_isIn dX9_chain_75 (bX9_isIn (x := (nI (y0 % 10)) - 1) (n := 4) (by omega)) rfl (Nat.le_of_ble_eq_true rfl) (by decide) (by decide) rfl ?_
            refine aw_if_eq 92 dX9_chain_78 (by decide) (fun c78 => ?_) (fun c78 => ?_)
            · have t78 := ite_0 c78
              refine aw_aload_n 4 dX9_chain_92 rfl rfl ?_
              refine aw_iconst (-1) dX9_chain_93 (by decide) ?_
              refine aw_eV [.int (-1)] [] lX9_130 vX9_refuse mX9_refuse dX9_chain_94 (bX9_refuse (sp := sp) (fa := fa) (nb := nb) (ns := ns) (nm := nm) (nv := nv) (sh := sh) (ho := ho) (ow := ow) (sl := sl) (rg := rg) (x := (-1)) (q := 1) h88 h89 (by decide) (by decide)) h88 rfl rfl rfl (Nat.le_of_ble_eq_true rfl) (by decide) (by decide) rfl (fun h2234 q2233 => ?_)
              obtain ⟨rg12232, f2235, k2236⟩ := q2233
              have f2237 := rng_at k2236 (by decide) h88
              have f2238 := rng_at k2236 (by decide) h90
              have f2239 := rng_at k2236 (by decide) h91
              have f2240 := rng_at k2236 (by decide) h93
              have f2241 := rng_at k2236 (by decide) h94
              have f2242 := rng_at k2236 (by decide) h95
              have f2243 := rng_at k2236 (by decide) h96
              have f2244 := rng_at k2236 (by decide) h97
              have f2245 := rng_at k2236 (by decide) h98
              have f2246 := rng_at k2236 (by decide) h92
              have f2247 := rng_at k2236 (by decide) h99
              have f2248 := rng_at k2236 (by decide) h100
              have f2249 := rng_at k2236 (by decide) h101
              have f2250 := rng_at k2236 (by decide) h102
              subst hQF
              exact aw_iret rfl dX9_chain_97 (by decide) (by decide) ⟨_, rfl, _, _, _, _, _, f2247, f2248, f2249, f2250, f2235, rg2_tr (rg2_rf 89 89 99 102 h) (rg2_w k2236 (by decide)), hjd, trivial⟩
            · have t78 := ite_1 c78
              have g0 : 1 ≤ y0 % 10 ∧ y0 % 10 ≤ 4 := by rw [dig_i (by omega)] at t78; omega
              rw [dig_e g0.1]
              refine aw_iload 3 dX9_chain_81 rfl ?_
              refine aw_iload 0 dX9_chain_83 rfl ?_
              refine aw_ishr dX9_chain_85 ?_
              refine aw_iconst (1) dX9_chain_86 (by decide) ?_
              refine aw_iand dX9_chain_87 ?_
              refine aw_toe (if (2 ^ a0).testBit (y0 % 10 - 1) = true then 1 else 0) (nv_bit (rfl) (rfl) (by omega) (by omega)) ?_
              refine aw_iconst (1) dX9_chain_88 (by decide) ?_
              refine aw_icmp_ne 98 dX9_chain_89 (by decide) (fun c89 => ?_) (fun c89 => ?_)
              · have t89 := ite_0e c89
                have w1 := or_16 (a := 2 ^ a0) (b := y0 % 10 - 1) (by omega) (by omega)
                refine aw_iload 3 dX9_chain_98 rfl ?_
                refine aw_iconst (1) dX9_chain_100 (by decide) ?_
                refine aw_iload 0 dX9_chain_101 rfl ?_
                refine aw_ishl dX9_chain_103 ?_
                refine aw_toe (nI (2 ^ (y0 % 10 - 1))) (nv_shl1 (rfl) (by omega)) ?_
                refine aw_ior dX9_chain_104 ?_
                refine aw_toe (nI ((2 ^ a0) ||| (2 ^ (y0 % 10 - 1)))) (nv_or (rfl) (rfl)) ?_
                refine aw_istore [(5, .int (nI ((2 ^ a0) ||| (2 ^ (y0 % 10 - 1))))), (8, .int (nI (y0 % 10 - 1))), (7, .int (nI y0)), (6, .int 1), (0, .ref (G.1 + 88)), (1, .int (nI a0)), (2, .int (nI i0)), (3, .int (nI y0)), (4, .int v)] dX9_chain_105 (by decide) rfl ?_
                refine aw_iload 2 dX9_chain_107 rfl ?_
                refine aw_bipush (10) dX9_chain_109 (by decide) ?_
                refine aw_idiv dX9_chain_111 (by decide) ?_
                refine aw_toe (nI (y0 / 10)) (nv_div (rfl) (rfl) (by omega) (by decide) (by decide)) ?_
                refine aw_istore [(7, .int (nI (y0 / 10))), (5, .int (nI ((2 ^ a0) ||| (2 ^ (y0 % 10 - 1))))), (8, .int (nI (y0 % 10 - 1))), (6, .int 1), (0, .ref (G.1 + 88)), (1, .int (nI a0)), (2, .int (nI i0)), (3, .int (nI y0)), (4, .int v)] dX9_chain_112 (by decide) rfl ?_
                refine aw_goto 58 dX9_chain_114 (by decide) ?_
                refine aw_iload 0 dX9_chain_58 rfl ?_
                refine aw_if_le 117 dX9_chain_60 (by decide) (fun c60 => ?_) (fun c60 => absurd (by simp only [i_le, (nI_toInt (n := y0 / 10) (by omega)), (show (0 : Int32).toInt = 0 from rfl)] <;> omega) c60)
                refine aw_iload 8 dX9_chain_117 rfl ?_
                refine aw_iconst (3) dX9_chain_119 (by decide) ?_
                refine aw_dS [.int v, .int 3] [] lX9_126 sX9_isIn mX9_isIn dX9_chain_120 (bX9_isIn (x := v) (n := 3) (by omega)) rfl (Nat.le_of_ble_eq_true rfl) (by decide) (by decide) rfl ?_
                refine aw_if_ne 133 dX9_chain_123 (by decide) (fun c123 => ?_) (fun c123 => ?_)
                · have t123 := ite_1 c123
                  refine aw_iconst (0) dX9_chain_133 (by decide) ?_
                  refine aw_istore [(7, .int 0), (5, .int (nI ((2 ^ a0) ||| (2 ^ (y0 % 10 - 1))))), (8, .int (nI (y0 % 10 - 1))), (6, .int 1), (0, .ref (G.1 + 88)), (1, .int (nI a0)), (2, .int (nI i0)), (3, .int (nI y0)), (4, .int v)] dX9_chain_134 (by decide) rfl ?_
                  refine aw_iconst (0) dX9_chain_136 (by decide) ?_
                  refine aw_istore [(8, .int 0), (7, .int 0), (5, .int (nI ((2 ^ a0) ||| (2 ^ (y0 % 10 - 1))))), (6, .int 1), (0, .ref (G.1 + 88)), (1, .int (nI a0)), (2, .int (nI i0)), (3, .int (nI y0)), (4, .int v)] dX9_chain_137 (by decide) rfl ?_
                  refine aw_iload_n 5 dX9_chain_139 rfl rfl ?_
                  refine aw_istore [(9, .int (nI a0)), (8, .int 0), (7, .int 0), (5, .int (nI ((2 ^ a0) ||| (2 ^ (y0 % 10 - 1))))), (6, .int 1), (0, .ref (G.1 + 88)), (1, .int (nI a0)), (2, .int (nI i0)), (3, .int (nI y0)), (4, .int v)] dX9_chain_140 (by decide) rfl ?_
                  refine aw_iload_n 7 dX9_chain_142 rfl rfl ?_
                  refine aw_istore [(10, .int (nI i0)), (9, .int (nI a0)), (8, .int 0), (7, .int 0), (5, .int (nI ((2 ^ a0) ||| (2 ^ (y0 % 10 - 1))))), (6, .int 1), (0, .ref (G.1 + 88)), (1, .int (nI a0)), (2, .int (nI i0)), (3, .int (nI y0)), (4, .int v)] dX9_chain_143 (by decide) rfl ?_
                  refine aw_iload 5 dX9_chain_145 rfl ?_
                  refine aw_iconst (3) dX9_chain_147 (by decide) ?_
                  refine aw_icmp_ne 156 dX9_chain_148 (by decide) (fun c148 => ?_) (fun c148 => absurd c148 (by decide))
                  refine aw_iload 5 dX9_chain_156 rfl ?_
                  refine aw_iconst (2) dX9_chain_158 (by decide) ?_
                  refine aw_icmp_ne 167 dX9_chain_159 (by decide) (fun c159 => ?_) (fun c159 => absurd c159 (by decide))
                  refine aw_iconst (1) dX9_chain_167 (by decide) ?_
                  refine aw_istore [(11, .int 1), (10, .int (nI i0)), (9, .int (nI a0)), (8, .int 0), (7, .int 0), (5, .int (nI ((2 ^ a0) ||| (2 ^ (y0 % 10 - 1))))), (6, .int 1), (0, .ref (G.1 + 88)), (1, .int (nI a0)), (2, .int (nI i0)), (3, .int (nI y0)), (4, .int v)] dX9_chain_168 (by decide) rfl ?_
                  refine aw_lv [(11, .int 1), (10, .int (nI i0)), (9, .int (nI a0)), (8, .int 0), (7, .int 0), (4, .int v), (3, .int (nI y0)), (0, .ref (G.1 + 88))] [0, 1, 2, 3, 4, 11, 10, 7] rfl ?_
                  suffices L2268 : ∀ (mm : Nat) (x : Nat) (ev : Int32) (fr : Nat) (dv : Int32) (sv : Int32) (lk1 : Nat → Int32) (su1 : Nat → Int32) (jd1 : Nat → Int32) (wy1 : Nat → Int32) (h2251 : List va_E), x < mm → (x = 0 ∨ x = 1) → (ev = -9 ∨ ∃ q, q < 10 ∧ ev = nI q) → (fr < 4) → (pB jd1) → h2251[88]? = some (oB 9 (lM G (nI sp) (nI fa) (nI nb) (nI ns) (nI nm) ho ow sl (nI nv) (nI sh))) → h2251[89]? = some (aI 7 rg) → h2251[90]? = some (aI 20 (nA m)) → h2251[91]? = some (aI 4 (nA ye)) → h2251[93]? = some (aI 40 W) → h2251[94]? = some (aI 40 Z) → h2251[95]? = some (aI 40 Ro) → h2251[96]? = some (aI 40 Co) → h2251[97]? = some (aI 30 (nA b1)) → h2251[98]? = some (aI 30 (nA b2)) → h2251[92]? = some (aI 4 (nA fi)) → h2251[99]? = some (aI 100 lk1) → h2251[100]? = some (aI 11264 su1) → h2251[101]? = some (aI 10 jd1) → h2251[102]? = some (aI 11264 wy1) → rg2 89 89 99 102 h h2251 → AW l G yX9_chain cX9_chain 15 (some .int) (xR 6 0 0) (fun _ _ => True) QF 0 0 170 [(11, .int (nI (p10 x))), (10, .int ev), (9, .int (nI fr)), (8, .int dv), (7, .int sv), (4, .int v), (3, .int (nI y0)), (0, .ref (G.1 + 88))] [] h2251 from L2268 (1 + 1) 1 (nI i0) a0 0 0 lk su jd wy _ (Nat.lt_succ_self _) (by decide) (Or.inr ⟨_, by omega, rfl⟩) (by omega) (hjd) h88 h89 h90 h91 h93 h94 h95 h96 h97 h98 h92 h99 h100 h101 h102 (rg2_rf 89 89 99 102 h)
                  intro mm
                  induction mm with
                  | zero =>
                    intro x ev fr dv sv lk1 su1 jd1 wy1 h2251 hmm hx he bfr hp f2252 f2253 f2254 f2255 f2256 f2257 f2258 f2259 f2260 f2261 f2262 f2263 f2264 f2265 f2266 k2267
                    exact absurd hmm (Nat.not_lt_zero _)
                  | succ mm ih2268 =>
                    intro x ev fr dv sv lk1 su1 jd1 wy1 h2251 hmm hx he bfr hp f2252 f2253 f2254 f2255 f2256 f2257 f2258 f2259 f2260 f2261 f2262 f2263 f2264 f2265 f2266 k2267
                    rcases hx with rfl | rfl
                    · refine aw_lv [(11, .int 0), (10, .int ev), (9, .int (nI fr)), (8, .int dv), (7, .int sv), (4, .int v), (3, .int (nI y0)), (0, .ref (G.1 + 88))] [0, 1, 2, 3, 4, 5, 6, 7] rfl ?_
                      refine aw_iload 0 dX9_chain_170 rfl ?_
                      refine aw_if_le 274 dX9_chain_172 (by decide) (fun c172 => ?_) (fun c172 => absurd (by decide) c172)
                      refine aw_iload 5 dX9_chain_274 rfl ?_
                      refine aw_if_ne 284 dX9_chain_276 (by decide) (fun c276 => ?_) (fun c276 => ?_)
                      · have d276 := mt (j_eq (a := v.toInt) (b := (0)) (rfl) (rfl)).mpr c276
                        refine aw_iload 5 dX9_chain_284 rfl ?_
                        refine aw_iconst (1) dX9_chain_286 (by decide) ?_
                        refine aw_icmp_ne 295 dX9_chain_287 (by decide) (fun c287 => ?_) (fun c287 => ?_)
                        · have d287 := mt (j_eq (a := v.toInt) (b := (1)) (rfl) (rfl)).mpr c287
                          refine aw_iload 3 dX9_chain_295 rfl ?_
                          subst hQF
                          exact aw_iret rfl dX9_chain_297 (by decide) (by decide) ⟨_, rfl, _, _, _, _, _, f2263, f2264, f2265, f2266, f2253, k2267, hp, trivial⟩
                        · have d287 := (j_eq (a := v.toInt) (b := (1)) (rfl) (rfl)).mp c287
                          refine aw_iload 4 dX9_chain_290 rfl ?_
                          refine aw_goto 297 dX9_chain_292 (by decide) ?_
                          subst hQF
                          exact aw_iret rfl dX9_chain_297 (by decide) (by decide) ⟨_, rfl, _, _, _, _, _, f2263, f2264, f2265, f2266, f2253, k2267, hp, trivial⟩
                      · have d276 := (j_eq (a := v.toInt) (b := (0)) (rfl) (rfl)).mp c276
                        refine aw_iload 1 dX9_chain_279 rfl ?_
                        refine aw_goto 297 dX9_chain_281 (by decide) ?_
                        subst hQF
                        exact aw_iret rfl dX9_chain_297 (by decide) (by decide) ⟨_, rfl, _, _, _, _, _, f2263, f2264, f2265, f2266, f2253, k2267, hp, trivial⟩
                    · refine aw_lv [(11, .int 1), (10, .int ev), (9, .int (nI fr)), (8, .int dv), (7, .int sv), (4, .int v), (3, .int (nI y0)), (0, .ref (G.1 + 88))] [0, 1, 2, 3, 4, 5, 6, 7] rfl ?_
                      refine aw_iload 0 dX9_chain_170 rfl ?_
                      refine aw_if_le 274 dX9_chain_172 (by decide) (fun c172 => absurd c172 (by decide)) (fun c172 => ?_)
                      refine aw_iload 1 dX9_chain_175 rfl ?_
                      refine aw_if_lt 274 dX9_chain_177 (by decide) (fun c177 => ?_) (fun c177 => ?_)
                      · have d177 := (j_lt (a := ev.toInt) (b := (0)) (rfl) (rfl)).mp c177
                        refine aw_iload 5 dX9_chain_274 rfl ?_
                        refine aw_if_ne 284 dX9_chain_276 (by decide) (fun c276 => ?_) (fun c276 => ?_)
                        · have d276 := mt (j_eq (a := v.toInt) (b := (0)) (rfl) (rfl)).mpr c276
                          refine aw_iload 5 dX9_chain_284 rfl ?_
                          refine aw_iconst (1) dX9_chain_286 (by decide) ?_
                          refine aw_icmp_ne 295 dX9_chain_287 (by decide) (fun c287 => ?_) (fun c287 => ?_)
                          · have d287 := mt (j_eq (a := v.toInt) (b := (1)) (rfl) (rfl)).mpr c287
                            refine aw_iload 3 dX9_chain_295 rfl ?_
                            subst hQF
                            exact aw_iret rfl dX9_chain_297 (by decide) (by decide) ⟨_, rfl, _, _, _, _, _, f2263, f2264, f2265, f2266, f2253, k2267, hp, trivial⟩
                          · have d287 := (j_eq (a := v.toInt) (b := (1)) (rfl) (rfl)).mp c287
                            refine aw_iload 4 dX9_chain_290 rfl ?_
                            refine aw_goto 297 dX9_chain_292 (by decide) ?_
                            subst hQF
                            exact aw_iret rfl dX9_chain_297 (by decide) (by decide) ⟨_, rfl, _, _, _, _, _, f2263, f2264, f2265, f2266, f2253, k2267, hp, trivial⟩
                        · have d276 := (j_eq (a := v.toInt) (b := (0)) (rfl) (rfl)).mp c276
                          refine aw_iload 1 dX9_chain_279 rfl ?_
                          refine aw_goto 297 dX9_chain_281 (by decide) ?_
                          subst hQF
                          exact aw_iret rfl dX9_chain_297 (by decide) (by decide) ⟨_, rfl, _, _, _, _, _, f2263, f2264, f2265, f2266, f2253, k2267, hp, trivial⟩
                      · have d177 := mt (j_lt (a := ev.toInt) (b := (0)) (rfl) (rfl)).mpr c177
                        obtain ⟨q, bq, rfl⟩ := he.resolve_left (fun e => by rw [e] at d177; exact d177 (by decide))
                        refine aw_iload_n 6 dX9_chain_180 rfl rfl ?_
                        refine aw_iload 0 dX9_chain_181 rfl ?_
                        refine aw_idiv dX9_chain_183 (by decide) ?_
                        refine aw_toe (nI (y0 / 1)) (nv_div (rfl) (rfl) (by omega) (by decide) (by decide)) ?_
                        refine aw_bipush (10) dX9_chain_184 (by decide) ?_
                        refine aw_irem dX9_chain_186 (by decide) ?_
                        refine aw_toe (nI ((y0 / 1) % 10)) (nv_rem (rfl) (rfl) (by omega) (by decide) (by decide)) ?_
                        refine aw_iconst (1) dX9_chain_187 (by decide) ?_
                        refine aw_isub dX9_chain_188 ?_
                        refine aw_toe (nI (((y0 / 1) % 10) - 1)) (nv_sub (rfl) (rfl) (by omega)) ?_
                        refine aw_istore [(12, .int (nI (((y0 / 1) % 10) - 1))), (11, .int 1), (10, .int (nI q)), (9, .int (nI fr)), (8, .int dv), (7, .int sv), (4, .int v), (3, .int (nI y0)), (0, .ref (G.1 + 88))] dX9_chain_189 (by decide) rfl ?_
                        refine aw_aload_n 8 dX9_chain_191 rfl rfl ?_
                        refine aw_iload 3 dX9_chain_192 rfl ?_
                        refine aw_iload 2 dX9_chain_194 rfl ?_
                        refine aw_iload 0 dX9_chain_196 rfl ?_
                        refine aw_uV [.int (nI fr), .int (nI q), .int (nI (((y0 / 1) % 10) - 1))] [] lX9_190 vX9_isSure mX9_isSure dX9_chain_198 (bX9_isSure (sp := sp) (fa := fa) (nb := nb) (ns := ns) (nm := nm) (nv := nv) (sh := sh) (ho := ho) (ow := ow) (sl := sl) (m := m) (ye := ye) (b1 := b1) (b2 := b2) (W := W) (Z := Z) (Ro := Ro) (Co := Co) (fi := fi) (lk := lk1) (su := su1) (jd := jd1) (wy := wy1) (a := fr) (b := ((y0 / 1) % 10) - 1) (i := q) f2252 f2254 f2255 f2256 f2257 f2258 f2259 f2260 f2261 f2262 f2263 f2264 f2265 f2266 hm hye (by omega) bb1 bb2 (by omega) (by omega) hfi (by omega) (by omega) (by omega) (by omega)) f2252 rfl rfl rfl (Nat.le_of_ble_eq_true rfl) (by decide) (by decide) rfl (fun r2274 h2275 q2273 => ?_)
                        obtain ⟨lk12269, su12270, jd12271, wy12272, f2276, f2277, f2278, f2279, k2280, p2281, u2282⟩ := q2273
                        have f2283 := rng_at k2280 (by decide) f2252
                        have f2284 := rng_at k2280 (by decide) f2253
                        have f2285 := rng_at k2280 (by decide) f2254
                        have f2286 := rng_at k2280 (by decide) f2255
                        have f2287 := rng_at k2280 (by decide) f2256
                        have f2288 := rng_at k2280 (by decide) f2257
                        have f2289 := rng_at k2280 (by decide) f2258
                        have f2290 := rng_at k2280 (by decide) f2259
                        have f2291 := rng_at k2280 (by decide) f2260
                        have f2292 := rng_at k2280 (by decide) f2261
                        have f2293 := rng_at k2280 (by decide) f2262
                        refine aw_istore [(13, .int r2274), (12, .int (nI (((y0 / 1) % 10) - 1))), (11, .int 1), (10, .int (nI q)), (9, .int (nI fr)), (8, .int dv), (7, .int sv), (4, .int v), (3, .int (nI y0)), (0, .ref (G.1 + 88))] dX9_chain_201 (by decide) rfl ?_
                        refine aw_aload_n 9 dX9_chain_203 rfl rfl ?_
                        refine aw_get fX9_53 dX9_chain_204 f2283 rfl ?_
                        refine aw_iload 3 dX9_chain_207 rfl ?_
                        refine aw_iald q (rfl) (by omega) (by decide) dX9_chain_209 f2278 ?_
                        refine aw_istore [(14, .int (jd12271 q)), (13, .int r2274), (12, .int (nI (((y0 / 1) % 10) - 1))), (11, .int 1), (10, .int (nI q)), (9, .int (nI fr)), (8, .int dv), (7, .int sv), (4, .int v), (3, .int (nI y0)), (0, .ref (G.1 + 88))] dX9_chain_210 (by decide) rfl ?_
                        refine aw_iload 0 dX9_chain_212 rfl ?_
                        refine aw_if_lt 256 dX9_chain_214 (by decide) (fun c214 => ?_) (fun c214 => ?_)
                        · have d214 := (j_lt (a := (jd12271 q).toInt) (b := (0)) (rfl) (rfl)).mp c214
                          refine aw_iload 0 dX9_chain_256 rfl ?_
                          refine aw_istore [(10, .int (jd12271 q)), (14, .int (jd12271 q)), (13, .int r2274), (12, .int (nI (((y0 / 1) % 10) - 1))), (11, .int 1), (9, .int (nI fr)), (8, .int dv), (7, .int sv), (4, .int v), (3, .int (nI y0)), (0, .ref (G.1 + 88))] dX9_chain_258 (by decide) rfl ?_
                          refine aw_iload 3 dX9_chain_260 rfl ?_
                          refine aw_istore [(9, .int (nI (((y0 / 1) % 10) - 1))), (10, .int (jd12271 q)), (14, .int (jd12271 q)), (13, .int r2274), (12, .int (nI (((y0 / 1) % 10) - 1))), (11, .int 1), (8, .int dv), (7, .int sv), (4, .int v), (3, .int (nI y0)), (0, .ref (G.1 + 88))] dX9_chain_262 (by decide) rfl ?_
                          refine aw_iload 5 dX9_chain_264 rfl ?_
                          refine aw_bipush (10) dX9_chain_266 (by decide) ?_
                          refine aw_idiv dX9_chain_268 (by decide) ?_
                          refine aw_toe 0 (by decide) ?_
                          refine aw_istore [(11, .int 0), (9, .int (nI (((y0 / 1) % 10) - 1))), (10, .int (jd12271 q)), (14, .int (jd12271 q)), (13, .int r2274), (12, .int (nI (((y0 / 1) % 10) - 1))), (8, .int dv), (7, .int sv), (4, .int v), (3, .int (nI y0)), (0, .ref (G.1 + 88))] dX9_chain_269 (by decide) rfl ?_
                          refine aw_goto 170 dX9_chain_271 (by decide) ?_
                          refine aw_lv [(11, .int 0), (10, .int (jd12271 q)), (9, .int (nI (((y0 / 1) % 10) - 1))), (8, .int dv), (7, .int sv), (4, .int v), (3, .int (nI y0)), (0, .ref (G.1 + 88))] [0, 2, 1, 6, 7, 8, 9, 10] rfl ?_
                          exact ih2268 0 (jd12271 q) (((y0 / 1) % 10) - 1) dv sv lk12269 su12270 jd12271 wy12272 _ (by omega) (by decide) (p2281 q bq) (by omega) (p2281) f2283 f2284 f2285 f2286 f2287 f2288 f2289 f2290 f2291 f2292 f2293 f2276 f2277 f2278 f2279 (rg2_tr (k2267) (rg2_w k2280 (by decide)))
                        · have d214 := mt (j_lt (a := (jd12271 q).toInt) (b := (0)) (rfl) (rfl)).mpr c214
                          obtain ⟨q2, bq2, eq2⟩ := pB_g p2281 (show q < 10 by omega) d214
                          rw [eq2]
                          refine aw_iinc (j := 7) (sv + 1) [(7, .int (sv + 1)), (14, .int (nI q2)), (13, .int r2274), (12, .int (nI (((y0 / 1) % 10) - 1))), (11, .int 1), (10, .int (nI q)), (9, .int (nI fr)), (8, .int dv), (4, .int v), (3, .int (nI y0)), (0, .ref (G.1 + 88))] dX9_chain_217 rfl (by rfl) (by decide) rfl ?_
                          refine aw_iload 7 dX9_chain_220 rfl ?_
                          refine aw_iconst (0) dX9_chain_222 (by decide) ?_
                          refine aw_bipush (100) dX9_chain_223 (by decide) ?_
                          refine aw_aload_n 10 dX9_chain_225 rfl rfl ?_
                          refine aw_iload 6 dX9_chain_226 rfl ?_
                          refine aw_iload 5 dX9_chain_228 rfl ?_
                          refine aw_iload 3 dX9_chain_230 rfl ?_
                          refine aw_iload 1 dX9_chain_232 rfl ?_
                          refine aw_uV [.int (nI fr), .int (nI q), .int (nI (((y0 / 1) % 10) - 1)), .int (nI q2)] [.int 100, .int 0, .int dv] lX9_166 vX9_likeOf mX9_likeOf dX9_chain_234 (bX9_likeOf (sp := sp) (fa := fa) (nb := nb) (ns := ns) (nm := nm) (nv := nv) (sh := sh) (ho := ho) (ow := ow) (sl := sl) (m := m) (ye := ye) (b1 := b1) (b2 := b2) (W := W) (Z := Z) (Ro := Ro) (Co := Co) (a := fr) (i := q) (b := ((y0 / 1) % 10) - 1) (k := q2) f2283 f2285 f2286 f2287 f2288 f2289 f2290 f2291 f2292 hm hye (by omega) bb1 bb2 (by omega) (by omega) (by omega) (by omega) (by omega) (by omega)) f2283 rfl rfl rfl (Nat.le_of_ble_eq_true rfl) (by decide) (by decide) rfl (fun r2295 h2296 q2294 => ?_)
                          obtain ⟨e2298, u2297⟩ := q2294
                          rw [e2298]
                          refine aw_isub dX9_chain_237 ?_
                          refine aw_mmax lX9_162 dX9_chain_238 (Nat.le_of_ble_eq_true rfl) (by decide) (by decide) ?_
                          refine aw_iload 2 dX9_chain_241 rfl ?_
                          refine aw_if_eq 250 dX9_chain_243 (by decide) (fun c243 => ?_) (fun c243 => ?_)
                          · have d243 := (j_eq (a := r2274.toInt) (b := (0)) (rfl) (rfl)).mp c243
                            refine aw_bipush (50) dX9_chain_250 (by decide) ?_
                            refine aw_iadd dX9_chain_252 ?_
                            refine aw_iadd dX9_chain_253 ?_
                            refine aw_istore [(8, .int (dv + ((if 0 < (100 - r2295) then (100 - r2295) else 0) + 50))), (7, .int (sv + 1)), (14, .int (nI q2)), (13, .int r2274), (12, .int (nI (((y0 / 1) % 10) - 1))), (11, .int 1), (10, .int (nI q)), (9, .int (nI fr)), (4, .int v), (3, .int (nI y0)), (0, .ref (G.1 + 88))] dX9_chain_254 (by decide) rfl ?_
                            refine aw_iload 2 dX9_chain_256 rfl ?_
                            refine aw_istore [(10, .int (nI q2)), (8, .int (dv + ((if 0 < (100 - r2295) then (100 - r2295) else 0) + 50))), (7, .int (sv + 1)), (14, .int (nI q2)), (13, .int r2274), (12, .int (nI (((y0 / 1) % 10) - 1))), (11, .int 1), (9, .int (nI fr)), (4, .int v), (3, .int (nI y0)), (0, .ref (G.1 + 88))] dX9_chain_258 (by decide) rfl ?_
                            refine aw_iload 5 dX9_chain_260 rfl ?_
                            refine aw_istore [(9, .int (nI (((y0 / 1) % 10) - 1))), (10, .int (nI q2)), (8, .int (dv + ((if 0 < (100 - r2295) then (100 - r2295) else 0) + 50))), (7, .int (sv + 1)), (14, .int (nI q2)), (13, .int r2274), (12, .int (nI (((y0 / 1) % 10) - 1))), (11, .int 1), (4, .int v), (3, .int (nI y0)), (0, .ref (G.1 + 88))] dX9_chain_262 (by decide) rfl ?_
                            refine aw_iload 7 dX9_chain_264 rfl ?_
                            refine aw_bipush (10) dX9_chain_266 (by decide) ?_
                            refine aw_idiv dX9_chain_268 (by decide) ?_
                            refine aw_toe 0 (by decide) ?_
                            refine aw_istore [(11, .int 0), (9, .int (nI (((y0 / 1) % 10) - 1))), (10, .int (nI q2)), (8, .int (dv + ((if 0 < (100 - r2295) then (100 - r2295) else 0) + 50))), (7, .int (sv + 1)), (14, .int (nI q2)), (13, .int r2274), (12, .int (nI (((y0 / 1) % 10) - 1))), (4, .int v), (3, .int (nI y0)), (0, .ref (G.1 + 88))] dX9_chain_269 (by decide) rfl ?_
                            refine aw_goto 170 dX9_chain_271 (by decide) ?_
                            refine aw_lv [(11, .int 0), (10, .int (nI q2)), (9, .int (nI (((y0 / 1) % 10) - 1))), (8, .int (dv + ((if 0 < (100 - r2295) then (100 - r2295) else 0) + 50))), (7, .int (sv + 1)), (4, .int v), (3, .int (nI y0)), (0, .ref (G.1 + 88))] [0, 2, 1, 3, 4, 8, 9, 10] rfl ?_
                            exact ih2268 0 (nI q2) (((y0 / 1) % 10) - 1) (dv + ((if 0 < (100 - r2295) then (100 - r2295) else 0) + 50)) (sv + 1) lk12269 su12270 jd12271 wy12272 _ (by omega) (by decide) (Or.inr ⟨_, bq2, rfl⟩) (by omega) (p2281) f2283 f2284 f2285 f2286 f2287 f2288 f2289 f2290 f2291 f2292 f2293 f2276 f2277 f2278 f2279 (rg2_tr (k2267) (rg2_w k2280 (by decide)))
                          · have d243 := mt (j_eq (a := r2274.toInt) (b := (0)) (rfl) (rfl)).mpr c243
                            refine aw_iconst (0) dX9_chain_246 (by decide) ?_
                            refine aw_goto 252 dX9_chain_247 (by decide) ?_
                            refine aw_iadd dX9_chain_252 ?_
                            refine aw_iadd dX9_chain_253 ?_
                            refine aw_istore [(8, .int (dv + ((if 0 < (100 - r2295) then (100 - r2295) else 0) + 0))), (7, .int (sv + 1)), (14, .int (nI q2)), (13, .int r2274), (12, .int (nI (((y0 / 1) % 10) - 1))), (11, .int 1), (10, .int (nI q)), (9, .int (nI fr)), (4, .int v), (3, .int (nI y0)), (0, .ref (G.1 + 88))] dX9_chain_254 (by decide) rfl ?_
                            refine aw_iload 2 dX9_chain_256 rfl ?_
                            refine aw_istore [(10, .int (nI q2)), (8, .int (dv + ((if 0 < (100 - r2295) then (100 - r2295) else 0) + 0))), (7, .int (sv + 1)), (14, .int (nI q2)), (13, .int r2274), (12, .int (nI (((y0 / 1) % 10) - 1))), (11, .int 1), (9, .int (nI fr)), (4, .int v), (3, .int (nI y0)), (0, .ref (G.1 + 88))] dX9_chain_258 (by decide) rfl ?_
                            refine aw_iload 5 dX9_chain_260 rfl ?_
                            refine aw_istore [(9, .int (nI (((y0 / 1) % 10) - 1))), (10, .int (nI q2)), (8, .int (dv + ((if 0 < (100 - r2295) then (100 - r2295) else 0) + 0))), (7, .int (sv + 1)), (14, .int (nI q2)), (13, .int r2274), (12, .int (nI (((y0 / 1) % 10) - 1))), (11, .int 1), (4, .int v), (3, .int (nI y0)), (0, .ref (G.1 + 88))] dX9_chain_262 (by decide) rfl ?_
                            refine aw_iload 7 dX9_chain_264 rfl ?_
                            refine aw_bipush (10) dX9_chain_266 (by decide) ?_
                            refine aw_idiv dX9_chain_268 (by decide) ?_
                            refine aw_toe 0 (by decide) ?_
                            refine aw_istore [(11, .int 0), (9, .int (nI (((y0 / 1) % 10) - 1))), (10, .int (nI q2)), (8, .int (dv + ((if 0 < (100 - r2295) then (100 - r2295) else 0) + 0))), (7, .int (sv + 1)), (14, .int (nI q2)), (13, .int r2274), (12, .int (nI (((y0 / 1) % 10) - 1))), (4, .int v), (3, .int (nI y0)), (0, .ref (G.1 + 88))] dX9_chain_269 (by decide) rfl ?_
                            refine aw_goto 170 dX9_chain_271 (by decide) ?_
                            refine aw_lv [(11, .int 0), (10, .int (nI q2)), (9, .int (nI (((y0 / 1) % 10) - 1))), (8, .int (dv + ((if 0 < (100 - r2295) then (100 - r2295) else 0) + 0))), (7, .int (sv + 1)), (4, .int v), (3, .int (nI y0)), (0, .ref (G.1 + 88))] [0, 2, 1, 3, 4, 8, 9, 10] rfl ?_
                            exact ih2268 0 (nI q2) (((y0 / 1) % 10) - 1) (dv + ((if 0 < (100 - r2295) then (100 - r2295) else 0) + 0)) (sv + 1) lk12269 su12270 jd12271 wy12272 _ (by omega) (by decide) (Or.inr ⟨_, bq2, rfl⟩) (by omega) (p2281) f2283 f2284 f2285 f2286 f2287 f2288 f2289 f2290 f2291 f2292 f2293 f2276 f2277 f2278 f2279 (rg2_tr (k2267) (rg2_w k2280 (by decide)))
                · have t123 := ite_0 c123
                  refine aw_aload_n 4 dX9_chain_126 rfl rfl ?_
                  refine aw_bipush (-2) dX9_chain_127 (by decide) ?_
                  refine aw_eV [.int (-2)] [] lX9_130 vX9_refuse mX9_refuse dX9_chain_129 (bX9_refuse (sp := sp) (fa := fa) (nb := nb) (ns := ns) (nm := nm) (nv := nv) (sh := sh) (ho := ho) (ow := ow) (sl := sl) (rg := rg) (x := (-2)) (q := 2) h88 h89 (by decide) (by decide)) h88 rfl rfl rfl (Nat.le_of_ble_eq_true rfl) (by decide) (by decide) rfl (fun h2301 q2300 => ?_)
                  obtain ⟨rg12299, f2302, k2303⟩ := q2300
                  have f2304 := rng_at k2303 (by decide) h88
                  have f2305 := rng_at k2303 (by decide) h90
                  have f2306 := rng_at k2303 (by decide) h91
                  have f2307 := rng_at k2303 (by decide) h93
                  have f2308 := rng_at k2303 (by decide) h94
                  have f2309 := rng_at k2303 (by decide) h95
                  have f2310 := rng_at k2303 (by decide) h96
                  have f2311 := rng_at k2303 (by decide) h97
                  have f2312 := rng_at k2303 (by decide) h98
                  have f2313 := rng_at k2303 (by decide) h92
                  have f2314 := rng_at k2303 (by decide) h99
                  have f2315 := rng_at k2303 (by decide) h100
                  have f2316 := rng_at k2303 (by decide) h101
                  have f2317 := rng_at k2303 (by decide) h102
                  subst hQF
                  exact aw_iret rfl dX9_chain_132 (by decide) (by decide) ⟨_, rfl, _, _, _, _, _, f2314, f2315, f2316, f2317, f2302, rg2_tr (rg2_rf 89 89 99 102 h) (rg2_w k2303 (by decide)), hjd, trivial⟩
              · have t89 := ite_1e c89
                refine aw_aload_n 4 dX9_chain_92 rfl rfl ?_
                refine aw_iconst (-1) dX9_chain_93 (by decide) ?_
                refine aw_eV [.int (-1)] [] lX9_130 vX9_refuse mX9_refuse dX9_chain_94 (bX9_refuse (sp := sp) (fa := fa) (nb := nb) (ns := ns) (nm := nm) (nv := nv) (sh := sh) (ho := ho) (ow := ow) (sl := sl) (rg := rg) (x := (-1)) (q := 1) h88 h89 (by decide) (by decide)) h88 rfl rfl rfl (Nat.le_of_ble_eq_true rfl) (by decide) (by decide) rfl (fun h2320 q2319 => ?_)
                obtain ⟨rg12318, f2321, k2322⟩ := q2319
                have f2323 := rng_at k2322 (by decide) h88
                have f2324 := rng_at k2322 (by decide) h90
                have f2325 := rng_at k2322 (by decide) h91
                have f2326 := rng_at k2322 (by decide) h93
                have f2327 := rng_at k2322 (by decide) h94
                have f2328 := rng_at k2322 (by decide) h95
                have f2329 := rng_at k2322 (by decide) h96
                have f2330 := rng_at k2322 (by decide) h97
                have f2331 := rng_at k2322 (by decide) h98
                have f2332 := rng_at k2322 (by decide) h92
                have f2333 := rng_at k2322 (by decide) h99
                have f2334 := rng_at k2322 (by decide) h100
                have f2335 := rng_at k2322 (by decide) h101
                have f2336 := rng_at k2322 (by decide) h102
                subst hQF
                exact aw_iret rfl dX9_chain_97 (by decide) (by decide) ⟨_, rfl, _, _, _, _, _, f2333, f2334, f2335, f2336, f2321, rg2_tr (rg2_rf 89 89 99 102 h) (rg2_w k2322 (by decide)), hjd, trivial⟩
          · have d45 := mt (nv_le (a := y0) (b := 9) (rfl) (rfl) (by omega) (by omega)).mpr c45
            refine aw_iconst (2) dX9_chain_48 (by decide) ?_
            refine aw_goto 53 dX9_chain_49 (by decide) ?_
            refine aw_istore [(6, .int 2), (5, .int (nI (2 ^ a0))), (0, .ref (G.1 + 88)), (1, .int (nI a0)), (2, .int (nI i0)), (3, .int (nI y0)), (4, .int v)] dX9_chain_53 (by decide) rfl ?_
            refine aw_iload_n 5 dX9_chain_55 rfl rfl ?_
            refine aw_istore [(7, .int (nI y0)), (6, .int 2), (5, .int (nI (2 ^ a0))), (0, .ref (G.1 + 88)), (1, .int (nI a0)), (2, .int (nI i0)), (3, .int (nI y0)), (4, .int v)] dX9_chain_56 (by decide) rfl ?_
            refine aw_iload 0 dX9_chain_58 rfl ?_
            refine aw_if_le 117 dX9_chain_60 (by decide) (fun c60 => absurd c60 (by simp only [i_le, (nI_toInt (n := y0) (by omega)), (show (0 : Int32).toInt = 0 from rfl)] <;> omega)) (fun c60 => ?_)
            refine aw_iload 0 dX9_chain_63 rfl ?_
            refine aw_bipush (10) dX9_chain_65 (by decide) ?_
            refine aw_irem dX9_chain_67 (by decide) ?_
            refine aw_toe (nI (y0 % 10)) (nv_rem (rfl) (rfl) (by omega) (by decide) (by decide)) ?_
            refine aw_iconst (1) dX9_chain_68 (by decide) ?_
            refine aw_isub dX9_chain_69 ?_
            refine aw_istore [(8, .int ((nI (y0 % 10)) - 1)), (7, .int (nI y0)), (6, .int 2), (5, .int (nI (2 ^ a0))), (0, .ref (G.1 + 88)), (1, .int (nI a0)), (2, .int (nI i0)), (3, .int (nI y0)), (4, .int v)] dX9_chain_70 (by decide) rfl ?_
            refine aw_iload 0 dX9_chain_72 rfl ?_
            refine aw_iconst (4) dX9_chain_74 (by decide) ?_
            refine aw_dS [.int ((nI (y0 % 10)) - 1), .int 4] [] lX9_126 sX9_isIn mX9_isIn dX9_chain_75 (bX9_isIn (x := (nI (y0 % 10)) - 1) (n := 4) (by omega)) rfl (Nat.le_of_ble_eq_true rfl) (by decide) (by decide) rfl ?_
            refine aw_if_eq 92 dX9_chain_78 (by decide) (fun c78 => ?_) (fun c78 => ?_)
            · have t78 := ite_0 c78
              refine aw_aload_n 4 dX9_chain_92 rfl rfl ?_
              refine aw_iconst (-1) dX9_chain_93 (by decide) ?_
              refine aw_eV [.int (-1)] [] lX9_130 vX9_refuse mX9_refuse dX9_chain_94 (bX9_refuse (sp := sp) (fa := fa) (nb := nb) (ns := ns) (nm := nm) (nv := nv) (sh := sh) (ho := ho) (ow := ow) (sl := sl) (rg := rg) (x := (-1)) (q := 1) h88 h89 (by decide) (by decide)) h88 rfl rfl rfl (Nat.le_of_ble_eq_true rfl) (by decide) (by decide) rfl (fun h2339 q2338 => ?_)
              obtain ⟨rg12337, f2340, k2341⟩ := q2338
              have f2342 := rng_at k2341 (by decide) h88
              have f2343 := rng_at k2341 (by decide) h90
              have f2344 := rng_at k2341 (by decide) h91
              have f2345 := rng_at k2341 (by decide) h93
              have f2346 := rng_at k2341 (by decide) h94
              have f2347 := rng_at k2341 (by decide) h95
              have f2348 := rng_at k2341 (by decide) h96
              have f2349 := rng_at k2341 (by decide) h97
              have f2350 := rng_at k2341 (by decide) h98
              have f2351 := rng_at k2341 (by decide) h92
              have f2352 := rng_at k2341 (by decide) h99
              have f2353 := rng_at k2341 (by decide) h100
              have f2354 := rng_at k2341 (by decide) h101
              have f2355 := rng_at k2341 (by decide) h102
              subst hQF
              exact aw_iret rfl dX9_chain_97 (by decide) (by decide) ⟨_, rfl, _, _, _, _, _, f2352, f2353, f2354, f2355, f2340, rg2_tr (rg2_rf 89 89 99 102 h) (rg2_w k2341 (by decide)), hjd, trivial⟩
            · have t78 := ite_1 c78
              have g0 : 1 ≤ y0 % 10 ∧ y0 % 10 ≤ 4 := by rw [dig_i (by omega)] at t78; omega
              rw [dig_e g0.1]
              refine aw_iload 3 dX9_chain_81 rfl ?_
              refine aw_iload 0 dX9_chain_83 rfl ?_
              refine aw_ishr dX9_chain_85 ?_
              refine aw_iconst (1) dX9_chain_86 (by decide) ?_
              refine aw_iand dX9_chain_87 ?_
              refine aw_toe (if (2 ^ a0).testBit (y0 % 10 - 1) = true then 1 else 0) (nv_bit (rfl) (rfl) (by omega) (by omega)) ?_
              refine aw_iconst (1) dX9_chain_88 (by decide) ?_
              refine aw_icmp_ne 98 dX9_chain_89 (by decide) (fun c89 => ?_) (fun c89 => ?_)
              · have t89 := ite_0e c89
                have w1 := or_16 (a := 2 ^ a0) (b := y0 % 10 - 1) (by omega) (by omega)
                refine aw_iload 3 dX9_chain_98 rfl ?_
                refine aw_iconst (1) dX9_chain_100 (by decide) ?_
                refine aw_iload 0 dX9_chain_101 rfl ?_
                refine aw_ishl dX9_chain_103 ?_
                refine aw_toe (nI (2 ^ (y0 % 10 - 1))) (nv_shl1 (rfl) (by omega)) ?_
                refine aw_ior dX9_chain_104 ?_
                refine aw_toe (nI ((2 ^ a0) ||| (2 ^ (y0 % 10 - 1)))) (nv_or (rfl) (rfl)) ?_
                refine aw_istore [(5, .int (nI ((2 ^ a0) ||| (2 ^ (y0 % 10 - 1))))), (8, .int (nI (y0 % 10 - 1))), (7, .int (nI y0)), (6, .int 2), (0, .ref (G.1 + 88)), (1, .int (nI a0)), (2, .int (nI i0)), (3, .int (nI y0)), (4, .int v)] dX9_chain_105 (by decide) rfl ?_
                refine aw_iload 2 dX9_chain_107 rfl ?_
                refine aw_bipush (10) dX9_chain_109 (by decide) ?_
                refine aw_idiv dX9_chain_111 (by decide) ?_
                refine aw_toe (nI (y0 / 10)) (nv_div (rfl) (rfl) (by omega) (by decide) (by decide)) ?_
                refine aw_istore [(7, .int (nI (y0 / 10))), (5, .int (nI ((2 ^ a0) ||| (2 ^ (y0 % 10 - 1))))), (8, .int (nI (y0 % 10 - 1))), (6, .int 2), (0, .ref (G.1 + 88)), (1, .int (nI a0)), (2, .int (nI i0)), (3, .int (nI y0)), (4, .int v)] dX9_chain_112 (by decide) rfl ?_
                refine aw_goto 58 dX9_chain_114 (by decide) ?_
                refine aw_iload 0 dX9_chain_58 rfl ?_
                refine aw_if_le 117 dX9_chain_60 (by decide) (fun c60 => absurd c60 (by simp only [i_le, (nI_toInt (n := y0 / 10) (by omega)), (show (0 : Int32).toInt = 0 from rfl)] <;> omega)) (fun c60 => ?_)
                refine aw_iload 0 dX9_chain_63 rfl ?_
                refine aw_bipush (10) dX9_chain_65 (by decide) ?_
                refine aw_irem dX9_chain_67 (by decide) ?_
                refine aw_toe (nI ((y0 / 10) % 10)) (nv_rem (rfl) (rfl) (by omega) (by decide) (by decide)) ?_
                refine aw_iconst (1) dX9_chain_68 (by decide) ?_
                refine aw_isub dX9_chain_69 ?_
                refine aw_istore [(8, .int ((nI ((y0 / 10) % 10)) - 1)), (7, .int (nI (y0 / 10))), (5, .int (nI ((2 ^ a0) ||| (2 ^ (y0 % 10 - 1))))), (6, .int 2), (0, .ref (G.1 + 88)), (1, .int (nI a0)), (2, .int (nI i0)), (3, .int (nI y0)), (4, .int v)] dX9_chain_70 (by decide) rfl ?_
                refine aw_iload 0 dX9_chain_72 rfl ?_
                refine aw_iconst (4) dX9_chain_74 (by decide) ?_
                refine aw_dS [.int ((nI ((y0 / 10) % 10)) - 1), .int 4] [] lX9_126 sX9_isIn mX9_isIn dX9_chain_75 (bX9_isIn (x := (nI ((y0 / 10) % 10)) - 1) (n := 4) (by omega)) rfl (Nat.le_of_ble_eq_true rfl) (by decide) (by decide) rfl ?_
                refine aw_if_eq 92 dX9_chain_78 (by decide) (fun c78 => ?_) (fun c78 => ?_)
                · have t78 := ite_0 c78
                  refine aw_aload_n 4 dX9_chain_92 rfl rfl ?_
                  refine aw_iconst (-1) dX9_chain_93 (by decide) ?_
                  refine aw_eV [.int (-1)] [] lX9_130 vX9_refuse mX9_refuse dX9_chain_94 (bX9_refuse (sp := sp) (fa := fa) (nb := nb) (ns := ns) (nm := nm) (nv := nv) (sh := sh) (ho := ho) (ow := ow) (sl := sl) (rg := rg) (x := (-1)) (q := 1) h88 h89 (by decide) (by decide)) h88 rfl rfl rfl (Nat.le_of_ble_eq_true rfl) (by decide) (by decide) rfl (fun h2358 q2357 => ?_)
                  obtain ⟨rg12356, f2359, k2360⟩ := q2357
                  have f2361 := rng_at k2360 (by decide) h88
                  have f2362 := rng_at k2360 (by decide) h90
                  have f2363 := rng_at k2360 (by decide) h91
                  have f2364 := rng_at k2360 (by decide) h93
                  have f2365 := rng_at k2360 (by decide) h94
                  have f2366 := rng_at k2360 (by decide) h95
                  have f2367 := rng_at k2360 (by decide) h96
                  have f2368 := rng_at k2360 (by decide) h97
                  have f2369 := rng_at k2360 (by decide) h98
                  have f2370 := rng_at k2360 (by decide) h92
                  have f2371 := rng_at k2360 (by decide) h99
                  have f2372 := rng_at k2360 (by decide) h100
                  have f2373 := rng_at k2360 (by decide) h101
                  have f2374 := rng_at k2360 (by decide) h102
                  subst hQF
                  exact aw_iret rfl dX9_chain_97 (by decide) (by decide) ⟨_, rfl, _, _, _, _, _, f2371, f2372, f2373, f2374, f2359, rg2_tr (rg2_rf 89 89 99 102 h) (rg2_w k2360 (by decide)), hjd, trivial⟩
                · have t78 := ite_1 c78
                  have g1 : 1 ≤ (y0 / 10) % 10 ∧ (y0 / 10) % 10 ≤ 4 := by rw [dig_i (by omega)] at t78; omega
                  rw [dig_e g1.1]
                  refine aw_iload 2 dX9_chain_81 rfl ?_
                  refine aw_iload 0 dX9_chain_83 rfl ?_
                  refine aw_ishr dX9_chain_85 ?_
                  refine aw_iconst (1) dX9_chain_86 (by decide) ?_
                  refine aw_iand dX9_chain_87 ?_
                  refine aw_toe (if ((2 ^ a0) ||| (2 ^ (y0 % 10 - 1))).testBit ((y0 / 10) % 10 - 1) = true then 1 else 0) (nv_bit (rfl) (rfl) (by omega) (by omega)) ?_
                  refine aw_iconst (1) dX9_chain_88 (by decide) ?_
                  refine aw_icmp_ne 98 dX9_chain_89 (by decide) (fun c89 => ?_) (fun c89 => ?_)
                  · have t89 := ite_0e c89
                    have w2 := or_16 (a := (2 ^ a0) ||| (2 ^ (y0 % 10 - 1))) (b := (y0 / 10) % 10 - 1) (by omega) (by omega)
                    refine aw_iload 2 dX9_chain_98 rfl ?_
                    refine aw_iconst (1) dX9_chain_100 (by decide) ?_
                    refine aw_iload 0 dX9_chain_101 rfl ?_
                    refine aw_ishl dX9_chain_103 ?_
                    refine aw_toe (nI (2 ^ ((y0 / 10) % 10 - 1))) (nv_shl1 (rfl) (by omega)) ?_
                    refine aw_ior dX9_chain_104 ?_
                    refine aw_toe (nI (((2 ^ a0) ||| (2 ^ (y0 % 10 - 1))) ||| (2 ^ ((y0 / 10) % 10 - 1)))) (nv_or (rfl) (rfl)) ?_
                    refine aw_istore [(5, .int (nI (((2 ^ a0) ||| (2 ^ (y0 % 10 - 1))) ||| (2 ^ ((y0 / 10) % 10 - 1))))), (8, .int (nI ((y0 / 10) % 10 - 1))), (7, .int (nI (y0 / 10))), (6, .int 2), (0, .ref (G.1 + 88)), (1, .int (nI a0)), (2, .int (nI i0)), (3, .int (nI y0)), (4, .int v)] dX9_chain_105 (by decide) rfl ?_
                    refine aw_iload 2 dX9_chain_107 rfl ?_
                    refine aw_bipush (10) dX9_chain_109 (by decide) ?_
                    refine aw_idiv dX9_chain_111 (by decide) ?_
                    refine aw_toe (nI ((y0 / 10) / 10)) (nv_div (rfl) (rfl) (by omega) (by decide) (by decide)) ?_
                    refine aw_istore [(7, .int (nI ((y0 / 10) / 10))), (5, .int (nI (((2 ^ a0) ||| (2 ^ (y0 % 10 - 1))) ||| (2 ^ ((y0 / 10) % 10 - 1))))), (8, .int (nI ((y0 / 10) % 10 - 1))), (6, .int 2), (0, .ref (G.1 + 88)), (1, .int (nI a0)), (2, .int (nI i0)), (3, .int (nI y0)), (4, .int v)] dX9_chain_112 (by decide) rfl ?_
                    refine aw_goto 58 dX9_chain_114 (by decide) ?_
                    refine aw_iload 0 dX9_chain_58 rfl ?_
                    refine aw_if_le 117 dX9_chain_60 (by decide) (fun c60 => ?_) (fun c60 => absurd (by simp only [i_le, (nI_toInt (n := (y0 / 10) / 10) (by omega)), (show (0 : Int32).toInt = 0 from rfl)] <;> omega) c60)
                    refine aw_iload 8 dX9_chain_117 rfl ?_
                    refine aw_iconst (3) dX9_chain_119 (by decide) ?_
                    refine aw_dS [.int v, .int 3] [] lX9_126 sX9_isIn mX9_isIn dX9_chain_120 (bX9_isIn (x := v) (n := 3) (by omega)) rfl (Nat.le_of_ble_eq_true rfl) (by decide) (by decide) rfl ?_
                    refine aw_if_ne 133 dX9_chain_123 (by decide) (fun c123 => ?_) (fun c123 => ?_)
                    · have t123 := ite_1 c123
                      refine aw_iconst (0) dX9_chain_133 (by decide) ?_
                      refine aw_istore [(7, .int 0), (5, .int (nI (((2 ^ a0) ||| (2 ^ (y0 % 10 - 1))) ||| (2 ^ ((y0 / 10) % 10 - 1))))), (8, .int (nI ((y0 / 10) % 10 - 1))), (6, .int 2), (0, .ref (G.1 + 88)), (1, .int (nI a0)), (2, .int (nI i0)), (3, .int (nI y0)), (4, .int v)] dX9_chain_134 (by decide) rfl ?_
                      refine aw_iconst (0) dX9_chain_136 (by decide) ?_
                      refine aw_istore [(8, .int 0), (7, .int 0), (5, .int (nI (((2 ^ a0) ||| (2 ^ (y0 % 10 - 1))) ||| (2 ^ ((y0 / 10) % 10 - 1))))), (6, .int 2), (0, .ref (G.1 + 88)), (1, .int (nI a0)), (2, .int (nI i0)), (3, .int (nI y0)), (4, .int v)] dX9_chain_137 (by decide) rfl ?_
                      refine aw_iload_n 5 dX9_chain_139 rfl rfl ?_
                      refine aw_istore [(9, .int (nI a0)), (8, .int 0), (7, .int 0), (5, .int (nI (((2 ^ a0) ||| (2 ^ (y0 % 10 - 1))) ||| (2 ^ ((y0 / 10) % 10 - 1))))), (6, .int 2), (0, .ref (G.1 + 88)), (1, .int (nI a0)), (2, .int (nI i0)), (3, .int (nI y0)), (4, .int v)] dX9_chain_140 (by decide) rfl ?_
                      refine aw_iload_n 7 dX9_chain_142 rfl rfl ?_
                      refine aw_istore [(10, .int (nI i0)), (9, .int (nI a0)), (8, .int 0), (7, .int 0), (5, .int (nI (((2 ^ a0) ||| (2 ^ (y0 % 10 - 1))) ||| (2 ^ ((y0 / 10) % 10 - 1))))), (6, .int 2), (0, .ref (G.1 + 88)), (1, .int (nI a0)), (2, .int (nI i0)), (3, .int (nI y0)), (4, .int v)] dX9_chain_143 (by decide) rfl ?_
                      refine aw_iload 5 dX9_chain_145 rfl ?_
                      refine aw_iconst (3) dX9_chain_147 (by decide) ?_
                      refine aw_icmp_ne 156 dX9_chain_148 (by decide) (fun c148 => ?_) (fun c148 => absurd c148 (by decide))
                      refine aw_iload 5 dX9_chain_156 rfl ?_
                      refine aw_iconst (2) dX9_chain_158 (by decide) ?_
                      refine aw_icmp_ne 167 dX9_chain_159 (by decide) (fun c159 => absurd (by decide) c159) (fun c159 => ?_)
                      refine aw_bipush (10) dX9_chain_162 (by decide) ?_
                      refine aw_goto 168 dX9_chain_164 (by decide) ?_
                      refine aw_istore [(11, .int 10), (10, .int (nI i0)), (9, .int (nI a0)), (8, .int 0), (7, .int 0), (5, .int (nI (((2 ^ a0) ||| (2 ^ (y0 % 10 - 1))) ||| (2 ^ ((y0 / 10) % 10 - 1))))), (6, .int 2), (0, .ref (G.1 + 88)), (1, .int (nI a0)), (2, .int (nI i0)), (3, .int (nI y0)), (4, .int v)] dX9_chain_168 (by decide) rfl ?_
                      refine aw_lv [(11, .int 10), (10, .int (nI i0)), (9, .int (nI a0)), (8, .int 0), (7, .int 0), (4, .int v), (3, .int (nI y0)), (0, .ref (G.1 + 88))] [0, 1, 2, 3, 4, 11, 10, 7] rfl ?_
                      suffices L2392 : ∀ (mm : Nat) (x : Nat) (ev : Int32) (fr : Nat) (dv : Int32) (sv : Int32) (lk1 : Nat → Int32) (su1 : Nat → Int32) (jd1 : Nat → Int32) (wy1 : Nat → Int32) (h2375 : List va_E), x < mm → (x = 0 ∨ x = 1 ∨ x = 2) → (ev = -9 ∨ ∃ q, q < 10 ∧ ev = nI q) → (fr < 4) → (pB jd1) → h2375[88]? = some (oB 9 (lM G (nI sp) (nI fa) (nI nb) (nI ns) (nI nm) ho ow sl (nI nv) (nI sh))) → h2375[89]? = some (aI 7 rg) → h2375[90]? = some (aI 20 (nA m)) → h2375[91]? = some (aI 4 (nA ye)) → h2375[93]? = some (aI 40 W) → h2375[94]? = some (aI 40 Z) → h2375[95]? = some (aI 40 Ro) → h2375[96]? = some (aI 40 Co) → h2375[97]? = some (aI 30 (nA b1)) → h2375[98]? = some (aI 30 (nA b2)) → h2375[92]? = some (aI 4 (nA fi)) → h2375[99]? = some (aI 100 lk1) → h2375[100]? = some (aI 11264 su1) → h2375[101]? = some (aI 10 jd1) → h2375[102]? = some (aI 11264 wy1) → rg2 89 89 99 102 h h2375 → AW l G yX9_chain cX9_chain 15 (some .int) (xR 6 0 0) (fun _ _ => True) QF 0 0 170 [(11, .int (nI (p10 x))), (10, .int ev), (9, .int (nI fr)), (8, .int dv), (7, .int sv), (4, .int v), (3, .int (nI y0)), (0, .ref (G.1 + 88))] [] h2375 from L2392 (2 + 1) 2 (nI i0) a0 0 0 lk su jd wy _ (Nat.lt_succ_self _) (by decide) (Or.inr ⟨_, by omega, rfl⟩) (by omega) (hjd) h88 h89 h90 h91 h93 h94 h95 h96 h97 h98 h92 h99 h100 h101 h102 (rg2_rf 89 89 99 102 h)
                      intro mm
                      induction mm with
                      | zero =>
                        intro x ev fr dv sv lk1 su1 jd1 wy1 h2375 hmm hx he bfr hp f2376 f2377 f2378 f2379 f2380 f2381 f2382 f2383 f2384 f2385 f2386 f2387 f2388 f2389 f2390 k2391
                        exact absurd hmm (Nat.not_lt_zero _)
                      | succ mm ih2392 =>
                        intro x ev fr dv sv lk1 su1 jd1 wy1 h2375 hmm hx he bfr hp f2376 f2377 f2378 f2379 f2380 f2381 f2382 f2383 f2384 f2385 f2386 f2387 f2388 f2389 f2390 k2391
                        rcases hx with rfl | rfl | rfl
                        · refine aw_lv [(11, .int 0), (10, .int ev), (9, .int (nI fr)), (8, .int dv), (7, .int sv), (4, .int v), (3, .int (nI y0)), (0, .ref (G.1 + 88))] [0, 1, 2, 3, 4, 5, 6, 7] rfl ?_
                          refine aw_iload 0 dX9_chain_170 rfl ?_
                          refine aw_if_le 274 dX9_chain_172 (by decide) (fun c172 => ?_) (fun c172 => absurd (by decide) c172)
                          refine aw_iload 5 dX9_chain_274 rfl ?_
                          refine aw_if_ne 284 dX9_chain_276 (by decide) (fun c276 => ?_) (fun c276 => ?_)
                          · have d276 := mt (j_eq (a := v.toInt) (b := (0)) (rfl) (rfl)).mpr c276
                            refine aw_iload 5 dX9_chain_284 rfl ?_
                            refine aw_iconst (1) dX9_chain_286 (by decide) ?_
                            refine aw_icmp_ne 295 dX9_chain_287 (by decide) (fun c287 => ?_) (fun c287 => ?_)
                            · have d287 := mt (j_eq (a := v.toInt) (b := (1)) (rfl) (rfl)).mpr c287
                              refine aw_iload 3 dX9_chain_295 rfl ?_
                              subst hQF
                              exact aw_iret rfl dX9_chain_297 (by decide) (by decide) ⟨_, rfl, _, _, _, _, _, f2387, f2388, f2389, f2390, f2377, k2391, hp, trivial⟩
                            · have d287 := (j_eq (a := v.toInt) (b := (1)) (rfl) (rfl)).mp c287
                              refine aw_iload 4 dX9_chain_290 rfl ?_
                              refine aw_goto 297 dX9_chain_292 (by decide) ?_
                              subst hQF
                              exact aw_iret rfl dX9_chain_297 (by decide) (by decide) ⟨_, rfl, _, _, _, _, _, f2387, f2388, f2389, f2390, f2377, k2391, hp, trivial⟩
                          · have d276 := (j_eq (a := v.toInt) (b := (0)) (rfl) (rfl)).mp c276
                            refine aw_iload 1 dX9_chain_279 rfl ?_
                            refine aw_goto 297 dX9_chain_281 (by decide) ?_
                            subst hQF
                            exact aw_iret rfl dX9_chain_297 (by decide) (by decide) ⟨_, rfl, _, _, _, _, _, f2387, f2388, f2389, f2390, f2377, k2391, hp, trivial⟩
                        · refine aw_lv [(11, .int 1), (10, .int ev), (9, .int (nI fr)), (8, .int dv), (7, .int sv), (4, .int v), (3, .int (nI y0)), (0, .ref (G.1 + 88))] [0, 1, 2, 3, 4, 5, 6, 7] rfl ?_
                          refine aw_iload 0 dX9_chain_170 rfl ?_
                          refine aw_if_le 274 dX9_chain_172 (by decide) (fun c172 => absurd c172 (by decide)) (fun c172 => ?_)
                          refine aw_iload 1 dX9_chain_175 rfl ?_
                          refine aw_if_lt 274 dX9_chain_177 (by decide) (fun c177 => ?_) (fun c177 => ?_)
                          · have d177 := (j_lt (a := ev.toInt) (b := (0)) (rfl) (rfl)).mp c177
                            refine aw_iload 5 dX9_chain_274 rfl ?_
                            refine aw_if_ne 284 dX9_chain_276 (by decide) (fun c276 => ?_) (fun c276 => ?_)
                            · have d276 := mt (j_eq (a := v.toInt) (b := (0)) (rfl) (rfl)).mpr c276
                              refine aw_iload 5 dX9_chain_284 rfl ?_
                              refine aw_iconst (1) dX9_chain_286 (by decide) ?_
                              refine aw_icmp_ne 295 dX9_chain_287 (by decide) (fun c287 => ?_) (fun c287 => ?_)
                              · have d287 := mt (j_eq (a := v.toInt) (b := (1)) (rfl) (rfl)).mpr c287
                                refine aw_iload 3 dX9_chain_295 rfl ?_
                                subst hQF
                                exact aw_iret rfl dX9_chain_297 (by decide) (by decide) ⟨_, rfl, _, _, _, _, _, f2387, f2388, f2389, f2390, f2377, k2391, hp, trivial⟩
                              · have d287 := (j_eq (a := v.toInt) (b := (1)) (rfl) (rfl)).mp c287
                                refine aw_iload 4 dX9_chain_290 rfl ?_
                                refine aw_goto 297 dX9_chain_292 (by decide) ?_
                                subst hQF
                                exact aw_iret rfl dX9_chain_297 (by decide) (by decide) ⟨_, rfl, _, _, _, _, _, f2387, f2388, f2389, f2390, f2377, k2391, hp, trivial⟩
                            · have d276 := (j_eq (a := v.toInt) (b := (0)) (rfl) (rfl)).mp c276
                              refine aw_iload 1 dX9_chain_279 rfl ?_
                              refine aw_goto 297 dX9_chain_281 (by decide) ?_
                              subst hQF
                              exact aw_iret rfl dX9_chain_297 (by decide) (by decide) ⟨_, rfl, _, _, _, _, _, f2387, f2388, f2389, f2390, f2377, k2391, hp, trivial⟩
                          · have d177 := mt (j_lt (a := ev.toInt) (b := (0)) (rfl) (rfl)).mpr c177
                            obtain ⟨q, bq, rfl⟩ := he.resolve_left (fun e => by rw [e] at d177; exact d177 (by decide))
                            refine aw_iload_n 6 dX9_chain_180 rfl rfl ?_
                            refine aw_iload 0 dX9_chain_181 rfl ?_
                            refine aw_idiv dX9_chain_183 (by decide) ?_
                            refine aw_toe (nI (y0 / 1)) (nv_div (rfl) (rfl) (by omega) (by decide) (by decide)) ?_
                            refine aw_bipush (10) dX9_chain_184 (by decide) ?_
                            refine aw_irem dX9_chain_186 (by decide) ?_
                            refine aw_toe (nI ((y0 / 1) % 10)) (nv_rem (rfl) (rfl) (by omega) (by decide) (by decide)) ?_
                            refine aw_iconst (1) dX9_chain_187 (by decide) ?_
                            refine aw_isub dX9_chain_188 ?_
                            refine aw_toe (nI (((y0 / 1) % 10) - 1)) (nv_sub (rfl) (rfl) (by omega)) ?_
                            refine aw_istore [(12, .int (nI (((y0 / 1) % 10) - 1))), (11, .int 1), (10, .int (nI q)), (9, .int (nI fr)), (8, .int dv), (7, .int sv), (4, .int v), (3, .int (nI y0)), (0, .ref (G.1 + 88))] dX9_chain_189 (by decide) rfl ?_
                            refine aw_aload_n 8 dX9_chain_191 rfl rfl ?_
                            refine aw_iload 3 dX9_chain_192 rfl ?_
                            refine aw_iload 2 dX9_chain_194 rfl ?_
                            refine aw_iload 0 dX9_chain_196 rfl ?_
                            refine aw_uV [.int (nI fr), .int (nI q), .int (nI (((y0 / 1) % 10) - 1))] [] lX9_190 vX9_isSure mX9_isSure dX9_chain_198 (bX9_isSure (sp := sp) (fa := fa) (nb := nb) (ns := ns) (nm := nm) (nv := nv) (sh := sh) (ho := ho) (ow := ow) (sl := sl) (m := m) (ye := ye) (b1 := b1) (b2 := b2) (W := W) (Z := Z) (Ro := Ro) (Co := Co) (fi := fi) (lk := lk1) (su := su1) (jd := jd1) (wy := wy1) (a := fr) (b := ((y0 / 1) % 10) - 1) (i := q) f2376 f2378 f2379 f2380 f2381 f2382 f2383 f2384 f2385 f2386 f2387 f2388 f2389 f2390 hm hye (by omega) bb1 bb2 (by omega) (by omega) hfi (by omega) (by omega) (by omega) (by omega)) f2376 rfl rfl rfl (Nat.le_of_ble_eq_true rfl) (by decide) (by decide) rfl (fun r2398 h2399 q2397 => ?_)
                            obtain ⟨lk12393, su12394, jd12395, wy12396, f2400, f2401, f2402, f2403, k2404, p2405, u2406⟩ := q2397
                            have f2407 := rng_at k2404 (by decide) f2376
                            have f2408 := rng_at k2404 (by decide) f2377
                            have f2409 := rng_at k2404 (by decide) f2378
                            have f2410 := rng_at k2404 (by decide) f2379
                            have f2411 := rng_at k2404 (by decide) f2380
                            have f2412 := rng_at k2404 (by decide) f2381
                            have f2413 := rng_at k2404 (by decide) f2382
                            have f2414 := rng_at k2404 (by decide) f2383
                            have f2415 := rng_at k2404 (by decide) f2384
                            have f2416 := rng_at k2404 (by decide) f2385
                            have f2417 := rng_at k2404 (by decide) f2386
                            refine aw_istore [(13, .int r2398), (12, .int (nI (((y0 / 1) % 10) - 1))), (11, .int 1), (10, .int (nI q)), (9, .int (nI fr)), (8, .int dv), (7, .int sv), (4, .int v), (3, .int (nI y0)), (0, .ref (G.1 + 88))] dX9_chain_201 (by decide) rfl ?_
                            refine aw_aload_n 9 dX9_chain_203 rfl rfl ?_
                            refine aw_get fX9_53 dX9_chain_204 f2407 rfl ?_
                            refine aw_iload 3 dX9_chain_207 rfl ?_
                            refine aw_iald q (rfl) (by omega) (by decide) dX9_chain_209 f2402 ?_
                            refine aw_istore [(14, .int (jd12395 q)), (13, .int r2398), (12, .int (nI (((y0 / 1) % 10) - 1))), (11, .int 1), (10, .int (nI q)), (9, .int (nI fr)), (8, .int dv), (7, .int sv), (4, .int v), (3, .int (nI y0)), (0, .ref (G.1 + 88))] dX9_chain_210 (by decide) rfl ?_
                            refine aw_iload 0 dX9_chain_212 rfl ?_
                            refine aw_if_lt 256 dX9_chain_214 (by decide) (fun c214 => ?_) (fun c214 => ?_)
                            · have d214 := (j_lt (a := (jd12395 q).toInt) (b := (0)) (rfl) (rfl)).mp c214
                              refine aw_iload 0 dX9_chain_256 rfl ?_
                              refine aw_istore [(10, .int (jd12395 q)), (14, .int (jd12395 q)), (13, .int r2398), (12, .int (nI (((y0 / 1) % 10) - 1))), (11, .int 1), (9, .int (nI fr)), (8, .int dv), (7, .int sv), (4, .int v), (3, .int (nI y0)), (0, .ref (G.1 + 88))] dX9_chain_258 (by decide) rfl ?_
                              refine aw_iload 3 dX9_chain_260 rfl ?_
                              refine aw_istore [(9, .int (nI (((y0 / 1) % 10) - 1))), (10, .int (jd12395 q)), (14, .int (jd12395 q)), (13, .int r2398), (12, .int (nI (((y0 / 1) % 10) - 1))), (11, .int 1), (8, .int dv), (7, .int sv), (4, .int v), (3, .int (nI y0)), (0, .ref (G.1 + 88))] dX9_chain_262 (by decide) rfl ?_
                              refine aw_iload 5 dX9_chain_264 rfl ?_
                              refine aw_bipush (10) dX9_chain_266 (by decide) ?_
                              refine aw_idiv dX9_chain_268 (by decide) ?_
                              refine aw_toe 0 (by decide) ?_
                              refine aw_istore [(11, .int 0), (9, .int (nI (((y0 / 1) % 10) - 1))), (10, .int (jd12395 q)), (14, .int (jd12395 q)), (13, .int r2398), (12, .int (nI (((y0 / 1) % 10) - 1))), (8, .int dv), (7, .int sv), (4, .int v), (3, .int (nI y0)), (0, .ref (G.1 + 88))] dX9_chain_269 (by decide) rfl ?_
                              refine aw_goto 170 dX9_chain_271 (by decide) ?_
                              refine aw_lv [(11, .int 0), (10, .int (jd12395 q)), (9, .int (nI (((y0 / 1) % 10) - 1))), (8, .int dv), (7, .int sv), (4, .int v), (3, .int (nI y0)), (0, .ref (G.1 + 88))] [0, 2, 1, 6, 7, 8, 9, 10] rfl ?_
                              exact ih2392 0 (jd12395 q) (((y0 / 1) % 10) - 1) dv sv lk12393 su12394 jd12395 wy12396 _ (by omega) (by decide) (p2405 q bq) (by omega) (p2405) f2407 f2408 f2409 f2410 f2411 f2412 f2413 f2414 f2415 f2416 f2417 f2400 f2401 f2402 f2403 (rg2_tr (k2391) (rg2_w k2404 (by decide)))
                            · have d214 := mt (j_lt (a := (jd12395 q).toInt) (b := (0)) (rfl) (rfl)).mpr c214
                              obtain ⟨q2, bq2, eq2⟩ := pB_g p2405 (show q < 10 by omega) d214
                              rw [eq2]
                              refine aw_iinc (j := 7) (sv + 1) [(7, .int (sv + 1)), (14, .int (nI q2)), (13, .int r2398), (12, .int (nI (((y0 / 1) % 10) - 1))), (11, .int 1), (10, .int (nI q)), (9, .int (nI fr)), (8, .int dv), (4, .int v), (3, .int (nI y0)), (0, .ref (G.1 + 88))] dX9_chain_217 rfl (by rfl) (by decide) rfl ?_
                              refine aw_iload 7 dX9_chain_220 rfl ?_
                              refine aw_iconst (0) dX9_chain_222 (by decide) ?_
                              refine aw_bipush (100) dX9_chain_223 (by decide) ?_
                              refine aw_aload_n 10 dX9_chain_225 rfl rfl ?_
                              refine aw_iload 6 dX9_chain_226 rfl ?_
                              refine aw_iload 5 dX9_chain_228 rfl ?_
                              refine aw_iload 3 dX9_chain_230 rfl ?_
                              refine aw_iload 1 dX9_chain_232 rfl ?_
                              refine aw_uV [.int (nI fr), .int (nI q), .int (nI (((y0 / 1) % 10) - 1)), .int (nI q2)] [.int 100, .int 0, .int dv] lX9_166 vX9_likeOf mX9_likeOf dX9_chain_234 (bX9_likeOf (sp := sp) (fa := fa) (nb := nb) (ns := ns) (nm := nm) (nv := nv) (sh := sh) (ho := ho) (ow := ow) (sl := sl) (m := m) (ye := ye) (b1 := b1) (b2 := b2) (W := W) (Z := Z) (Ro := Ro) (Co := Co) (a := fr) (i := q) (b := ((y0 / 1) % 10) - 1) (k := q2) f2407 f2409 f2410 f2411 f2412 f2413 f2414 f2415 f2416 hm hye (by omega) bb1 bb2 (by omega) (by omega) (by omega) (by omega) (by omega) (by omega)) f2407 rfl rfl rfl (Nat.le_of_ble_eq_true rfl) (by decide) (by decide) rfl (fun r2419 h2420 q2418 => ?_)
                              obtain ⟨e2422, u2421⟩ := q2418
                              rw [e2422]
                              refine aw_isub dX9_chain_237 ?_
                              refine aw_mmax lX9_162 dX9_chain_238 (Nat.le_of_ble_eq_true rfl) (by decide) (by decide) ?_
                              refine aw_iload 2 dX9_chain_241 rfl ?_
                              refine aw_if_eq 250 dX9_chain_243 (by decide) (fun c243 => ?_) (fun c243 => ?_)
                              · have d243 := (j_eq (a := r2398.toInt) (b := (0)) (rfl) (rfl)).mp c243
                                refine aw_bipush (50) dX9_chain_250 (by decide) ?_
                                refine aw_iadd dX9_chain_252 ?_
                                refine aw_iadd dX9_chain_253 ?_
                                refine aw_istore [(8, .int (dv + ((if 0 < (100 - r2419) then (100 - r2419) else 0) + 50))), (7, .int (sv + 1)), (14, .int (nI q2)), (13, .int r2398), (12, .int (nI (((y0 / 1) % 10) - 1))), (11, .int 1), (10, .int (nI q)), (9, .int (nI fr)), (4, .int v), (3, .int (nI y0)), (0, .ref (G.1 + 88))] dX9_chain_254 (by decide) rfl ?_
                                refine aw_iload 2 dX9_chain_256 rfl ?_
                                refine aw_istore [(10, .int (nI q2)), (8, .int (dv + ((if 0 < (100 - r2419) then (100 - r2419) else 0) + 50))), (7, .int (sv + 1)), (14, .int (nI q2)), (13, .int r2398), (12, .int (nI (((y0 / 1) % 10) - 1))), (11, .int 1), (9, .int (nI fr)), (4, .int v), (3, .int (nI y0)), (0, .ref (G.1 + 88))] dX9_chain_258 (by decide) rfl ?_
                                refine aw_iload 5 dX9_chain_260 rfl ?_
                                refine aw_istore [(9, .int (nI (((y0 / 1) % 10) - 1))), (10, .int (nI q2)), (8, .int (dv + ((if 0 < (100 - r2419) then (100 - r2419) else 0) + 50))), (7, .int (sv + 1)), (14, .int (nI q2)), (13, .int r2398), (12, .int (nI (((y0 / 1) % 10) - 1))), (11, .int 1), (4, .int v), (3, .int (nI y0)), (0, .ref (G.1 + 88))] dX9_chain_262 (by decide) rfl ?_
                                refine aw_iload 7 dX9_chain_264 rfl ?_
                                refine aw_bipush (10) dX9_chain_266 (by decide) ?_
                                refine aw_idiv dX9_chain_268 (by decide) ?_
                                refine aw_toe 0 (by decide) ?_
                                refine aw_istore [(11, .int 0), (9, .int (nI (((y0 / 1) % 10) - 1))), (10, .int (nI q2)), (8, .int (dv + ((if 0 < (100 - r2419) then (100 - r2419) else 0) + 50))), (7, .int (sv + 1)), (14, .int (nI q2)), (13, .int r2398), (12, .int (nI (((y0 / 1) % 10) - 1))), (4, .int v), (3, .int (nI y0)), (0, .ref (G.1 + 88))] dX9_chain_269 (by decide) rfl ?_
                                refine aw_goto 170 dX9_chain_271 (by decide) ?_
                                refine aw_lv [(11, .int 0), (10, .int (nI q2)), (9, .int (nI (((y0 / 1) % 10) - 1))), (8, .int (dv + ((if 0 < (100 - r2419) then (100 - r2419) else 0) + 50))), (7, .int (sv + 1)), (4, .int v), (3, .int (nI y0)), (0, .ref (G.1 + 88))] [0, 2, 1, 3, 4, 8, 9, 10] rfl ?_
                                exact ih2392 0 (nI q2) (((y0 / 1) % 10) - 1) (dv + ((if 0 < (100 - r2419) then (100 - r2419) else 0) + 50)) (sv + 1) lk12393 su12394 jd12395 wy12396 _ (by omega) (by decide) (Or.inr ⟨_, bq2, rfl⟩) (by omega) (p2405) f2407 f2408 f2409 f2410 f2411 f2412 f2413 f2414 f2415 f2416 f2417 f2400 f2401 f2402 f2403 (rg2_tr (k2391) (rg2_w k2404 (by decide)))
                              · have d243 := mt (j_eq (a := r2398.toInt) (b := (0)) (rfl) (rfl)).mpr c243
                                refine aw_iconst (0) dX9_chain_246 (by decide) ?_
                                refine aw_goto 252 dX9_chain_247 (by decide) ?_
                                refine aw_iadd dX9_chain_252 ?_
                                refine aw_iadd dX9_chain_253 ?_
                                refine aw_istore [(8, .int (dv + ((if 0 < (100 - r2419) then (100 - r2419) else 0) + 0))), (7, .int (sv + 1)), (14, .int (nI q2)), (13, .int r2398), (12, .int (nI (((y0 / 1) % 10) - 1))), (11, .int 1), (10, .int (nI q)), (9, .int (nI fr)), (4, .int v), (3, .int (nI y0)), (0, .ref (G.1 + 88))] dX9_chain_254 (by decide) rfl ?_
                                refine aw_iload 2 dX9_chain_256 rfl ?_
                                refine aw_istore [(10, .int (nI q2)), (8, .int (dv + ((if 0 < (100 - r2419) then (100 - r2419) else 0) + 0))), (7, .int (sv + 1)), (14, .int (nI q2)), (13, .int r2398), (12, .int (nI (((y0 / 1) % 10) - 1))), (11, .int 1), (9, .int (nI fr)), (4, .int v), (3, .int (nI y0)), (0, .ref (G.1 + 88))] dX9_chain_258 (by decide) rfl ?_
                                refine aw_iload 5 dX9_chain_260 rfl ?_
                                refine aw_istore [(9, .int (nI (((y0 / 1) % 10) - 1))), (10, .int (nI q2)), (8, .int (dv + ((if 0 < (100 - r2419) then (100 - r2419) else 0) + 0))), (7, .int (sv + 1)), (14, .int (nI q2)), (13, .int r2398), (12, .int (nI (((y0 / 1) % 10) - 1))), (11, .int 1), (4, .int v), (3, .int (nI y0)), (0, .ref (G.1 + 88))] dX9_chain_262 (by decide) rfl ?_
                                refine aw_iload 7 dX9_chain_264 rfl ?_
                                refine aw_bipush (10) dX9_chain_266 (by decide) ?_
                                refine aw_idiv dX9_chain_268 (by decide) ?_
                                refine aw_toe 0 (by decide) ?_
                                refine aw_istore [(11, .int 0), (9, .int (nI (((y0 / 1) % 10) - 1))), (10, .int (nI q2)), (8, .int (dv + ((if 0 < (100 - r2419) then (100 - r2419) else 0) + 0))), (7, .int (sv + 1)), (14, .int (nI q2)), (13, .int r2398), (12, .int (nI (((y0 / 1) % 10) - 1))), (4, .int v), (3, .int (nI y0)), (0, .ref (G.1 + 88))] dX9_chain_269 (by decide) rfl ?_
                                refine aw_goto 170 dX9_chain_271 (by decide) ?_
                                refine aw_lv [(11, .int 0), (10, .int (nI q2)), (9, .int (nI (((y0 / 1) % 10) - 1))), (8, .int (dv + ((if 0 < (100 - r2419) then (100 - r2419) else 0) + 0))), (7, .int (sv + 1)), (4, .int v), (3, .int (nI y0)), (0, .ref (G.1 + 88))] [0, 2, 1, 3, 4, 8, 9, 10] rfl ?_
                                exact ih2392 0 (nI q2) (((y0 / 1) % 10) - 1) (dv + ((if 0 < (100 - r2419) then (100 - r2419) else 0) + 0)) (sv + 1) lk12393 su12394 jd12395 wy12396 _ (by omega) (by decide) (Or.inr ⟨_, bq2, rfl⟩) (by omega) (p2405) f2407 f2408 f2409 f2410 f2411 f2412 f2413 f2414 f2415 f2416 f2417 f2400 f2401 f2402 f2403 (rg2_tr (k2391) (rg2_w k2404 (by decide)))
                        · refine aw_lv [(11, .int 10), (10, .int ev), (9, .int (nI fr)), (8, .int dv), (7, .int sv), (4, .int v), (3, .int (nI y0)), (0, .ref (G.1 + 88))] [0, 1, 2, 3, 4, 5, 6, 7] rfl ?_
                          refine aw_iload 0 dX9_chain_170 rfl ?_
                          refine aw_if_le 274 dX9_chain_172 (by decide) (fun c172 => absurd c172 (by decide)) (fun c172 => ?_)
                          refine aw_iload 1 dX9_chain_175 rfl ?_
                          refine aw_if_lt 274 dX9_chain_177 (by decide) (fun c177 => ?_) (fun c177 => ?_)
                          · have d177 := (j_lt (a := ev.toInt) (b := (0)) (rfl) (rfl)).mp c177
                            refine aw_iload 5 dX9_chain_274 rfl ?_
                            refine aw_if_ne 284 dX9_chain_276 (by decide) (fun c276 => ?_) (fun c276 => ?_)
                            · have d276 := mt (j_eq (a := v.toInt) (b := (0)) (rfl) (rfl)).mpr c276
                              refine aw_iload 5 dX9_chain_284 rfl ?_
                              refine aw_iconst (1) dX9_chain_286 (by decide) ?_
                              refine aw_icmp_ne 295 dX9_chain_287 (by decide) (fun c287 => ?_) (fun c287 => ?_)
                              · have d287 := mt (j_eq (a := v.toInt) (b := (1)) (rfl) (rfl)).mpr c287
                                refine aw_iload 3 dX9_chain_295 rfl ?_
                                subst hQF
                                exact aw_iret rfl dX9_chain_297 (by decide) (by decide) ⟨_, rfl, _, _, _, _, _, f2387, f2388, f2389, f2390, f2377, k2391, hp, trivial⟩
                              · have d287 := (j_eq (a := v.toInt) (b := (1)) (rfl) (rfl)).mp c287
                                refine aw_iload 4 dX9_chain_290 rfl ?_
                                refine aw_goto 297 dX9_chain_292 (by decide) ?_
                                subst hQF
                                exact aw_iret rfl dX9_chain_297 (by decide) (by decide) ⟨_, rfl, _, _, _, _, _, f2387, f2388, f2389, f2390, f2377, k2391, hp, trivial⟩
                            · have d276 := (j_eq (a := v.toInt) (b := (0)) (rfl) (rfl)).mp c276
                              refine aw_iload 1 dX9_chain_279 rfl ?_
                              refine aw_goto 297 dX9_chain_281 (by decide) ?_
                              subst hQF
                              exact aw_iret rfl dX9_chain_297 (by decide) (by decide) ⟨_, rfl, _, _, _, _, _, f2387, f2388, f2389, f2390, f2377, k2391, hp, trivial⟩
                          · have d177 := mt (j_lt (a := ev.toInt) (b := (0)) (rfl) (rfl)).mpr c177
                            obtain ⟨q, bq, rfl⟩ := he.resolve_left (fun e => by rw [e] at d177; exact d177 (by decide))
                            refine aw_iload_n 6 dX9_chain_180 rfl rfl ?_
                            refine aw_iload 0 dX9_chain_181 rfl ?_
                            refine aw_idiv dX9_chain_183 (by decide) ?_
                            refine aw_toe (nI (y0 / 10)) (nv_div (rfl) (rfl) (by omega) (by decide) (by decide)) ?_
                            refine aw_bipush (10) dX9_chain_184 (by decide) ?_
                            refine aw_irem dX9_chain_186 (by decide) ?_
                            refine aw_toe (nI ((y0 / 10) % 10)) (nv_rem (rfl) (rfl) (by omega) (by decide) (by decide)) ?_
                            refine aw_iconst (1) dX9_chain_187 (by decide) ?_
                            refine aw_isub dX9_chain_188 ?_
                            refine aw_toe (nI (((y0 / 10) % 10) - 1)) (nv_sub (rfl) (rfl) (by omega)) ?_
                            refine aw_istore [(12, .int (nI (((y0 / 10) % 10) - 1))), (11, .int 10), (10, .int (nI q)), (9, .int (nI fr)), (8, .int dv), (7, .int sv), (4, .int v), (3, .int (nI y0)), (0, .ref (G.1 + 88))] dX9_chain_189 (by decide) rfl ?_
                            refine aw_aload_n 8 dX9_chain_191 rfl rfl ?_
                            refine aw_iload 3 dX9_chain_192 rfl ?_
                            refine aw_iload 2 dX9_chain_194 rfl ?_
                            refine aw_iload 0 dX9_chain_196 rfl ?_
                            refine aw_uV [.int (nI fr), .int (nI q), .int (nI (((y0 / 10) % 10) - 1))] [] lX9_190 vX9_isSure mX9_isSure dX9_chain_198 (bX9_isSure (sp := sp) (fa := fa) (nb := nb) (ns := ns) (nm := nm) (nv := nv) (sh := sh) (ho := ho) (ow := ow) (sl := sl) (m := m) (ye := ye) (b1 := b1) (b2 := b2) (W := W) (Z := Z) (Ro := Ro) (Co := Co) (fi := fi) (lk := lk1) (su := su1) (jd := jd1) (wy := wy1) (a := fr) (b := ((y0 / 10) % 10) - 1) (i := q) f2376 f2378 f2379 f2380 f2381 f2382 f2383 f2384 f2385 f2386 f2387 f2388 f2389 f2390 hm hye (by omega) bb1 bb2 (by omega) (by omega) hfi (by omega) (by omega) (by omega) (by omega)) f2376 rfl rfl rfl (Nat.le_of_ble_eq_true rfl) (by decide) (by decide) rfl (fun r2428 h2429 q2427 => ?_)
                            obtain ⟨lk12423, su12424, jd12425, wy12426, f2430, f2431, f2432, f2433, k2434, p2435, u2436⟩ := q2427
                            have f2437 := rng_at k2434 (by decide) f2376
                            have f2438 := rng_at k2434 (by decide) f2377
                            have f2439 := rng_at k2434 (by decide) f2378
                            have f2440 := rng_at k2434 (by decide) f2379
                            have f2441 := rng_at k2434 (by decide) f2380
                            have f2442 := rng_at k2434 (by decide) f2381
                            have f2443 := rng_at k2434 (by decide) f2382
                            have f2444 := rng_at k2434 (by decide) f2383
                            have f2445 := rng_at k2434 (by decide) f2384
                            have f2446 := rng_at k2434 (by decide) f2385
                            have f2447 := rng_at k2434 (by decide) f2386
                            refine aw_istore [(13, .int r2428), (12, .int (nI (((y0 / 10) % 10) - 1))), (11, .int 10), (10, .int (nI q)), (9, .int (nI fr)), (8, .int dv), (7, .int sv), (4, .int v), (3, .int (nI y0)), (0, .ref (G.1 + 88))] dX9_chain_201 (by decide) rfl ?_
                            refine aw_aload_n 9 dX9_chain_203 rfl rfl ?_
                            refine aw_get fX9_53 dX9_chain_204 f2437 rfl ?_
                            refine aw_iload 3 dX9_chain_207 rfl ?_
                            refine aw_iald q (rfl) (by omega) (by decide) dX9_chain_209 f2432 ?_
                            refine aw_istore [(14, .int (jd12425 q)), (13, .int r2428), (12, .int (nI (((y0 / 10) % 10) - 1))), (11, .int 10), (10, .int (nI q)), (9, .int (nI fr)), (8, .int dv), (7, .int sv), (4, .int v), (3, .int (nI y0)), (0, .ref (G.1 + 88))] dX9_chain_210 (by decide) rfl ?_
                            refine aw_iload 0 dX9_chain_212 rfl ?_
                            refine aw_if_lt 256 dX9_chain_214 (by decide) (fun c214 => ?_) (fun c214 => ?_)
                            · have d214 := (j_lt (a := (jd12425 q).toInt) (b := (0)) (rfl) (rfl)).mp c214
                              refine aw_iload 0 dX9_chain_256 rfl ?_
                              refine aw_istore [(10, .int (jd12425 q)), (14, .int (jd12425 q)), (13, .int r2428), (12, .int (nI (((y0 / 10) % 10) - 1))), (11, .int 10), (9, .int (nI fr)), (8, .int dv), (7, .int sv), (4, .int v), (3, .int (nI y0)), (0, .ref (G.1 + 88))] dX9_chain_258 (by decide) rfl ?_
                              refine aw_iload 3 dX9_chain_260 rfl ?_
                              refine aw_istore [(9, .int (nI (((y0 / 10) % 10) - 1))), (10, .int (jd12425 q)), (14, .int (jd12425 q)), (13, .int r2428), (12, .int (nI (((y0 / 10) % 10) - 1))), (11, .int 10), (8, .int dv), (7, .int sv), (4, .int v), (3, .int (nI y0)), (0, .ref (G.1 + 88))] dX9_chain_262 (by decide) rfl ?_
                              refine aw_iload 5 dX9_chain_264 rfl ?_
                              refine aw_bipush (10) dX9_chain_266 (by decide) ?_
                              refine aw_idiv dX9_chain_268 (by decide) ?_
                              refine aw_toe 1 (by decide) ?_
                              refine aw_istore [(11, .int 1), (9, .int (nI (((y0 / 10) % 10) - 1))), (10, .int (jd12425 q)), (14, .int (jd12425 q)), (13, .int r2428), (12, .int (nI (((y0 / 10) % 10) - 1))), (8, .int dv), (7, .int sv), (4, .int v), (3, .int (nI y0)), (0, .ref (G.1 + 88))] dX9_chain_269 (by decide) rfl ?_
                              refine aw_goto 170 dX9_chain_271 (by decide) ?_
                              refine aw_lv [(11, .int 1), (10, .int (jd12425 q)), (9, .int (nI (((y0 / 10) % 10) - 1))), (8, .int dv), (7, .int sv), (4, .int v), (3, .int (nI y0)), (0, .ref (G.1 + 88))] [0, 2, 1, 6, 7, 8, 9, 10] rfl ?_
                              exact ih2392 1 (jd12425 q) (((y0 / 10) % 10) - 1) dv sv lk12423 su12424 jd12425 wy12426 _ (by omega) (by decide) (p2435 q bq) (by omega) (p2435) f2437 f2438 f2439 f2440 f2441 f2442 f2443 f2444 f2445 f2446 f2447 f2430 f2431 f2432 f2433 (rg2_tr (k2391) (rg2_w k2434 (by decide)))
                            · have d214 := mt (j_lt (a := (jd12425 q).toInt) (b := (0)) (rfl) (rfl)).mpr c214
                              obtain ⟨q2, bq2, eq2⟩ := pB_g p2435 (show q < 10 by omega) d214
                              rw [eq2]
                              refine aw_iinc (j := 7) (sv + 1) [(7, .int (sv + 1)), (14, .int (nI q2)), (13, .int r2428), (12, .int (nI (((y0 / 10) % 10) - 1))), (11, .int 10), (10, .int (nI q)), (9, .int (nI fr)), (8, .int dv), (4, .int v), (3, .int (nI y0)), (0, .ref (G.1 + 88))] dX9_chain_217 rfl (by rfl) (by decide) rfl ?_
                              refine aw_iload 7 dX9_chain_220 rfl ?_
                              refine aw_iconst (0) dX9_chain_222 (by decide) ?_
                              refine aw_bipush (100) dX9_chain_223 (by decide) ?_
                              refine aw_aload_n 10 dX9_chain_225 rfl rfl ?_
                              refine aw_iload 6 dX9_chain_226 rfl ?_
                              refine aw_iload 5 dX9_chain_228 rfl ?_
                              refine aw_iload 3 dX9_chain_230 rfl ?_
                              refine aw_iload 1 dX9_chain_232 rfl ?_
                              refine aw_uV [.int (nI fr), .int (nI q), .int (nI (((y0 / 10) % 10) - 1)), .int (nI q2)] [.int 100, .int 0, .int dv] lX9_166 vX9_likeOf mX9_likeOf dX9_chain_234 (bX9_likeOf (sp := sp) (fa := fa) (nb := nb) (ns := ns) (nm := nm) (nv := nv) (sh := sh) (ho := ho) (ow := ow) (sl := sl) (m := m) (ye := ye) (b1 := b1) (b2 := b2) (W := W) (Z := Z) (Ro := Ro) (Co := Co) (a := fr) (i := q) (b := ((y0 / 10) % 10) - 1) (k := q2) f2437 f2439 f2440 f2441 f2442 f2443 f2444 f2445 f2446 hm hye (by omega) bb1 bb2 (by omega) (by omega) (by omega) (by omega) (by omega) (by omega)) f2437 rfl rfl rfl (Nat.le_of_ble_eq_true rfl) (by decide) (by decide) rfl (fun r2449 h2450 q2448 => ?_)
                              obtain ⟨e2452, u2451⟩ := q2448
                              rw [e2452]
                              refine aw_isub dX9_chain_237 ?_
                              refine aw_mmax lX9_162 dX9_chain_238 (Nat.le_of_ble_eq_true rfl) (by decide) (by decide) ?_
                              refine aw_iload 2 dX9_chain_241 rfl ?_
                              refine aw_if_eq 250 dX9_chain_243 (by decide) (fun c243 => ?_) (fun c243 => ?_)
                              · have d243 := (j_eq (a := r2428.toInt) (b := (0)) (rfl) (rfl)).mp c243
                                refine aw_bipush (50) dX9_chain_250 (by decide) ?_
                                refine aw_iadd dX9_chain_252 ?_
                                refine aw_iadd dX9_chain_253 ?_
                                refine aw_istore [(8, .int (dv + ((if 0 < (100 - r2449) then (100 - r2449) else 0) + 50))), (7, .int (sv + 1)), (14, .int (nI q2)), (13, .int r2428), (12, .int (nI (((y0 / 10) % 10) - 1))), (11, .int 10), (10, .int (nI q)), (9, .int (nI fr)), (4, .int v), (3, .int (nI y0)), (0, .ref (G.1 + 88))] dX9_chain_254 (by decide) rfl ?_
                                refine aw_iload 2 dX9_chain_256 rfl ?_
                                refine aw_istore [(10, .int (nI q2)), (8, .int (dv + ((if 0 < (100 - r2449) then (100 - r2449) else 0) + 50))), (7, .int (sv + 1)), (14, .int (nI q2)), (13, .int r2428), (12, .int (nI (((y0 / 10) % 10) - 1))), (11, .int 10), (9, .int (nI fr)), (4, .int v), (3, .int (nI y0)), (0, .ref (G.1 + 88))] dX9_chain_258 (by decide) rfl ?_
                                refine aw_iload 5 dX9_chain_260 rfl ?_
                                refine aw_istore [(9, .int (nI (((y0 / 10) % 10) - 1))), (10, .int (nI q2)), (8, .int (dv + ((if 0 < (100 - r2449) then (100 - r2449) else 0) + 50))), (7, .int (sv + 1)), (14, .int (nI q2)), (13, .int r2428), (12, .int (nI (((y0 / 10) % 10) - 1))), (11, .int 10), (4, .int v), (3, .int (nI y0)), (0, .ref (G.1 + 88))] dX9_chain_262 (by decide) rfl ?_
                                refine aw_iload 7 dX9_chain_264 rfl ?_
                                refine aw_bipush (10) dX9_chain_266 (by decide) ?_
                                refine aw_idiv dX9_chain_268 (by decide) ?_
                                refine aw_toe 1 (by decide) ?_
                                refine aw_istore [(11, .int 1), (9, .int (nI (((y0 / 10) % 10) - 1))), (10, .int (nI q2)), (8, .int (dv + ((if 0 < (100 - r2449) then (100 - r2449) else 0) + 50))), (7, .int (sv + 1)), (14, .int (nI q2)), (13, .int r2428), (12, .int (nI (((y0 / 10) % 10) - 1))), (4, .int v), (3, .int (nI y0)), (0, .ref (G.1 + 88))] dX9_chain_269 (by decide) rfl ?_
                                refine aw_goto 170 dX9_chain_271 (by decide) ?_
                                refine aw_lv [(11, .int 1), (10, .int (nI q2)), (9, .int (nI (((y0 / 10) % 10) - 1))), (8, .int (dv + ((if 0 < (100 - r2449) then (100 - r2449) else 0) + 50))), (7, .int (sv + 1)), (4, .int v), (3, .int (nI y0)), (0, .ref (G.1 + 88))] [0, 2, 1, 3, 4, 8, 9, 10] rfl ?_
                                exact ih2392 1 (nI q2) (((y0 / 10) % 10) - 1) (dv + ((if 0 < (100 - r2449) then (100 - r2449) else 0) + 50)) (sv + 1) lk12423 su12424 jd12425 wy12426 _ (by omega) (by decide) (Or.inr ⟨_, bq2, rfl⟩) (by omega) (p2435) f2437 f2438 f2439 f2440 f2441 f2442 f2443 f2444 f2445 f2446 f2447 f2430 f2431 f2432 f2433 (rg2_tr (k2391) (rg2_w k2434 (by decide)))
                              · have d243 := mt (j_eq (a := r2428.toInt) (b := (0)) (rfl) (rfl)).mpr c243
                                refine aw_iconst (0) dX9_chain_246 (by decide) ?_
                                refine aw_goto 252 dX9_chain_247 (by decide) ?_
                                refine aw_iadd dX9_chain_252 ?_
                                refine aw_iadd dX9_chain_253 ?_
                                refine aw_istore [(8, .int (dv + ((if 0 < (100 - r2449) then (100 - r2449) else 0) + 0))), (7, .int (sv + 1)), (14, .int (nI q2)), (13, .int r2428), (12, .int (nI (((y0 / 10) % 10) - 1))), (11, .int 10), (10, .int (nI q)), (9, .int (nI fr)), (4, .int v), (3, .int (nI y0)), (0, .ref (G.1 + 88))] dX9_chain_254 (by decide) rfl ?_
                                refine aw_iload 2 dX9_chain_256 rfl ?_
                                refine aw_istore [(10, .int (nI q2)), (8, .int (dv + ((if 0 < (100 - r2449) then (100 - r2449) else 0) + 0))), (7, .int (sv + 1)), (14, .int (nI q2)), (13, .int r2428), (12, .int (nI (((y0 / 10) % 10) - 1))), (11, .int 10), (9, .int (nI fr)), (4, .int v), (3, .int (nI y0)), (0, .ref (G.1 + 88))] dX9_chain_258 (by decide) rfl ?_
                                refine aw_iload 5 dX9_chain_260 rfl ?_
                                refine aw_istore [(9, .int (nI (((y0 / 10) % 10) - 1))), (10, .int (nI q2)), (8, .int (dv + ((if 0 < (100 - r2449) then (100 - r2449) else 0) + 0))), (7, .int (sv + 1)), (14, .int (nI q2)), (13, .int r2428), (12, .int (nI (((y0 / 10) % 10) - 1))), (11, .int 10), (4, .int v), (3, .int (nI y0)), (0, .ref (G.1 + 88))] dX9_chain_262 (by decide) rfl ?_
                                refine aw_iload 7 dX9_chain_264 rfl ?_
                                refine aw_bipush (10) dX9_chain_266 (by decide) ?_
                                refine aw_idiv dX9_chain_268 (by decide) ?_
                                refine aw_toe 1 (by decide) ?_
                                refine aw_istore [(11, .int 1), (9, .int (nI (((y0 / 10) % 10) - 1))), (10, .int (nI q2)), (8, .int (dv + ((if 0 < (100 - r2449) then (100 - r2449) else 0) + 0))), (7, .int (sv + 1)), (14, .int (nI q2)), (13, .int r2428), (12, .int (nI (((y0 / 10) % 10) - 1))), (4, .int v), (3, .int (nI y0)), (0, .ref (G.1 + 88))] dX9_chain_269 (by decide) rfl ?_
                                refine aw_goto 170 dX9_chain_271 (by decide) ?_
                                refine aw_lv [(11, .int 1), (10, .int (nI q2)), (9, .int (nI (((y0 / 10) % 10) - 1))), (8, .int (dv + ((if 0 < (100 - r2449) then (100 - r2449) else 0) + 0))), (7, .int (sv + 1)), (4, .int v), (3, .int (nI y0)), (0, .ref (G.1 + 88))] [0, 2, 1, 3, 4, 8, 9, 10] rfl ?_
                                exact ih2392 1 (nI q2) (((y0 / 10) % 10) - 1) (dv + ((if 0 < (100 - r2449) then (100 - r2449) else 0) + 0)) (sv + 1) lk12423 su12424 jd12425 wy12426 _ (by omega) (by decide) (Or.inr ⟨_, bq2, rfl⟩) (by omega) (p2435) f2437 f2438 f2439 f2440 f2441 f2442 f2443 f2444 f2445 f2446 f2447 f2430 f2431 f2432 f2433 (rg2_tr (k2391) (rg2_w k2434 (by decide)))
                    · have t123 := ite_0 c123
                      refine aw_aload_n 4 dX9_chain_126 rfl rfl ?_
                      refine aw_bipush (-2) dX9_chain_127 (by decide) ?_
                      refine aw_eV [.int (-2)] [] lX9_130 vX9_refuse mX9_refuse dX9_chain_129 (bX9_refuse (sp := sp) (fa := fa) (nb := nb) (ns := ns) (nm := nm) (nv := nv) (sh := sh) (ho := ho) (ow := ow) (sl := sl) (rg := rg) (x := (-2)) (q := 2) h88 h89 (by decide) (by decide)) h88 rfl rfl rfl (Nat.le_of_ble_eq_true rfl) (by decide) (by decide) rfl (fun h2455 q2454 => ?_)
                      obtain ⟨rg12453, f2456, k2457⟩ := q2454
                      have f2458 := rng_at k2457 (by decide) h88
                      have f2459 := rng_at k2457 (by decide) h90
                      have f2460 := rng_at k2457 (by decide) h91
                      have f2461 := rng_at k2457 (by decide) h93
                      have f2462 := rng_at k2457 (by decide) h94
                      have f2463 := rng_at k2457 (by decide) h95
                      have f2464 := rng_at k2457 (by decide) h96
                      have f2465 := rng_at k2457 (by decide) h97
                      have f2466 := rng_at k2457 (by decide) h98
                      have f2467 := rng_at k2457 (by decide) h92
                      have f2468 := rng_at k2457 (by decide) h99
                      have f2469 := rng_at k2457 (by decide) h100
                      have f2470 := rng_at k2457 (by decide) h101
                      have f2471 := rng_at k2457 (by decide) h102
                      subst hQF
                      exact aw_iret rfl dX9_chain_132 (by decide) (by decide) ⟨_, rfl, _, _, _, _, _, f2468, f2469, f2470, f2471, f2456, rg2_tr (rg2_rf 89 89 99 102 h) (rg2_w k2457 (by decide)), hjd, trivial⟩
                  · have t89 := ite_1e c89
                    refine aw_aload_n 4 dX9_chain_92 rfl rfl ?_
                    refine aw_iconst (-1) dX9_chain_93 (by decide) ?_
                    refine aw_eV [.int (-1)] [] lX9_130 vX9_refuse mX9_refuse dX9_chain_94 (bX9_refuse (sp := sp) (fa := fa) (nb := nb) (ns := ns) (nm := nm) (nv := nv) (sh := sh) (ho := ho) (ow := ow) (sl := sl) (rg := rg) (x := (-1)) (q := 1) h88 h89 (by decide) (by decide)) h88 rfl rfl rfl (Nat.le_of_ble_eq_true rfl) (by decide) (by decide) rfl (fun h2474 q2473 => ?_)
                    obtain ⟨rg12472, f2475, k2476⟩ := q2473
                    have f2477 := rng_at k2476 (by decide) h88
                    have f2478 := rng_at k2476 (by decide) h90
                    have f2479 := rng_at k2476 (by decide) h91
                    have f2480 := rng_at k2476 (by decide) h93
                    have f2481 := rng_at k2476 (by decide) h94
                    have f2482 := rng_at k2476 (by decide) h95
                    have f2483 := rng_at k2476 (by decide) h96
                    have f2484 := rng_at k2476 (by decide) h97
                    have f2485 := rng_at k2476 (by decide) h98
                    have f2486 := rng_at k2476 (by decide) h92
                    have f2487 := rng_at k2476 (by decide) h99
                    have f2488 := rng_at k2476 (by decide) h100
                    have f2489 := rng_at k2476 (by decide) h101
                    have f2490 := rng_at k2476 (by decide) h102
                    subst hQF
                    exact aw_iret rfl dX9_chain_97 (by decide) (by decide) ⟨_, rfl, _, _, _, _, _, f2487, f2488, f2489, f2490, f2475, rg2_tr (rg2_rf 89 89 99 102 h) (rg2_w k2476 (by decide)), hjd, trivial⟩
              · have t89 := ite_1e c89
                refine aw_aload_n 4 dX9_chain_92 rfl rfl ?_
                refine aw_iconst (-1) dX9_chain_93 (by decide) ?_
                refine aw_eV [.int (-1)] [] lX9_130 vX9_refuse mX9_refuse dX9_chain_94 (bX9_refuse (sp := sp) (fa := fa) (nb := nb) (ns := ns) (nm := nm) (nv := nv) (sh := sh) (ho := ho) (ow := ow) (sl := sl) (rg := rg) (x := (-1)) (q := 1) h88 h89 (by decide) (by decide)) h88 rfl rfl rfl (Nat.le_of_ble_eq_true rfl) (by decide) (by decide) rfl (fun h2493 q2492 => ?_)
                obtain ⟨rg12491, f2494, k2495⟩ := q2492
                have f2496 := rng_at k2495 (by decide) h88
                have f2497 := rng_at k2495 (by decide) h90
                have f2498 := rng_at k2495 (by decide) h91
                have f2499 := rng_at k2495 (by decide) h93
                have f2500 := rng_at k2495 (by decide) h94
                have f2501 := rng_at k2495 (by decide) h95
                have f2502 := rng_at k2495 (by decide) h96
                have f2503 := rng_at k2495 (by decide) h97
                have f2504 := rng_at k2495 (by decide) h98
                have f2505 := rng_at k2495 (by decide) h92
                have f2506 := rng_at k2495 (by decide) h99
                have f2507 := rng_at k2495 (by decide) h100
                have f2508 := rng_at k2495 (by decide) h101
                have f2509 := rng_at k2495 (by decide) h102
                subst hQF
                exact aw_iret rfl dX9_chain_97 (by decide) (by decide) ⟨_, rfl, _, _, _, _, _, f2506, f2507, f2508, f2509, f2494, rg2_tr (rg2_rf 89 89 99 102 h) (rg2_w k2495 (by decide)), hjd, trivial⟩
        · have d35 := mt (nv_le (a := y0) (b := 99) (rfl) (rfl) (by omega) (by omega)).mpr c35
          refine aw_iconst (3) dX9_chain_38 (by decide) ?_
          refine aw_goto 53 dX9_chain_39 (by decide) ?_
          refine aw_istore [(6, .int 3), (5, .int (nI (2 ^ a0))), (0, .ref (G.1 + 88)), (1, .int (nI a0)), (2, .int (nI i0)), (3, .int (nI y0)), (4, .int v)] dX9_chain_53 (by decide) rfl ?_
          refine aw_iload_n 5 dX9_chain_55 rfl rfl ?_
          refine aw_istore [(7, .int (nI y0)), (6, .int 3), (5, .int (nI (2 ^ a0))), (0, .ref (G.1 + 88)), (1, .int (nI a0)), (2, .int (nI i0)), (3, .int (nI y0)), (4, .int v)] dX9_chain_56 (by decide) rfl ?_
          refine aw_iload 0 dX9_chain_58 rfl ?_
          refine aw_if_le 117 dX9_chain_60 (by decide) (fun c60 => absurd c60 (by simp only [i_le, (nI_toInt (n := y0) (by omega)), (show (0 : Int32).toInt = 0 from rfl)] <;> omega)) (fun c60 => ?_)
          refine aw_iload 0 dX9_chain_63 rfl ?_
          refine aw_bipush (10) dX9_chain_65 (by decide) ?_
          refine aw_irem dX9_chain_67 (by decide) ?_
          refine aw_toe (nI (y0 % 10)) (nv_rem (rfl) (rfl) (by omega) (by decide) (by decide)) ?_
          refine aw_iconst (1) dX9_chain_68 (by decide) ?_
          refine aw_isub dX9_chain_69 ?_
          refine aw_istore [(8, .int ((nI (y0 % 10)) - 1)), (7, .int (nI y0)), (6, .int 3), (5, .int (nI (2 ^ a0))), (0, .ref (G.1 + 88)), (1, .int (nI a0)), (2, .int (nI i0)), (3, .int (nI y0)), (4, .int v)] dX9_chain_70 (by decide) rfl ?_
          refine aw_iload 0 dX9_chain_72 rfl ?_
          refine aw_iconst (4) dX9_chain_74 (by decide) ?_
          refine aw_dS [.int ((nI (y0 % 10)) - 1), .int 4] [] lX9_126 sX9_isIn mX9_isIn dX9_chain_75 (bX9_isIn (x := (nI (y0 % 10)) - 1) (n := 4) (by omega)) rfl (Nat.le_of_ble_eq_true rfl) (by decide) (by decide) rfl ?_
          refine aw_if_eq 92 dX9_chain_78 (by decide) (fun c78 => ?_) (fun c78 => ?_)
          · have t78 := ite_0 c78
            refine aw_aload_n 4 dX9_chain_92 rfl rfl ?_
            refine aw_iconst (-1) dX9_chain_93 (by decide) ?_
            refine aw_eV [.int (-1)] [] lX9_130 vX9_refuse mX9_refuse dX9_chain_94 (bX9_refuse (sp := sp) (fa := fa) (nb := nb) (ns := ns) (nm := nm) (nv := nv) (sh := sh) (ho := ho) (ow := ow) (sl := sl) (rg := rg) (x := (-1)) (q := 1) h88 h89 (by decide) (by decide)) h88 rfl rfl rfl (Nat.le_of_ble_eq_true rfl) (by decide) (by decide) rfl (fun h2512 q2511 => ?_)
            obtain ⟨rg12510, f2513, k2514⟩ := q2511
            have f2515 := rng_at k2514 (by decide) h88
            have f2516 := rng_at k2514 (by decide) h90
            have f2517 := rng_at k2514 (by decide) h91
            have f2518 := rng_at k2514 (by decide) h93
            have f2519 := rng_at k2514 (by decide) h94
            have f2520 := rng_at k2514 (by decide) h95
            have f2521 := rng_at k2514 (by decide) h96
            have f2522 := rng_at k2514 (by decide) h97
            have f2523 := rng_at k2514 (by decide) h98
            have f2524 := rng_at k2514 (by decide) h92
            have f2525 := rng_at k2514 (by decide) h99
            have f2526 := rng_at k2514 (by decide) h100
            have f2527 := rng_at k2514 (by decide) h101
            have f2528 := rng_at k2514 (by decide) h102
            subst hQF
            exact aw_iret rfl dX9_chain_97 (by decide) (by decide) ⟨_, rfl, _, _, _, _, _, f2525, f2526, f2527, f2528, f2513, rg2_tr (rg2_rf 89 89 99 102 h) (rg2_w k2514 (by decide)), hjd, trivial⟩
          · have t78 := ite_1 c78
            have g0 : 1 ≤ y0 % 10 ∧ y0 % 10 ≤ 4 := by rw [dig_i (by omega)] at t78; omega
            rw [dig_e g0.1]
            refine aw_iload 3 dX9_chain_81 rfl ?_
            refine aw_iload 0 dX9_chain_83 rfl ?_
            refine aw_ishr dX9_chain_85 ?_
            refine aw_iconst (1) dX9_chain_86 (by decide) ?_
            refine aw_iand dX9_chain_87 ?_
            refine aw_toe (if (2 ^ a0).testBit (y0 % 10 - 1) = true then 1 else 0) (nv_bit (rfl) (rfl) (by omega) (by omega)) ?_
            refine aw_iconst (1) dX9_chain_88 (by decide) ?_
            refine aw_icmp_ne 98 dX9_chain_89 (by decide) (fun c89 => ?_) (fun c89 => ?_)
            · have t89 := ite_0e c89
              have w1 := or_16 (a := 2 ^ a0) (b := y0 % 10 - 1) (by omega) (by omega)
              refine aw_iload 3 dX9_chain_98 rfl ?_
              refine aw_iconst (1) dX9_chain_100 (by decide) ?_
              refine aw_iload 0 dX9_chain_101 rfl ?_
              refine aw_ishl dX9_chain_103 ?_
              refine aw_toe (nI (2 ^ (y0 % 10 - 1))) (nv_shl1 (rfl) (by omega)) ?_
              refine aw_ior dX9_chain_104 ?_
              refine aw_toe (nI ((2 ^ a0) ||| (2 ^ (y0 % 10 - 1)))) (nv_or (rfl) (rfl)) ?_
              refine aw_istore [(5, .int (nI ((2 ^ a0) ||| (2 ^ (y0 % 10 - 1))))), (8, .int (nI (y0 % 10 - 1))), (7, .int (nI y0)), (6, .int 3), (0, .ref (G.1 + 88)), (1, .int (nI a0)), (2, .int (nI i0)), (3, .int (nI y0)), (4, .int v)] dX9_chain_105 (by decide) rfl ?_
              refine aw_iload 2 dX9_chain_107 rfl ?_
              refine aw_bipush (10) dX9_chain_109 (by decide) ?_
              refine aw_idiv dX9_chain_111 (by decide) ?_
              refine aw_toe (nI (y0 / 10)) (nv_div (rfl) (rfl) (by omega) (by decide) (by decide)) ?_
              refine aw_istore [(7, .int (nI (y0 / 10))), (5, .int (nI ((2 ^ a0) ||| (2 ^ (y0 % 10 - 1))))), (8, .int (nI (y0 % 10 - 1))), (6, .int 3), (0, .ref (G.1 + 88)), (1, .int (nI a0)), (2, .int (nI i0)), (3, .int (nI y0)), (4, .int v)] dX9_chain_112 (by decide) rfl ?_
              refine aw_goto 58 dX9_chain_114 (by decide) ?_
              refine aw_iload 0 dX9_chain_58 rfl ?_
              refine aw_if_le 117 dX9_chain_60 (by decide) (fun c60 => absurd c60 (by simp only [i_le, (nI_toInt (n := y0 / 10) (by omega)), (show (0 : Int32).toInt = 0 from rfl)] <;> omega)) (fun c60 => ?_)
              refine aw_iload 0 dX9_chain_63 rfl ?_
              refine aw_bipush (10) dX9_chain_65 (by decide) ?_
              refine aw_irem dX9_chain_67 (by decide) ?_
              refine aw_toe (nI ((y0 / 10) % 10)) (nv_rem (rfl) (rfl) (by omega) (by decide) (by decide)) ?_
              refine aw_iconst (1) dX9_chain_68 (by decide) ?_
              refine aw_isub dX9_chain_69 ?_
              refine aw_istore [(8, .int ((nI ((y0 / 10) % 10)) - 1)), (7, .int (nI (y0 / 10))), (5, .int (nI ((2 ^ a0) ||| (2 ^ (y0 % 10 - 1))))), (6, .int 3), (0, .ref (G.1 + 88)), (1, .int (nI a0)), (2, .int (nI i0)), (3, .int (nI y0)), (4, .int v)] dX9_chain_70 (by decide) rfl ?_
              refine aw_iload 0 dX9_chain_72 rfl ?_
              refine aw_iconst (4) dX9_chain_74 (by decide) ?_
              refine aw_dS [.int ((nI ((y0 / 10) % 10)) - 1), .int 4] [] lX9_126 sX9_isIn mX9_isIn dX9_chain_75 (bX9_isIn (x := (nI ((y0 / 10) % 10)) - 1) (n := 4) (by omega)) rfl (Nat.le_of_ble_eq_true rfl) (by decide) (by decide) rfl ?_
              refine aw_if_eq 92 dX9_chain_78 (by decide) (fun c78 => ?_) (fun c78 => ?_)
              · have t78 := ite_0 c78
                refine aw_aload_n 4 dX9_chain_92 rfl rfl ?_
                refine aw_iconst (-1) dX9_chain_93 (by decide) ?_
                refine aw_eV [.int (-1)] [] lX9_130 vX9_refuse mX9_refuse dX9_chain_94 (bX9_refuse (sp := sp) (fa := fa) (nb := nb) (ns := ns) (nm := nm) (nv := nv) (sh := sh) (ho := ho) (ow := ow) (sl := sl) (rg := rg) (x := (-1)) (q := 1) h88 h89 (by decide) (by decide)) h88 rfl rfl rfl (Nat.le_of_ble_eq_true rfl) (by decide) (by decide) rfl (fun h2531 q2530 => ?_)
                obtain ⟨rg12529, f2532, k2533⟩ := q2530
                have f2534 := rng_at k2533 (by decide) h88
                have f2535 := rng_at k2533 (by decide) h90
                have f2536 := rng_at k2533 (by decide) h91
                have f2537 := rng_at k2533 (by decide) h93
                have f2538 := rng_at k2533 (by decide) h94
                have f2539 := rng_at k2533 (by decide) h95
                have f2540 := rng_at k2533 (by decide) h96
                have f2541 := rng_at k2533 (by decide) h97
                have f2542 := rng_at k2533 (by decide) h98
                have f2543 := rng_at k2533 (by decide) h92
                have f2544 := rng_at k2533 (by decide) h99
                have f2545 := rng_at k2533 (by decide) h100
                have f2546 := rng_at k2533 (by decide) h101
                have f2547 := rng_at k2533 (by decide) h102
                subst hQF
                exact aw_iret rfl dX9_chain_97 (by decide) (by decide) ⟨_, rfl, _, _, _, _, _, f2544, f2545, f2546, f2547, f2532, rg2_tr (rg2_rf 89 89 99 102 h) (rg2_w k2533 (by decide)), hjd, trivial⟩
              · have t78 := ite_1 c78
                have g1 : 1 ≤ (y0 / 10) % 10 ∧ (y0 / 10) % 10 ≤ 4 := by rw [dig_i (by omega)] at t78; omega
                rw [dig_e g1.1]
                refine aw_iload 2 dX9_chain_81 rfl ?_
                refine aw_iload 0 dX9_chain_83 rfl ?_
                refine aw_ishr dX9_chain_85 ?_
                refine aw_iconst (1) dX9_chain_86 (by decide) ?_
                refine aw_iand dX9_chain_87 ?_
                refine aw_toe (if ((2 ^ a0) ||| (2 ^ (y0 % 10 - 1))).testBit ((y0 / 10) % 10 - 1) = true then 1 else 0) (nv_bit (rfl) (rfl) (by omega) (by omega)) ?_
                refine aw_iconst (1) dX9_chain_88 (by decide) ?_
                refine aw_icmp_ne 98 dX9_chain_89 (by decide) (fun c89 => ?_) (fun c89 => ?_)
                · have t89 := ite_0e c89
                  have w2 := or_16 (a := (2 ^ a0) ||| (2 ^ (y0 % 10 - 1))) (b := (y0 / 10) % 10 - 1) (by omega) (by omega)
                  refine aw_iload 2 dX9_chain_98 rfl ?_
                  refine aw_iconst (1) dX9_chain_100 (by decide) ?_
                  refine aw_iload 0 dX9_chain_101 rfl ?_
                  refine aw_ishl dX9_chain_103 ?_
                  refine aw_toe (nI (2 ^ ((y0 / 10) % 10 - 1))) (nv_shl1 (rfl) (by omega)) ?_
                  refine aw_ior dX9_chain_104 ?_
                  refine aw_toe (nI (((2 ^ a0) ||| (2 ^ (y0 % 10 - 1))) ||| (2 ^ ((y0 / 10) % 10 - 1)))) (nv_or (rfl) (rfl)) ?_
                  refine aw_istore [(5, .int (nI (((2 ^ a0) ||| (2 ^ (y0 % 10 - 1))) ||| (2 ^ ((y0 / 10) % 10 - 1))))), (8, .int (nI ((y0 / 10) % 10 - 1))), (7, .int (nI (y0 / 10))), (6, .int 3), (0, .ref (G.1 + 88)), (1, .int (nI a0)), (2, .int (nI i0)), (3, .int (nI y0)), (4, .int v)] dX9_chain_105 (by decide) rfl ?_
                  refine aw_iload 2 dX9_chain_107 rfl ?_
                  refine aw_bipush (10) dX9_chain_109 (by decide) ?_
                  refine aw_idiv dX9_chain_111 (by decide) ?_
                  refine aw_toe (nI ((y0 / 10) / 10)) (nv_div (rfl) (rfl) (by omega) (by decide) (by decide)) ?_
                  refine aw_istore [(7, .int (nI ((y0 / 10) / 10))), (5, .int (nI (((2 ^ a0) ||| (2 ^ (y0 % 10 - 1))) ||| (2 ^ ((y0 / 10) % 10 - 1))))), (8, .int (nI ((y0 / 10) % 10 - 1))), (6, .int 3), (0, .ref (G.1 + 88)), (1, .int (nI a0)), (2, .int (nI i0)), (3, .int (nI y0)), (4, .int v)] dX9_chain_112 (by decide) rfl ?_
                  refine aw_goto 58 dX9_chain_114 (by decide) ?_
                  refine aw_iload 0 dX9_chain_58 rfl ?_
                  refine aw_if_le 117 dX9_chain_60 (by decide) (fun c60 => absurd c60 (by simp only [i_le, (nI_toInt (n := (y0 / 10) / 10) (by omega)), (show (0 : Int32).toInt = 0 from rfl)] <;> omega)) (fun c60 => ?_)
                  refine aw_iload 0 dX9_chain_63 rfl ?_
                  refine aw_bipush (10) dX9_chain_65 (by decide) ?_
                  refine aw_irem dX9_chain_67 (by decide) ?_
                  refine aw_toe (nI (((y0 / 10) / 10) % 10)) (nv_rem (rfl) (rfl) (by omega) (by decide) (by decide)) ?_
                  refine aw_iconst (1) dX9_chain_68 (by decide) ?_
                  refine aw_isub dX9_chain_69 ?_
                  refine aw_istore [(8, .int ((nI (((y0 / 10) / 10) % 10)) - 1)), (7, .int (nI ((y0 / 10) / 10))), (5, .int (nI (((2 ^ a0) ||| (2 ^ (y0 % 10 - 1))) ||| (2 ^ ((y0 / 10) % 10 - 1))))), (6, .int 3), (0, .ref (G.1 + 88)), (1, .int (nI a0)), (2, .int (nI i0)), (3, .int (nI y0)), (4, .int v)] dX9_chain_70 (by decide) rfl ?_
                  refine aw_iload 0 dX9_chain_72 rfl ?_
                  refine aw_iconst (4) dX9_chain_74 (by decide) ?_
                  refine aw_dS [.int ((nI (((y0 / 10) / 10) % 10)) - 1), .int 4] [] lX9_126 sX9_isIn mX9_isIn dX9_chain_75 (bX9_isIn (x := (nI (((y0 / 10) / 10) % 10)) - 1) (n := 4) (by omega)) rfl (Nat.le_of_ble_eq_true rfl) (by decide) (by decide) rfl ?_
                  refine aw_if_eq 92 dX9_chain_78 (by decide) (fun c78 => ?_) (fun c78 => ?_)
                  · have t78 := ite_0 c78
                    refine aw_aload_n 4 dX9_chain_92 rfl rfl ?_
                    refine aw_iconst (-1) dX9_chain_93 (by decide) ?_
                    refine aw_eV [.int (-1)] [] lX9_130 vX9_refuse mX9_refuse dX9_chain_94 (bX9_refuse (sp := sp) (fa := fa) (nb := nb) (ns := ns) (nm := nm) (nv := nv) (sh := sh) (ho := ho) (ow := ow) (sl := sl) (rg := rg) (x := (-1)) (q := 1) h88 h89 (by decide) (by decide)) h88 rfl rfl rfl (Nat.le_of_ble_eq_true rfl) (by decide) (by decide) rfl (fun h2550 q2549 => ?_)
                    obtain ⟨rg12548, f2551, k2552⟩ := q2549
                    have f2553 := rng_at k2552 (by decide) h88
                    have f2554 := rng_at k2552 (by decide) h90
                    have f2555 := rng_at k2552 (by decide) h91
                    have f2556 := rng_at k2552 (by decide) h93
                    have f2557 := rng_at k2552 (by decide) h94
                    have f2558 := rng_at k2552 (by decide) h95
                    have f2559 := rng_at k2552 (by decide) h96
                    have f2560 := rng_at k2552 (by decide) h97
                    have f2561 := rng_at k2552 (by decide) h98
                    have f2562 := rng_at k2552 (by decide) h92
                    have f2563 := rng_at k2552 (by decide) h99
                    have f2564 := rng_at k2552 (by decide) h100
                    have f2565 := rng_at k2552 (by decide) h101
                    have f2566 := rng_at k2552 (by decide) h102
                    subst hQF
                    exact aw_iret rfl dX9_chain_97 (by decide) (by decide) ⟨_, rfl, _, _, _, _, _, f2563, f2564, f2565, f2566, f2551, rg2_tr (rg2_rf 89 89 99 102 h) (rg2_w k2552 (by decide)), hjd, trivial⟩
                  · have t78 := ite_1 c78
                    have g2 : 1 ≤ ((y0 / 10) / 10) % 10 ∧ ((y0 / 10) / 10) % 10 ≤ 4 := by rw [dig_i (by omega)] at t78; omega
                    rw [dig_e g2.1]
                    refine aw_iload 2 dX9_chain_81 rfl ?_
                    refine aw_iload 0 dX9_chain_83 rfl ?_
                    refine aw_ishr dX9_chain_85 ?_
                    refine aw_iconst (1) dX9_chain_86 (by decide) ?_
                    refine aw_iand dX9_chain_87 ?_
                    refine aw_toe (if (((2 ^ a0) ||| (2 ^ (y0 % 10 - 1))) ||| (2 ^ ((y0 / 10) % 10 - 1))).testBit (((y0 / 10) / 10) % 10 - 1) = true then 1 else 0) (nv_bit (rfl) (rfl) (by omega) (by omega)) ?_
                    refine aw_iconst (1) dX9_chain_88 (by decide) ?_
                    refine aw_icmp_ne 98 dX9_chain_89 (by decide) (fun c89 => ?_) (fun c89 => ?_)
                    · have t89 := ite_0e c89
                      have w3 := or_16 (a := ((2 ^ a0) ||| (2 ^ (y0 % 10 - 1))) ||| (2 ^ ((y0 / 10) % 10 - 1))) (b := ((y0 / 10) / 10) % 10 - 1) (by omega) (by omega)
                      refine aw_iload 2 dX9_chain_98 rfl ?_
                      refine aw_iconst (1) dX9_chain_100 (by decide) ?_
                      refine aw_iload 0 dX9_chain_101 rfl ?_
                      refine aw_ishl dX9_chain_103 ?_
                      refine aw_toe (nI (2 ^ (((y0 / 10) / 10) % 10 - 1))) (nv_shl1 (rfl) (by omega)) ?_
                      refine aw_ior dX9_chain_104 ?_
                      refine aw_toe (nI ((((2 ^ a0) ||| (2 ^ (y0 % 10 - 1))) ||| (2 ^ ((y0 / 10) % 10 - 1))) ||| (2 ^ (((y0 / 10) / 10) % 10 - 1)))) (nv_or (rfl) (rfl)) ?_
                      refine aw_istore [(5, .int (nI ((((2 ^ a0) ||| (2 ^ (y0 % 10 - 1))) ||| (2 ^ ((y0 / 10) % 10 - 1))) ||| (2 ^ (((y0 / 10) / 10) % 10 - 1))))), (8, .int (nI (((y0 / 10) / 10) % 10 - 1))), (7, .int (nI ((y0 / 10) / 10))), (6, .int 3), (0, .ref (G.1 + 88)), (1, .int (nI a0)), (2, .int (nI i0)), (3, .int (nI y0)), (4, .int v)] dX9_chain_105 (by decide) rfl ?_
                      refine aw_iload 2 dX9_chain_107 rfl ?_
                      refine aw_bipush (10) dX9_chain_109 (by decide) ?_
                      refine aw_idiv dX9_chain_111 (by decide) ?_
                      refine aw_toe (nI (((y0 / 10) / 10) / 10)) (nv_div (rfl) (rfl) (by omega) (by decide) (by decide)) ?_
                      refine aw_istore [(7, .int (nI (((y0 / 10) / 10) / 10))), (5, .int (nI ((((2 ^ a0) ||| (2 ^ (y0 % 10 - 1))) ||| (2 ^ ((y0 / 10) % 10 - 1))) ||| (2 ^ (((y0 / 10) / 10) % 10 - 1))))), (8, .int (nI (((y0 / 10) / 10) % 10 - 1))), (6, .int 3), (0, .ref (G.1 + 88)), (1, .int (nI a0)), (2, .int (nI i0)), (3, .int (nI y0)), (4, .int v)] dX9_chain_112 (by decide) rfl ?_
                      refine aw_goto 58 dX9_chain_114 (by decide) ?_
                      refine aw_iload 0 dX9_chain_58 rfl ?_
                      refine aw_if_le 117 dX9_chain_60 (by decide) (fun c60 => ?_) (fun c60 => absurd (by simp only [i_le, (nI_toInt (n := ((y0 / 10) / 10) / 10) (by omega)), (show (0 : Int32).toInt = 0 from rfl)] <;> omega) c60)
                      refine aw_iload 8 dX9_chain_117 rfl ?_
                      refine aw_iconst (3) dX9_chain_119 (by decide) ?_
                      refine aw_dS [.int v, .int 3] [] lX9_126 sX9_isIn mX9_isIn dX9_chain_120 (bX9_isIn (x := v) (n := 3) (by omega)) rfl (Nat.le_of_ble_eq_true rfl) (by decide) (by decide) rfl ?_
                      refine aw_if_ne 133 dX9_chain_123 (by decide) (fun c123 => ?_) (fun c123 => ?_)
                      · have t123 := ite_1 c123
                        refine aw_iconst (0) dX9_chain_133 (by decide) ?_
                        refine aw_istore [(7, .int 0), (5, .int (nI ((((2 ^ a0) ||| (2 ^ (y0 % 10 - 1))) ||| (2 ^ ((y0 / 10) % 10 - 1))) ||| (2 ^ (((y0 / 10) / 10) % 10 - 1))))), (8, .int (nI (((y0 / 10) / 10) % 10 - 1))), (6, .int 3), (0, .ref (G.1 + 88)), (1, .int (nI a0)), (2, .int (nI i0)), (3, .int (nI y0)), (4, .int v)] dX9_chain_134 (by decide) rfl ?_
                        refine aw_iconst (0) dX9_chain_136 (by decide) ?_
                        refine aw_istore [(8, .int 0), (7, .int 0), (5, .int (nI ((((2 ^ a0) ||| (2 ^ (y0 % 10 - 1))) ||| (2 ^ ((y0 / 10) % 10 - 1))) ||| (2 ^ (((y0 / 10) / 10) % 10 - 1))))), (6, .int 3), (0, .ref (G.1 + 88)), (1, .int (nI a0)), (2, .int (nI i0)), (3, .int (nI y0)), (4, .int v)] dX9_chain_137 (by decide) rfl ?_
                        refine aw_iload_n 5 dX9_chain_139 rfl rfl ?_
                        refine aw_istore [(9, .int (nI a0)), (8, .int 0), (7, .int 0), (5, .int (nI ((((2 ^ a0) ||| (2 ^ (y0 % 10 - 1))) ||| (2 ^ ((y0 / 10) % 10 - 1))) ||| (2 ^ (((y0 / 10) / 10) % 10 - 1))))), (6, .int 3), (0, .ref (G.1 + 88)), (1, .int (nI a0)), (2, .int (nI i0)), (3, .int (nI y0)), (4, .int v)] dX9_chain_140 (by decide) rfl ?_
                        refine aw_iload_n 7 dX9_chain_142 rfl rfl ?_
                        refine aw_istore [(10, .int (nI i0)), (9, .int (nI a0)), (8, .int 0), (7, .int 0), (5, .int (nI ((((2 ^ a0) ||| (2 ^ (y0 % 10 - 1))) ||| (2 ^ ((y0 / 10) % 10 - 1))) ||| (2 ^ (((y0 / 10) / 10) % 10 - 1))))), (6, .int 3), (0, .ref (G.1 + 88)), (1, .int (nI a0)), (2, .int (nI i0)), (3, .int (nI y0)), (4, .int v)] dX9_chain_143 (by decide) rfl ?_
                        refine aw_iload 5 dX9_chain_145 rfl ?_
                        refine aw_iconst (3) dX9_chain_147 (by decide) ?_
                        refine aw_icmp_ne 156 dX9_chain_148 (by decide) (fun c148 => absurd (by decide) c148) (fun c148 => ?_)
                        refine aw_bipush (100) dX9_chain_151 (by decide) ?_
                        refine aw_goto 168 dX9_chain_153 (by decide) ?_
                        refine aw_istore [(11, .int 100), (10, .int (nI i0)), (9, .int (nI a0)), (8, .int 0), (7, .int 0), (5, .int (nI ((((2 ^ a0) ||| (2 ^ (y0 % 10 - 1))) ||| (2 ^ ((y0 / 10) % 10 - 1))) ||| (2 ^ (((y0 / 10) / 10) % 10 - 1))))), (6, .int 3), (0, .ref (G.1 + 88)), (1, .int (nI a0)), (2, .int (nI i0)), (3, .int (nI y0)), (4, .int v)] dX9_chain_168 (by decide) rfl ?_
                        refine aw_lv [(11, .int 100), (10, .int (nI i0)), (9, .int (nI a0)), (8, .int 0), (7, .int 0), (4, .int v), (3, .int (nI y0)), (0, .ref (G.1 + 88))] [0, 1, 2, 3, 4, 11, 10, 7] rfl ?_
                        suffices L2584 : ∀ (mm : Nat) (x : Nat) (ev : Int32) (fr : Nat) (dv : Int32) (sv : Int32) (lk1 : Nat → Int32) (su1 : Nat → Int32) (jd1 : Nat → Int32) (wy1 : Nat → Int32) (h2567 : List va_E), x < mm → (x = 0 ∨ x = 1 ∨ x = 2 ∨ x = 3) → (ev = -9 ∨ ∃ q, q < 10 ∧ ev = nI q) → (fr < 4) → (pB jd1) → h2567[88]? = some (oB 9 (lM G (nI sp) (nI fa) (nI nb) (nI ns) (nI nm) ho ow sl (nI nv) (nI sh))) → h2567[89]? = some (aI 7 rg) → h2567[90]? = some (aI 20 (nA m)) → h2567[91]? = some (aI 4 (nA ye)) → h2567[93]? = some (aI 40 W) → h2567[94]? = some (aI 40 Z) → h2567[95]? = some (aI 40 Ro) → h2567[96]? = some (aI 40 Co) → h2567[97]? = some (aI 30 (nA b1)) → h2567[98]? = some (aI 30 (nA b2)) → h2567[92]? = some (aI 4 (nA fi)) → h2567[99]? = some (aI 100 lk1) → h2567[100]? = some (aI 11264 su1) → h2567[101]? = some (aI 10 jd1) → h2567[102]? = some (aI 11264 wy1) → rg2 89 89 99 102 h h2567 → AW l G yX9_chain cX9_chain 15 (some .int) (xR 6 0 0) (fun _ _ => True) QF 0 0 170 [(11, .int (nI (p10 x))), (10, .int ev), (9, .int (nI fr)), (8, .int dv), (7, .int sv), (4, .int v), (3, .int (nI y0)), (0, .ref (G.1 + 88))] [] h2567 from L2584 (3 + 1) 3 (nI i0) a0 0 0 lk su jd wy _ (Nat.lt_succ_self _) (by decide) (Or.inr ⟨_, by omega, rfl⟩) (by omega) (hjd) h88 h89 h90 h91 h93 h94 h95 h96 h97 h98 h92 h99 h100 h101 h102 (rg2_rf 89 89 99 102 h)
                        intro mm
                        induction mm with
                        | zero =>
                          intro x ev fr dv sv lk1 su1 jd1 wy1 h2567 hmm hx he bfr hp f2568 f2569 f2570 f2571 f2572 f2573 f2574 f2575 f2576 f2577 f2578 f2579 f2580 f2581 f2582 k2583
                          exact absurd hmm (Nat.not_lt_zero _)
                        | succ mm ih2584 =>
                          intro x ev fr dv sv lk1 su1 jd1 wy1 h2567 hmm hx he bfr hp f2568 f2569 f2570 f2571 f2572 f2573 f2574 f2575 f2576 f2577 f2578 f2579 f2580 f2581 f2582 k2583
                          rcases hx with rfl | rfl | rfl | rfl
                          · refine aw_lv [(11, .int 0), (10, .int ev), (9, .int (nI fr)), (8, .int dv), (7, .int sv), (4, .int v), (3, .int (nI y0)), (0, .ref (G.1 + 88))] [0, 1, 2, 3, 4, 5, 6, 7] rfl ?_
                            refine aw_iload 0 dX9_chain_170 rfl ?_
                            refine aw_if_le 274 dX9_chain_172 (by decide) (fun c172 => ?_) (fun c172 => absurd (by decide) c172)
                            refine aw_iload 5 dX9_chain_274 rfl ?_
                            refine aw_if_ne 284 dX9_chain_276 (by decide) (fun c276 => ?_) (fun c276 => ?_)
                            · have d276 := mt (j_eq (a := v.toInt) (b := (0)) (rfl) (rfl)).mpr c276
                              refine aw_iload 5 dX9_chain_284 rfl ?_
                              refine aw_iconst (1) dX9_chain_286 (by decide) ?_
                              refine aw_icmp_ne 295 dX9_chain_287 (by decide) (fun c287 => ?_) (fun c287 => ?_)
                              · have d287 := mt (j_eq (a := v.toInt) (b := (1)) (rfl) (rfl)).mpr c287
                                refine aw_iload 3 dX9_chain_295 rfl ?_
                                subst hQF
                                exact aw_iret rfl dX9_chain_297 (by decide) (by decide) ⟨_, rfl, _, _, _, _, _, f2579, f2580, f2581, f2582, f2569, k2583, hp, trivial⟩
                              · have d287 := (j_eq (a := v.toInt) (b := (1)) (rfl) (rfl)).mp c287
                                refine aw_iload 4 dX9_chain_290 rfl ?_
                                refine aw_goto 297 dX9_chain_292 (by decide) ?_
                                subst hQF
                                exact aw_iret rfl dX9_chain_297 (by decide) (by decide) ⟨_, rfl, _, _, _, _, _, f2579, f2580, f2581, f2582, f2569, k2583, hp, trivial⟩
                            · have d276 := (j_eq (a := v.toInt) (b := (0)) (rfl) (rfl)).mp c276
                              refine aw_iload 1 dX9_chain_279 rfl ?_
                              refine aw_goto 297 dX9_chain_281 (by decide) ?_
                              subst hQF
                              exact aw_iret rfl dX9_chain_297 (by decide) (by decide) ⟨_, rfl, _, _, _, _, _, f2579, f2580, f2581, f2582, f2569, k2583, hp, trivial⟩
                          · refine aw_lv [(11, .int 1), (10, .int ev), (9, .int (nI fr)), (8, .int dv), (7, .int sv), (4, .int v), (3, .int (nI y0)), (0, .ref (G.1 + 88))] [0, 1, 2, 3, 4, 5, 6, 7] rfl ?_
                            refine aw_iload 0 dX9_chain_170 rfl ?_
                            refine aw_if_le 274 dX9_chain_172 (by decide) (fun c172 => absurd c172 (by decide)) (fun c172 => ?_)
                            refine aw_iload 1 dX9_chain_175 rfl ?_
                            refine aw_if_lt 274 dX9_chain_177 (by decide) (fun c177 => ?_) (fun c177 => ?_)
                            · have d177 := (j_lt (a := ev.toInt) (b := (0)) (rfl) (rfl)).mp c177
                              refine aw_iload 5 dX9_chain_274 rfl ?_
                              refine aw_if_ne 284 dX9_chain_276 (by decide) (fun c276 => ?_) (fun c276 => ?_)
                              · have d276 := mt (j_eq (a := v.toInt) (b := (0)) (rfl) (rfl)).mpr c276
                                refine aw_iload 5 dX9_chain_284 rfl ?_
                                refine aw_iconst (1) dX9_chain_286 (by decide) ?_
                                refine aw_icmp_ne 295 dX9_chain_287 (by decide) (fun c287 => ?_) (fun c287 => ?_)
                                · have d287 := mt (j_eq (a := v.toInt) (b := (1)) (rfl) (rfl)).mpr c287
                                  refine aw_iload 3 dX9_chain_295 rfl ?_
                                  subst hQF
                                  exact aw_iret rfl dX9_chain_297 (by decide) (by decide) ⟨_, rfl, _, _, _, _, _, f2579, f2580, f2581, f2582, f2569, k2583, hp, trivial⟩
                                · have d287 := (j_eq (a := v.toInt) (b := (1)) (rfl) (rfl)).mp c287
                                  refine aw_iload 4 dX9_chain_290 rfl ?_
                                  refine aw_goto 297 dX9_chain_292 (by decide) ?_
                                  subst hQF
                                  exact aw_iret rfl dX9_chain_297 (by decide) (by decide) ⟨_, rfl, _, _, _, _, _, f2579, f2580, f2581, f2582, f2569, k2583, hp, trivial⟩
                              · have d276 := (j_eq (a := v.toInt) (b := (0)) (rfl) (rfl)).mp c276
                                refine aw_iload 1 dX9_chain_279 rfl ?_
                                refine aw_goto 297 dX9_chain_281 (by decide) ?_
                                subst hQF
                                exact aw_iret rfl dX9_chain_297 (by decide) (by decide) ⟨_, rfl, _, _, _, _, _, f2579, f2580, f2581, f2582, f2569, k2583, hp, trivial⟩
                            · have d177 := mt (j_lt (a := ev.toInt) (b := (0)) (rfl) (rfl)).mpr c177
                              obtain ⟨q, bq, rfl⟩ := he.resolve_left (fun e => by rw [e] at d177; exact d177 (by decide))
                              refine aw_iload_n 6 dX9_chain_180 rfl rfl ?_
                              refine aw_iload 0 dX9_chain_181 rfl ?_
                              refine aw_idiv dX9_chain_183 (by decide) ?_
                              refine aw_toe (nI (y0 / 1)) (nv_div (rfl) (rfl) (by omega) (by decide) (by decide)) ?_
                              refine aw_bipush (10) dX9_chain_184 (by decide) ?_
                              refine aw_irem dX9_chain_186 (by decide) ?_
                              refine aw_toe (nI ((y0 / 1) % 10)) (nv_rem (rfl) (rfl) (by omega) (by decide) (by decide)) ?_
                              refine aw_iconst (1) dX9_chain_187 (by decide) ?_
                              refine aw_isub dX9_chain_188 ?_
                              refine aw_toe (nI (((y0 / 1) % 10) - 1)) (nv_sub (rfl) (rfl) (by omega)) ?_
                              refine aw_istore [(12, .int (nI (((y0 / 1) % 10) - 1))), (11, .int 1), (10, .int (nI q)), (9, .int (nI fr)), (8, .int dv), (7, .int sv), (4, .int v), (3, .int (nI y0)), (0, .ref (G.1 + 88))] dX9_chain_189 (by decide) rfl ?_
                              refine aw_aload_n 8 dX9_chain_191 rfl rfl ?_
                              refine aw_iload 3 dX9_chain_192 rfl ?_
                              refine aw_iload 2 dX9_chain_194 rfl ?_
                              refine aw_iload 0 dX9_chain_196 rfl ?_
                              refine aw_uV [.int (nI fr), .int (nI q), .int (nI (((y0 / 1) % 10) - 1))] [] lX9_190 vX9_isSure mX9_isSure dX9_chain_198 (bX9_isSure (sp := sp) (fa := fa) (nb := nb) (ns := ns) (nm := nm) (nv := nv) (sh := sh) (ho := ho) (ow := ow) (sl := sl) (m := m) (ye := ye) (b1 := b1) (b2 := b2) (W := W) (Z := Z) (Ro := Ro) (Co := Co) (fi := fi) (lk := lk1) (su := su1) (jd := jd1) (wy := wy1) (a := fr) (b := ((y0 / 1) % 10) - 1) (i := q) f2568 f2570 f2571 f2572 f2573 f2574 f2575 f2576 f2577 f2578 f2579 f2580 f2581 f2582 hm hye (by omega) bb1 bb2 (by omega) (by omega) hfi (by omega) (by omega) (by omega) (by omega)) f2568 rfl rfl rfl (Nat.le_of_ble_eq_true rfl) (by decide) (by decide) rfl (fun r2590 h2591 q2589 => ?_)
                              obtain ⟨lk12585, su12586, jd12587, wy12588, f2592, f2593, f2594, f2595, k2596, p2597, u2598⟩ := q2589
                              have f2599 := rng_at k2596 (by decide) f2568
                              have f2600 := rng_at k2596 (by decide) f2569
                              have f2601 := rng_at k2596 (by decide) f2570
                              have f2602 := rng_at k2596 (by decide) f2571
                              have f2603 := rng_at k2596 (by decide) f2572
                              have f2604 := rng_at k2596 (by decide) f2573
                              have f2605 := rng_at k2596 (by decide) f2574
                              have f2606 := rng_at k2596 (by decide) f2575
                              have f2607 := rng_at k2596 (by decide) f2576
                              have f2608 := rng_at k2596 (by decide) f2577
                              have f2609 := rng_at k2596 (by decide) f2578
                              refine aw_istore [(13, .int r2590), (12, .int (nI (((y0 / 1) % 10) - 1))), (11, .int 1), (10, .int (nI q)), (9, .int (nI fr)), (8, .int dv), (7, .int sv), (4, .int v), (3, .int (nI y0)), (0, .ref (G.1 + 88))] dX9_chain_201 (by decide) rfl ?_
                              refine aw_aload_n 9 dX9_chain_203 rfl rfl ?_
                              refine aw_get fX9_53 dX9_chain_204 f2599 rfl ?_
                              refine aw_iload 3 dX9_chain_207 rfl ?_
                              refine aw_iald q (rfl) (by omega) (by decide) dX9_chain_209 f2594 ?_
                              refine aw_istore [(14, .int (jd12587 q)), (13, .int r2590), (12, .int (nI (((y0 / 1) % 10) - 1))), (11, .int 1), (10, .int (nI q)), (9, .int (nI fr)), (8, .int dv), (7, .int sv), (4, .int v), (3, .int (nI y0)), (0, .ref (G.1 + 88))] dX9_chain_210 (by decide) rfl ?_
                              refine aw_iload 0 dX9_chain_212 rfl ?_
                              refine aw_if_lt 256 dX9_chain_214 (by decide) (fun c214 => ?_) (fun c214 => ?_)
                              · have d214 := (j_lt (a := (jd12587 q).toInt) (b := (0)) (rfl) (rfl)).mp c214
                                refine aw_iload 0 dX9_chain_256 rfl ?_
                                refine aw_istore [(10, .int (jd12587 q)), (14, .int (jd12587 q)), (13, .int r2590), (12, .int (nI (((y0 / 1) % 10) - 1))), (11, .int 1), (9, .int (nI fr)), (8, .int dv), (7, .int sv), (4, .int v), (3, .int (nI y0)), (0, .ref (G.1 + 88))] dX9_chain_258 (by decide) rfl ?_
                                refine aw_iload 3 dX9_chain_260 rfl ?_
                                refine aw_istore [(9, .int (nI (((y0 / 1) % 10) - 1))), (10, .int (jd12587 q)), (14, .int (jd12587 q)), (13, .int r2590), (12, .int (nI (((y0 / 1) % 10) - 1))), (11, .int 1), (8, .int dv), (7, .int sv), (4, .int v), (3, .int (nI y0)), (0, .ref (G.1 + 88))] dX9_chain_262 (by decide) rfl ?_
                                refine aw_iload 5 dX9_chain_264 rfl ?_
                                refine aw_bipush (10) dX9_chain_266 (by decide) ?_
                                refine aw_idiv dX9_chain_268 (by decide) ?_
                                refine aw_toe 0 (by decide) ?_
                                refine aw_istore [(11, .int 0), (9, .int (nI (((y0 / 1) % 10) - 1))), (10, .int (jd12587 q)), (14, .int (jd12587 q)), (13, .int r2590), (12, .int (nI (((y0 / 1) % 10) - 1))), (8, .int dv), (7, .int sv), (4, .int v), (3, .int (nI y0)), (0, .ref (G.1 + 88))] dX9_chain_269 (by decide) rfl ?_
                                refine aw_goto 170 dX9_chain_271 (by decide) ?_
                                refine aw_lv [(11, .int 0), (10, .int (jd12587 q)), (9, .int (nI (((y0 / 1) % 10) - 1))), (8, .int dv), (7, .int sv), (4, .int v), (3, .int (nI y0)), (0, .ref (G.1 + 88))] [0, 2, 1, 6, 7, 8, 9, 10] rfl ?_
                                exact ih2584 0 (jd12587 q) (((y0 / 1) % 10) - 1) dv sv lk12585 su12586 jd12587 wy12588 _ (by omega) (by decide) (p2597 q bq) (by omega) (p2597) f2599 f2600 f2601 f2602 f2603 f2604 f2605 f2606 f2607 f2608 f2609 f2592 f2593 f2594 f2595 (rg2_tr (k2583) (rg2_w k2596 (by decide)))
                              · have d214 := mt (j_lt (a := (jd12587 q).toInt) (b := (0)) (rfl) (rfl)).mpr c214
                                obtain ⟨q2, bq2, eq2⟩ := pB_g p2597 (show q < 10 by omega) d214
                                rw [eq2]
                                refine aw_iinc (j := 7) (sv + 1) [(7, .int (sv + 1)), (14, .int (nI q2)), (13, .int r2590), (12, .int (nI (((y0 / 1) % 10) - 1))), (11, .int 1), (10, .int (nI q)), (9, .int (nI fr)), (8, .int dv), (4, .int v), (3, .int (nI y0)), (0, .ref (G.1 + 88))] dX9_chain_217 rfl (by rfl) (by decide) rfl ?_
                                refine aw_iload 7 dX9_chain_220 rfl ?_
                                refine aw_iconst (0) dX9_chain_222 (by decide) ?_
                                refine aw_bipush (100) dX9_chain_223 (by decide) ?_
                                refine aw_aload_n 10 dX9_chain_225 rfl rfl ?_
                                refine aw_iload 6 dX9_chain_226 rfl ?_
                                refine aw_iload 5 dX9_chain_228 rfl ?_
                                refine aw_iload 3 dX9_chain_230 rfl ?_
                                refine aw_iload 1 dX9_chain_232 rfl ?_
                                refine aw_uV [.int (nI fr), .int (nI q), .int (nI (((y0 / 1) % 10) - 1)), .int (nI q2)] [.int 100, .int 0, .int dv] lX9_166 vX9_likeOf mX9_likeOf dX9_chain_234 (bX9_likeOf (sp := sp) (fa := fa) (nb := nb) (ns := ns) (nm := nm) (nv := nv) (sh := sh) (ho := ho) (ow := ow) (sl := sl) (m := m) (ye := ye) (b1 := b1) (b2 := b2) (W := W) (Z := Z) (Ro := Ro) (Co := Co) (a := fr) (i := q) (b := ((y0 / 1) % 10) - 1) (k := q2) f2599 f2601 f2602 f2603 f2604 f2605 f2606 f2607 f2608 hm hye (by omega) bb1 bb2 (by omega) (by omega) (by omega) (by omega) (by omega) (by omega)) f2599 rfl rfl rfl (Nat.le_of_ble_eq_true rfl) (by decide) (by decide) rfl (fun r2611 h2612 q2610 => ?_)
                                obtain ⟨e2614, u2613⟩ := q2610
                                rw [e2614]
                                refine aw_isub dX9_chain_237 ?_
                                refine aw_mmax lX9_162 dX9_chain_238 (Nat.le_of_ble_eq_true rfl) (by decide) (by decide) ?_
                                refine aw_iload 2 dX9_chain_241 rfl ?_
                                refine aw_if_eq 250 dX9_chain_243 (by decide) (fun c243 => ?_) (fun c243 => ?_)
                                · have d243 := (j_eq (a := r2590.toInt) (b := (0)) (rfl) (rfl)).mp c243
                                  refine aw_bipush (50) dX9_chain_250 (by decide) ?_
                                  refine aw_iadd dX9_chain_252 ?_
                                  refine aw_iadd dX9_chain_253 ?_
                                  refine aw_istore [(8, .int (dv + ((if 0 < (100 - r2611) then (100 - r2611) else 0) + 50))), (7, .int (sv + 1)), (14, .int (nI q2)), (13, .int r2590), (12, .int (nI (((y0 / 1) % 10) - 1))), (11, .int 1), (10, .int (nI q)), (9, .int (nI fr)), (4, .int v), (3, .int (nI y0)), (0, .ref (G.1 + 88))] dX9_chain_254 (by decide) rfl ?_
                                  refine aw_iload 2 dX9_chain_256 rfl ?_
                                  refine aw_istore [(10, .int (nI q2)), (8, .int (dv + ((if 0 < (100 - r2611) then (100 - r2611) else 0) + 50))), (7, .int (sv + 1)), (14, .int (nI q2)), (13, .int r2590), (12, .int (nI (((y0 / 1) % 10) - 1))), (11, .int 1), (9, .int (nI fr)), (4, .int v), (3, .int (nI y0)), (0, .ref (G.1 + 88))] dX9_chain_258 (by decide) rfl ?_
                                  refine aw_iload 5 dX9_chain_260 rfl ?_
                                  refine aw_istore [(9, .int (nI (((y0 / 1) % 10) - 1))), (10, .int (nI q2)), (8, .int (dv + ((if 0 < (100 - r2611) then (100 - r2611) else 0) + 50))), (7, .int (sv + 1)), (14, .int (nI q2)), (13, .int r2590), (12, .int (nI (((y0 / 1) % 10) - 1))), (11, .int 1), (4, .int v), (3, .int (nI y0)), (0, .ref (G.1 + 88))] dX9_chain_262 (by decide) rfl ?_
                                  refine aw_iload 7 dX9_chain_264 rfl ?_
                                  refine aw_bipush (10) dX9_chain_266 (by decide) ?_
                                  refine aw_idiv dX9_chain_268 (by decide) ?_
                                  refine aw_toe 0 (by decide) ?_
                                  refine aw_istore [(11, .int 0), (9, .int (nI (((y0 / 1) % 10) - 1))), (10, .int (nI q2)), (8, .int (dv + ((if 0 < (100 - r2611) then (100 - r2611) else 0) + 50))), (7, .int (sv + 1)), (14, .int (nI q2)), (13, .int r2590), (12, .int (nI (((y0 / 1) % 10) - 1))), (4, .int v), (3, .int (nI y0)), (0, .ref (G.1 + 88))] dX9_chain_269 (by decide) rfl ?_
                                  refine aw_goto 170 dX9_chain_271 (by decide) ?_
                                  refine aw_lv [(11, .int 0), (10, .int (nI q2)), (9, .int (nI (((y0 / 1) % 10) - 1))), (8, .int (dv + ((if 0 < (100 - r2611) then (100 - r2611) else 0) + 50))), (7, .int (sv + 1)), (4, .int v), (3, .int (nI y0)), (0, .ref (G.1 + 88))] [0, 2, 1, 3, 4, 8, 9, 10] rfl ?_
                                  exact ih2584 0 (nI q2) (((y0 / 1) % 10) - 1) (dv + ((if 0 < (100 - r2611) then (100 - r2611) else 0) + 50)) (sv + 1) lk12585 su12586 jd12587 wy12588 _ (by omega) (by decide) (Or.inr ⟨_, bq2, rfl⟩) (by omega) (p2597) f2599 f2600 f2601 f2602 f2603 f2604 f2605 f2606 f2607 f2608 f2609 f2592 f2593 f2594 f2595 (rg2_tr (k2583) (rg2_w k2596 (by decide)))
                                · have d243 := mt (j_eq (a := r2590.toInt) (b := (0)) (rfl) (rfl)).mpr c243
                                  refine aw_iconst (0) dX9_chain_246 (by decide) ?_
                                  refine aw_goto 252 dX9_chain_247 (by decide) ?_
                                  refine aw_iadd dX9_chain_252 ?_
                                  refine aw_iadd dX9_chain_253 ?_
                                  refine aw_istore [(8, .int (dv + ((if 0 < (100 - r2611) then (100 - r2611) else 0) + 0))), (7, .int (sv + 1)), (14, .int (nI q2)), (13, .int r2590), (12, .int (nI (((y0 / 1) % 10) - 1))), (11, .int 1), (10, .int (nI q)), (9, .int (nI fr)), (4, .int v), (3, .int (nI y0)), (0, .ref (G.1 + 88))] dX9_chain_254 (by decide) rfl ?_
                                  refine aw_iload 2 dX9_chain_256 rfl ?_
                                  refine aw_istore [(10, .int (nI q2)), (8, .int (dv + ((if 0 < (100 - r2611) then (100 - r2611) else 0) + 0))), (7, .int (sv + 1)), (14, .int (nI q2)), (13, .int r2590), (12, .int (nI (((y0 / 1) % 10) - 1))), (11, .int 1), (9, .int (nI fr)), (4, .int v), (3, .int (nI y0)), (0, .ref (G.1 + 88))] dX9_chain_258 (by decide) rfl ?_
                                  refine aw_iload 5 dX9_chain_260 rfl ?_
                                  refine aw_istore [(9, .int (nI (((y0 / 1) % 10) - 1))), (10, .int (nI q2)), (8, .int (dv + ((if 0 < (100 - r2611) then (100 - r2611) else 0) + 0))), (7, .int (sv + 1)), (14, .int (nI q2)), (13, .int r2590), (12, .int (nI (((y0 / 1) % 10) - 1))), (11, .int 1), (4, .int v), (3, .int (nI y0)), (0, .ref (G.1 + 88))] dX9_chain_262 (by decide) rfl ?_
                                  refine aw_iload 7 dX9_chain_264 rfl ?_
                                  refine aw_bipush (10) dX9_chain_266 (by decide) ?_
                                  refine aw_idiv dX9_chain_268 (by decide) ?_
                                  refine aw_toe 0 (by decide) ?_
                                  refine aw_istore [(11, .int 0), (9, .int (nI (((y0 / 1) % 10) - 1))), (10, .int (nI q2)), (8, .int (dv + ((if 0 < (100 - r2611) then (100 - r2611) else 0) + 0))), (7, .int (sv + 1)), (14, .int (nI q2)), (13, .int r2590), (12, .int (nI (((y0 / 1) % 10) - 1))), (4, .int v), (3, .int (nI y0)), (0, .ref (G.1 + 88))] dX9_chain_269 (by decide) rfl ?_
                                  refine aw_goto 170 dX9_chain_271 (by decide) ?_
                                  refine aw_lv [(11, .int 0), (10, .int (nI q2)), (9, .int (nI (((y0 / 1) % 10) - 1))), (8, .int (dv + ((if 0 < (100 - r2611) then (100 - r2611) else 0) + 0))), (7, .int (sv + 1)), (4, .int v), (3, .int (nI y0)), (0, .ref (G.1 + 88))] [0, 2, 1, 3, 4, 8, 9, 10] rfl ?_
                                  exact ih2584 0 (nI q2) (((y0 / 1) % 10) - 1) (dv + ((if 0 < (100 - r2611) then (100 - r2611) else 0) + 0)) (sv + 1) lk12585 su12586 jd12587 wy12588 _ (by omega) (by decide) (Or.inr ⟨_, bq2, rfl⟩) (by omega) (p2597) f2599 f2600 f2601 f2602 f2603 f2604 f2605 f2606 f2607 f2608 f2609 f2592 f2593 f2594 f2595 (rg2_tr (k2583) (rg2_w k2596 (by decide)))
                          · refine aw_lv [(11, .int 10), (10, .int ev), (9, .int (nI fr)), (8, .int dv), (7, .int sv), (4, .int v), (3, .int (nI y0)), (0, .ref (G.1 + 88))] [0, 1, 2, 3, 4, 5, 6, 7] rfl ?_
                            refine aw_iload 0 dX9_chain_170 rfl ?_
                            refine aw_if_le 274 dX9_chain_172 (by decide) (fun c172 => absurd c172 (by decide)) (fun c172 => ?_)
                            refine aw_iload 1 dX9_chain_175 rfl ?_
                            refine aw_if_lt 274 dX9_chain_177 (by decide) (fun c177 => ?_) (fun c177 => ?_)
                            · have d177 := (j_lt (a := ev.toInt) (b := (0)) (rfl) (rfl)).mp c177
                              refine aw_iload 5 dX9_chain_274 rfl ?_
                              refine aw_if_ne 284 dX9_chain_276 (by decide) (fun c276 => ?_) (fun c276 => ?_)
                              · have d276 := mt (j_eq (a := v.toInt) (b := (0)) (rfl) (rfl)).mpr c276
                                refine aw_iload 5 dX9_chain_284 rfl ?_
                                refine aw_iconst (1) dX9_chain_286 (by decide) ?_
                                refine aw_icmp_ne 295 dX9_chain_287 (by decide) (fun c287 => ?_) (fun c287 => ?_)
                                · have d287 := mt (j_eq (a := v.toInt) (b := (1)) (rfl) (rfl)).mpr c287
                                  refine aw_iload 3 dX9_chain_295 rfl ?_
                                  subst hQF
                                  exact aw_iret rfl dX9_chain_297 (by decide) (by decide) ⟨_, rfl, _, _, _, _, _, f2579, f2580, f2581, f2582, f2569, k2583, hp, trivial⟩
                                · have d287 := (j_eq (a := v.toInt) (b := (1)) (rfl) (rfl)).mp c287
                                  refine aw_iload 4 dX9_chain_290 rfl ?_
                                  refine aw_goto 297 dX9_chain_292 (by decide) ?_
                                  subst hQF
                                  exact aw_iret rfl dX9_chain_297 (by decide) (by decide) ⟨_, rfl, _, _, _, _, _, f2579, f2580, f2581, f2582, f2569, k2583, hp, trivial⟩
                              · have d276 := (j_eq (a := v.toInt) (b := (0)) (rfl) (rfl)).mp c276
                                refine aw_iload 1 dX9_chain_279 rfl ?_
                                refine aw_goto 297 dX9_chain_281 (by decide) ?_
                                subst hQF
                                exact aw_iret rfl dX9_chain_297 (by decide) (by decide) ⟨_, rfl, _, _, _, _, _, f2579, f2580, f2581, f2582, f2569, k2583, hp, trivial⟩
                            · have d177 := mt (j_lt (a := ev.toInt) (b := (0)) (rfl) (rfl)).mpr c177
                              obtain ⟨q, bq, rfl⟩ := he.resolve_left (fun e => by rw [e] at d177; exact d177 (by decide))
                              refine aw_iload_n 6 dX9_chain_180 rfl rfl ?_
                              refine aw_iload 0 dX9_chain_181 rfl ?_
                              refine aw_idiv dX9_chain_183 (by decide) ?_
                              refine aw_toe (nI (y0 / 10)) (nv_div (rfl) (rfl) (by omega) (by decide) (by decide)) ?_
                              refine aw_bipush (10) dX9_chain_184 (by decide) ?_
                              refine aw_irem dX9_chain_186 (by decide) ?_
                              refine aw_toe (nI ((y0 / 10) % 10)) (nv_rem (rfl) (rfl) (by omega) (by decide) (by decide)) ?_
                              refine aw_iconst (1) dX9_chain_187 (by decide) ?_
                              refine aw_isub dX9_chain_188 ?_
                              refine aw_toe (nI (((y0 / 10) % 10) - 1)) (nv_sub (rfl) (rfl) (by omega)) ?_
                              refine aw_istore [(12, .int (nI (((y0 / 10) % 10) - 1))), (11, .int 10), (10, .int (nI q)), (9, .int (nI fr)), (8, .int dv), (7, .int sv), (4, .int v), (3, .int (nI y0)), (0, .ref (G.1 + 88))] dX9_chain_189 (by decide) rfl ?_
                              refine aw_aload_n 8 dX9_chain_191 rfl rfl ?_
                              refine aw_iload 3 dX9_chain_192 rfl ?_
                              refine aw_iload 2 dX9_chain_194 rfl ?_
                              refine aw_iload 0 dX9_chain_196 rfl ?_
                              refine aw_uV [.int (nI fr), .int (nI q), .int (nI (((y0 / 10) % 10) - 1))] [] lX9_190 vX9_isSure mX9_isSure dX9_chain_198 (bX9_isSure (sp := sp) (fa := fa) (nb := nb) (ns := ns) (nm := nm) (nv := nv) (sh := sh) (ho := ho) (ow := ow) (sl := sl) (m := m) (ye := ye) (b1 := b1) (b2 := b2) (W := W) (Z := Z) (Ro := Ro) (Co := Co) (fi := fi) (lk := lk1) (su := su1) (jd := jd1) (wy := wy1) (a := fr) (b := ((y0 / 10) % 10) - 1) (i := q) f2568 f2570 f2571 f2572 f2573 f2574 f2575 f2576 f2577 f2578 f2579 f2580 f2581 f2582 hm hye (by omega) bb1 bb2 (by omega) (by omega) hfi (by omega) (by omega) (by omega) (by omega)) f2568 rfl rfl rfl (Nat.le_of_ble_eq_true rfl) (by decide) (by decide) rfl (fun r2620 h2621 q2619 => ?_)
                              obtain ⟨lk12615, su12616, jd12617, wy12618, f2622, f2623, f2624, f2625, k2626, p2627, u2628⟩ := q2619
                              have f2629 := rng_at k2626 (by decide) f2568
                              have f2630 := rng_at k2626 (by decide) f2569
                              have f2631 := rng_at k2626 (by decide) f2570
                              have f2632 := rng_at k2626 (by decide) f2571
                              have f2633 := rng_at k2626 (by decide) f2572
                              have f2634 := rng_at k2626 (by decide) f2573
                              have f2635 := rng_at k2626 (by decide) f2574
                              have f2636 := rng_at k2626 (by decide) f2575
                              have f2637 := rng_at k2626 (by decide) f2576
                              have f2638 := rng_at k2626 (by decide) f2577
                              have f2639 := rng_at k2626 (by decide) f2578
                              refine aw_istore [(13, .int r2620), (12, .int (nI (((y0 / 10) % 10) - 1))), (11, .int 10), (10, .int (nI q)), (9, .int (nI fr)), (8, .int dv), (7, .int sv), (4, .int v), (3, .int (nI y0)), (0, .ref (G.1 + 88))] dX9_chain_201 (by decide) rfl ?_
                              refine aw_aload_n 9 dX9_chain_203 rfl rfl ?_
                              refine aw_get fX9_53 dX9_chain_204 f2629 rfl ?_
                              refine aw_iload 3 dX9_chain_207 rfl ?_
                              refine aw_iald q (rfl) (by omega) (by decide) dX9_chain_209 f2624 ?_
                              refine aw_istore [(14, .int (jd12617 q)), (13, .int r2620), (12, .int (nI (((y0 / 10) % 10) - 1))), (11, .int 10), (10, .int (nI q)), (9, .int (nI fr)), (8, .int dv), (7, .int sv), (4, .int v), (3, .int (nI y0)), (0, .ref (G.1 + 88))] dX9_chain_210 (by decide) rfl ?_
                              refine aw_iload 0 dX9_chain_212 rfl ?_
                              refine aw_if_lt 256 dX9_chain_214 (by decide) (fun c214 => ?_) (fun c214 => ?_)
                              · have d214 := (j_lt (a := (jd12617 q).toInt) (b := (0)) (rfl) (rfl)).mp c214
                                refine aw_iload 0 dX9_chain_256 rfl ?_
                                refine aw_istore [(10, .int (jd12617 q)), (14, .int (jd12617 q)), (13, .int r2620), (12, .int (nI (((y0 / 10) % 10) - 1))), (11, .int 10), (9, .int (nI fr)), (8, .int dv), (7, .int sv), (4, .int v), (3, .int (nI y0)), (0, .ref (G.1 + 88))] dX9_chain_258 (by decide) rfl ?_
                                refine aw_iload 3 dX9_chain_260 rfl ?_
                                refine aw_istore [(9, .int (nI (((y0 / 10) % 10) - 1))), (10, .int (jd12617 q)), (14, .int (jd12617 q)), (13, .int r2620), (12, .int (nI (((y0 / 10) % 10) - 1))), (11, .int 10), (8, .int dv), (7, .int sv), (4, .int v), (3, .int (nI y0)), (0, .ref (G.1 + 88))] dX9_chain_262 (by decide) rfl ?_
                                refine aw_iload 5 dX9_chain_264 rfl ?_
                                refine aw_bipush (10) dX9_chain_266 (by decide) ?_
                                refine aw_idiv dX9_chain_268 (by decide) ?_
                                refine aw_toe 1 (by decide) ?_
                                refine aw_istore [(11, .int 1), (9, .int (nI (((y0 / 10) % 10) - 1))), (10, .int (jd12617 q)), (14, .int (jd12617 q)), (13, .int r2620), (12, .int (nI (((y0 / 10) % 10) - 1))), (8, .int dv), (7, .int sv), (4, .int v), (3, .int (nI y0)), (0, .ref (G.1 + 88))] dX9_chain_269 (by decide) rfl ?_
                                refine aw_goto 170 dX9_chain_271 (by decide) ?_
                                refine aw_lv [(11, .int 1), (10, .int (jd12617 q)), (9, .int (nI (((y0 / 10) % 10) - 1))), (8, .int dv), (7, .int sv), (4, .int v), (3, .int (nI y0)), (0, .ref (G.1 + 88))] [0, 2, 1, 6, 7, 8, 9, 10] rfl ?_
                                exact ih2584 1 (jd12617 q) (((y0 / 10) % 10) - 1) dv sv lk12615 su12616 jd12617 wy12618 _ (by omega) (by decide) (p2627 q bq) (by omega) (p2627) f2629 f2630 f2631 f2632 f2633 f2634 f2635 f2636 f2637 f2638 f2639 f2622 f2623 f2624 f2625 (rg2_tr (k2583) (rg2_w k2626 (by decide)))
                              · have d214 := mt (j_lt (a := (jd12617 q).toInt) (b := (0)) (rfl) (rfl)).mpr c214
                                obtain ⟨q2, bq2, eq2⟩ := pB_g p2627 (show q < 10 by omega) d214
                                rw [eq2]
                                refine aw_iinc (j := 7) (sv + 1) [(7, .int (sv + 1)), (14, .int (nI q2)), (13, .int r2620), (12, .int (nI (((y0 / 10) % 10) - 1))), (11, .int 10), (10, .int (nI q)), (9, .int (nI fr)), (8, .int dv), (4, .int v), (3, .int (nI y0)), (0, .ref (G.1 + 88))] dX9_chain_217 rfl (by rfl) (by decide) rfl ?_
                                refine aw_iload 7 dX9_chain_220 rfl ?_
                                refine aw_iconst (0) dX9_chain_222 (by decide) ?_
                                refine aw_bipush (100) dX9_chain_223 (by decide) ?_
                                refine aw_aload_n 10 dX9_chain_225 rfl rfl ?_
                                refine aw_iload 6 dX9_chain_226 rfl ?_
                                refine aw_iload 5 dX9_chain_228 rfl ?_
                                refine aw_iload 3 dX9_chain_230 rfl ?_
                                refine aw_iload 1 dX9_chain_232 rfl ?_
                                refine aw_uV [.int (nI fr), .int (nI q), .int (nI (((y0 / 10) % 10) - 1)), .int (nI q2)] [.int 100, .int 0, .int dv] lX9_166 vX9_likeOf mX9_likeOf dX9_chain_234 (bX9_likeOf (sp := sp) (fa := fa) (nb := nb) (ns := ns) (nm := nm) (nv := nv) (sh := sh) (ho := ho) (ow := ow) (sl := sl) (m := m) (ye := ye) (b1 := b1) (b2 := b2) (W := W) (Z := Z) (Ro := Ro) (Co := Co) (a := fr) (i := q) (b := ((y0 / 10) % 10) - 1) (k := q2) f2629 f2631 f2632 f2633 f2634 f2635 f2636 f2637 f2638 hm hye (by omega) bb1 bb2 (by omega) (by omega) (by omega) (by omega) (by omega) (by omega)) f2629 rfl rfl rfl (Nat.le_of_ble_eq_true rfl) (by decide) (by decide) rfl (fun r2641 h2642 q2640 => ?_)
                                obtain ⟨e2644, u2643⟩ := q2640
                                rw [e2644]
                                refine aw_isub dX9_chain_237 ?_
                                refine aw_mmax lX9_162 dX9_chain_238 (Nat.le_of_ble_eq_true rfl) (by decide) (by decide) ?_
                                refine aw_iload 2 dX9_chain_241 rfl ?_
                                refine aw_if_eq 250 dX9_chain_243 (by decide) (fun c243 => ?_) (fun c243 => ?_)
                                · have d243 := (j_eq (a := r2620.toInt) (b := (0)) (rfl) (rfl)).mp c243
                                  refine aw_bipush (50) dX9_chain_250 (by decide) ?_
                                  refine aw_iadd dX9_chain_252 ?_
                                  refine aw_iadd dX9_chain_253 ?_
                                  refine aw_istore [(8, .int (dv + ((if 0 < (100 - r2641) then (100 - r2641) else 0) + 50))), (7, .int (sv + 1)), (14, .int (nI q2)), (13, .int r2620), (12, .int (nI (((y0 / 10) % 10) - 1))), (11, .int 10), (10, .int (nI q)), (9, .int (nI fr)), (4, .int v), (3, .int (nI y0)), (0, .ref (G.1 + 88))] dX9_chain_254 (by decide) rfl ?_
                                  refine aw_iload 2 dX9_chain_256 rfl ?_
                                  refine aw_istore [(10, .int (nI q2)), (8, .int (dv + ((if 0 < (100 - r2641) then (100 - r2641) else 0) + 50))), (7, .int (sv + 1)), (14, .int (nI q2)), (13, .int r2620), (12, .int (nI (((y0 / 10) % 10) - 1))), (11, .int 10), (9, .int (nI fr)), (4, .int v), (3, .int (nI y0)), (0, .ref (G.1 + 88))] dX9_chain_258 (by decide) rfl ?_
                                  refine aw_iload 5 dX9_chain_260 rfl ?_
                                  refine aw_istore [(9, .int (nI (((y0 / 10) % 10) - 1))), (10, .int (nI q2)), (8, .int (dv + ((if 0 < (100 - r2641) then (100 - r2641) else 0) + 50))), (7, .int (sv + 1)), (14, .int (nI q2)), (13, .int r2620), (12, .int (nI (((y0 / 10) % 10) - 1))), (11, .int 10), (4, .int v), (3, .int (nI y0)), (0, .ref (G.1 + 88))] dX9_chain_262 (by decide) rfl ?_
                                  refine aw_iload 7 dX9_chain_264 rfl ?_
                                  refine aw_bipush (10) dX9_chain_266 (by decide) ?_
                                  refine aw_idiv dX9_chain_268 (by decide) ?_
                                  refine aw_toe 1 (by decide) ?_
                                  refine aw_istore [(11, .int 1), (9, .int (nI (((y0 / 10) % 10) - 1))), (10, .int (nI q2)), (8, .int (dv + ((if 0 < (100 - r2641) then (100 - r2641) else 0) + 50))), (7, .int (sv + 1)), (14, .int (nI q2)), (13, .int r2620), (12, .int (nI (((y0 / 10) % 10) - 1))), (4, .int v), (3, .int (nI y0)), (0, .ref (G.1 + 88))] dX9_chain_269 (by decide) rfl ?_
                                  refine aw_goto 170 dX9_chain_271 (by decide) ?_
                                  refine aw_lv [(11, .int 1), (10, .int (nI q2)), (9, .int (nI (((y0 / 10) % 10) - 1))), (8, .int (dv + ((if 0 < (100 - r2641) then (100 - r2641) else 0) + 50))), (7, .int (sv + 1)), (4, .int v), (3, .int (nI y0)), (0, .ref (G.1 + 88))] [0, 2, 1, 3, 4, 8, 9, 10] rfl ?_
                                  exact ih2584 1 (nI q2) (((y0 / 10) % 10) - 1) (dv + ((if 0 < (100 - r2641) then (100 - r2641) else 0) + 50)) (sv + 1) lk12615 su12616 jd12617 wy12618 _ (by omega) (by decide) (Or.inr ⟨_, bq2, rfl⟩) (by omega) (p2627) f2629 f2630 f2631 f2632 f2633 f2634 f2635 f2636 f2637 f2638 f2639 f2622 f2623 f2624 f2625 (rg2_tr (k2583) (rg2_w k2626 (by decide)))
                                · have d243 := mt (j_eq (a := r2620.toInt) (b := (0)) (rfl) (rfl)).mpr c243
                                  refine aw_iconst (0) dX9_chain_246 (by decide) ?_
                                  refine aw_goto 252 dX9_chain_247 (by decide) ?_
                                  refine aw_iadd dX9_chain_252 ?_
                                  refine aw_iadd dX9_chain_253 ?_
                                  refine aw_istore [(8, .int (dv + ((if 0 < (100 - r2641) then (100 - r2641) else 0) + 0))), (7, .int (sv + 1)), (14, .int (nI q2)), (13, .int r2620), (12, .int (nI (((y0 / 10) % 10) - 1))), (11, .int 10), (10, .int (nI q)), (9, .int (nI fr)), (4, .int v), (3, .int (nI y0)), (0, .ref (G.1 + 88))] dX9_chain_254 (by decide) rfl ?_
                                  refine aw_iload 2 dX9_chain_256 rfl ?_
                                  refine aw_istore [(10, .int (nI q2)), (8, .int (dv + ((if 0 < (100 - r2641) then (100 - r2641) else 0) + 0))), (7, .int (sv + 1)), (14, .int (nI q2)), (13, .int r2620), (12, .int (nI (((y0 / 10) % 10) - 1))), (11, .int 10), (9, .int (nI fr)), (4, .int v), (3, .int (nI y0)), (0, .ref (G.1 + 88))] dX9_chain_258 (by decide) rfl ?_
                                  refine aw_iload 5 dX9_chain_260 rfl ?_
                                  refine aw_istore [(9, .int (nI (((y0 / 10) % 10) - 1))), (10, .int (nI q2)), (8, .int (dv + ((if 0 < (100 - r2641) then (100 - r2641) else 0) + 0))), (7, .int (sv + 1)), (14, .int (nI q2)), (13, .int r2620), (12, .int (nI (((y0 / 10) % 10) - 1))), (11, .int 10), (4, .int v), (3, .int (nI y0)), (0, .ref (G.1 + 88))] dX9_chain_262 (by decide) rfl ?_
                                  refine aw_iload 7 dX9_chain_264 rfl ?_
                                  refine aw_bipush (10) dX9_chain_266 (by decide) ?_
                                  refine aw_idiv dX9_chain_268 (by decide) ?_
                                  refine aw_toe 1 (by decide) ?_
                                  refine aw_istore [(11, .int 1), (9, .int (nI (((y0 / 10) % 10) - 1))), (10, .int (nI q2)), (8, .int (dv + ((if 0 < (100 - r2641) then (100 - r2641) else 0) + 0))), (7, .int (sv + 1)), (14, .int (nI q2)), (13, .int r2620), (12, .int (nI (((y0 / 10) % 10) - 1))), (4, .int v), (3, .int (nI y0)), (0, .ref (G.1 + 88))] dX9_chain_269 (by decide) rfl ?_
                                  refine aw_goto 170 dX9_chain_271 (by decide) ?_
                                  refine aw_lv [(11, .int 1), (10, .int (nI q2)), (9, .int (nI (((y0 / 10) % 10) - 1))), (8, .int (dv + ((if 0 < (100 - r2641) then (100 - r2641) else 0) + 0))), (7, .int (sv + 1)), (4, .int v), (3, .int (nI y0)), (0, .ref (G.1 + 88))] [0, 2, 1, 3, 4, 8, 9, 10] rfl ?_
                                  exact ih2584 1 (nI q2) (((y0 / 10) % 10) - 1) (dv + ((if 0 < (100 - r2641) then (100 - r2641) else 0) + 0)) (sv + 1) lk12615 su12616 jd12617 wy12618 _ (by omega) (by decide) (Or.inr ⟨_, bq2, rfl⟩) (by omega) (p2627) f2629 f2630 f2631 f2632 f2633 f2634 f2635 f2636 f2637 f2638 f2639 f2622 f2623 f2624 f2625 (rg2_tr (k2583) (rg2_w k2626 (by decide)))
                          · refine aw_lv [(11, .int 100), (10, .int ev), (9, .int (nI fr)), (8, .int dv), (7, .int sv), (4, .int v), (3, .int (nI y0)), (0, .ref (G.1 + 88))] [0, 1, 2, 3, 4, 5, 6, 7] rfl ?_
                            refine aw_iload 0 dX9_chain_170 rfl ?_
                            refine aw_if_le 274 dX9_chain_172 (by decide) (fun c172 => absurd c172 (by decide)) (fun c172 => ?_)
                            refine aw_iload 1 dX9_chain_175 rfl ?_
                            refine aw_if_lt 274 dX9_chain_177 (by decide) (fun c177 => ?_) (fun c177 => ?_)
                            · have d177 := (j_lt (a := ev.toInt) (b := (0)) (rfl) (rfl)).mp c177
                              refine aw_iload 5 dX9_chain_274 rfl ?_
                              refine aw_if_ne 284 dX9_chain_276 (by decide) (fun c276 => ?_) (fun c276 => ?_)
                              · have d276 := mt (j_eq (a := v.toInt) (b := (0)) (rfl) (rfl)).mpr c276
                                refine aw_iload 5 dX9_chain_284 rfl ?_
                                refine aw_iconst (1) dX9_chain_286 (by decide) ?_
                                refine aw_icmp_ne 295 dX9_chain_287 (by decide) (fun c287 => ?_) (fun c287 => ?_)
                                · have d287 := mt (j_eq (a := v.toInt) (b := (1)) (rfl) (rfl)).mpr c287
                                  refine aw_iload 3 dX9_chain_295 rfl ?_
                                  subst hQF
                                  exact aw_iret rfl dX9_chain_297 (by decide) (by decide) ⟨_, rfl, _, _, _, _, _, f2579, f2580, f2581, f2582, f2569, k2583, hp, trivial⟩
                                · have d287 := (j_eq (a := v.toInt) (b := (1)) (rfl) (rfl)).mp c287
                                  refine aw_iload 4 dX9_chain_290 rfl ?_
                                  refine aw_goto 297 dX9_chain_292 (by decide) ?_
                                  subst hQF
                                  exact aw_iret rfl dX9_chain_297 (by decide) (by decide) ⟨_, rfl, _, _, _, _, _, f2579, f2580, f2581, f2582, f2569, k2583, hp, trivial⟩
                              · have d276 := (j_eq (a := v.toInt) (b := (0)) (rfl) (rfl)).mp c276
                                refine aw_iload 1 dX9_chain_279 rfl ?_
                                refine aw_goto 297 dX9_chain_281 (by decide) ?_
                                subst hQF
                                exact aw_iret rfl dX9_chain_297 (by decide) (by decide) ⟨_, rfl, _, _, _, _, _, f2579, f2580, f2581, f2582, f2569, k2583, hp, trivial⟩
                            · have d177 := mt (j_lt (a := ev.toInt) (b := (0)) (rfl) (rfl)).mpr c177
                              obtain ⟨q, bq, rfl⟩ := he.resolve_left (fun e => by rw [e] at d177; exact d177 (by decide))
                              refine aw_iload_n 6 dX9_chain_180 rfl rfl ?_
                              refine aw_iload 0 dX9_chain_181 rfl ?_
                              refine aw_idiv dX9_chain_183 (by decide) ?_
                              refine aw_toe (nI (y0 / 100)) (nv_div (rfl) (rfl) (by omega) (by decide) (by decide)) ?_
                              refine aw_bipush (10) dX9_chain_184 (by decide) ?_
                              refine aw_irem dX9_chain_186 (by decide) ?_
                              refine aw_toe (nI ((y0 / 100) % 10)) (nv_rem (rfl) (rfl) (by omega) (by decide) (by decide)) ?_
                              refine aw_iconst (1) dX9_chain_187 (by decide) ?_
                              refine aw_isub dX9_chain_188 ?_
                              refine aw_toe (nI (((y0 / 100) % 10) - 1)) (nv_sub (rfl) (rfl) (by omega)) ?_
                              refine aw_istore [(12, .int (nI (((y0 / 100) % 10) - 1))), (11, .int 100), (10, .int (nI q)), (9, .int (nI fr)), (8, .int dv), (7, .int sv), (4, .int v), (3, .int (nI y0)), (0, .ref (G.1 + 88))] dX9_chain_189 (by decide) rfl ?_
                              refine aw_aload_n 8 dX9_chain_191 rfl rfl ?_
                              refine aw_iload 3 dX9_chain_192 rfl ?_
                              refine aw_iload 2 dX9_chain_194 rfl ?_
                              refine aw_iload 0 dX9_chain_196 rfl ?_
                              refine aw_uV [.int (nI fr), .int (nI q), .int (nI (((y0 / 100) % 10) - 1))] [] lX9_190 vX9_isSure mX9_isSure dX9_chain_198 (bX9_isSure (sp := sp) (fa := fa) (nb := nb) (ns := ns) (nm := nm) (nv := nv) (sh := sh) (ho := ho) (ow := ow) (sl := sl) (m := m) (ye := ye) (b1 := b1) (b2 := b2) (W := W) (Z := Z) (Ro := Ro) (Co := Co) (fi := fi) (lk := lk1) (su := su1) (jd := jd1) (wy := wy1) (a := fr) (b := ((y0 / 100) % 10) - 1) (i := q) f2568 f2570 f2571 f2572 f2573 f2574 f2575 f2576 f2577 f2578 f2579 f2580 f2581 f2582 hm hye (by omega) bb1 bb2 (by omega) (by omega) hfi (by omega) (by omega) (by omega) (by omega)) f2568 rfl rfl rfl (Nat.le_of_ble_eq_true rfl) (by decide) (by decide) rfl (fun r2650 h2651 q2649 => ?_)
                              obtain ⟨lk12645, su12646, jd12647, wy12648, f2652, f2653, f2654, f2655, k2656, p2657, u2658⟩ := q2649
                              have f2659 := rng_at k2656 (by decide) f2568
                              have f2660 := rng_at k2656 (by decide) f2569
                              have f2661 := rng_at k2656 (by decide) f2570
                              have f2662 := rng_at k2656 (by decide) f2571
                              have f2663 := rng_at k2656 (by decide) f2572
                              have f2664 := rng_at k2656 (by decide) f2573
                              have f2665 := rng_at k2656 (by decide) f2574
                              have f2666 := rng_at k2656 (by decide) f2575
                              have f2667 := rng_at k2656 (by decide) f2576
                              have f2668 := rng_at k2656 (by decide) f2577
                              have f2669 := rng_at k2656 (by decide) f2578
                              refine aw_istore [(13, .int r2650), (12, .int (nI (((y0 / 100) % 10) - 1))), (11, .int 100), (10, .int (nI q)), (9, .int (nI fr)), (8, .int dv), (7, .int sv), (4, .int v), (3, .int (nI y0)), (0, .ref (G.1 + 88))] dX9_chain_201 (by decide) rfl ?_
                              refine aw_aload_n 9 dX9_chain_203 rfl rfl ?_
                              refine aw_get fX9_53 dX9_chain_204 f2659 rfl ?_
                              refine aw_iload 3 dX9_chain_207 rfl ?_
                              refine aw_iald q (rfl) (by omega) (by decide) dX9_chain_209 f2654 ?_
                              refine aw_istore [(14, .int (jd12647 q)), (13, .int r2650), (12, .int (nI (((y0 / 100) % 10) - 1))), (11, .int 100), (10, .int (nI q)), (9, .int (nI fr)), (8, .int dv), (7, .int sv), (4, .int v), (3, .int (nI y0)), (0, .ref (G.1 + 88))] dX9_chain_210 (by decide) rfl ?_
                              refine aw_iload 0 dX9_chain_212 rfl ?_
                              refine aw_if_lt 256 dX9_chain_214 (by decide) (fun c214 => ?_) (fun c214 => ?_)
                              · have d214 := (j_lt (a := (jd12647 q).toInt) (b := (0)) (rfl) (rfl)).mp c214
                                refine aw_iload 0 dX9_chain_256 rfl ?_
                                refine aw_istore [(10, .int (jd12647 q)), (14, .int (jd12647 q)), (13, .int r2650), (12, .int (nI (((y0 / 100) % 10) - 1))), (11, .int 100), (9, .int (nI fr)), (8, .int dv), (7, .int sv), (4, .int v), (3, .int (nI y0)), (0, .ref (G.1 + 88))] dX9_chain_258 (by decide) rfl ?_
                                refine aw_iload 3 dX9_chain_260 rfl ?_
                                refine aw_istore [(9, .int (nI (((y0 / 100) % 10) - 1))), (10, .int (jd12647 q)), (14, .int (jd12647 q)), (13, .int r2650), (12, .int (nI (((y0 / 100) % 10) - 1))), (11, .int 100), (8, .int dv), (7, .int sv), (4, .int v), (3, .int (nI y0)), (0, .ref (G.1 + 88))] dX9_chain_262 (by decide) rfl ?_
                                refine aw_iload 5 dX9_chain_264 rfl ?_
                                refine aw_bipush (10) dX9_chain_266 (by decide) ?_
                                refine aw_idiv dX9_chain_268 (by decide) ?_
                                refine aw_toe 10 (by decide) ?_
                                refine aw_istore [(11, .int 10), (9, .int (nI (((y0 / 100) % 10) - 1))), (10, .int (jd12647 q)), (14, .int (jd12647 q)), (13, .int r2650), (12, .int (nI (((y0 / 100) % 10) - 1))), (8, .int dv), (7, .int sv), (4, .int v), (3, .int (nI y0)), (0, .ref (G.1 + 88))] dX9_chain_269 (by decide) rfl ?_
                                refine aw_goto 170 dX9_chain_271 (by decide) ?_
                                refine aw_lv [(11, .int 10), (10, .int (jd12647 q)), (9, .int (nI (((y0 / 100) % 10) - 1))), (8, .int dv), (7, .int sv), (4, .int v), (3, .int (nI y0)), (0, .ref (G.1 + 88))] [0, 2, 1, 6, 7, 8, 9, 10] rfl ?_
                                exact ih2584 2 (jd12647 q) (((y0 / 100) % 10) - 1) dv sv lk12645 su12646 jd12647 wy12648 _ (by omega) (by decide) (p2657 q bq) (by omega) (p2657) f2659 f2660 f2661 f2662 f2663 f2664 f2665 f2666 f2667 f2668 f2669 f2652 f2653 f2654 f2655 (rg2_tr (k2583) (rg2_w k2656 (by decide)))
                              · have d214 := mt (j_lt (a := (jd12647 q).toInt) (b := (0)) (rfl) (rfl)).mpr c214
                                obtain ⟨q2, bq2, eq2⟩ := pB_g p2657 (show q < 10 by omega) d214
                                rw [eq2]
                                refine aw_iinc (j := 7) (sv + 1) [(7, .int (sv + 1)), (14, .int (nI q2)), (13, .int r2650), (12, .int (nI (((y0 / 100) % 10) - 1))), (11, .int 100), (10, .int (nI q)), (9, .int (nI fr)), (8, .int dv), (4, .int v), (3, .int (nI y0)), (0, .ref (G.1 + 88))] dX9_chain_217 rfl (by rfl) (by decide) rfl ?_
                                refine aw_iload 7 dX9_chain_220 rfl ?_
                                refine aw_iconst (0) dX9_chain_222 (by decide) ?_
                                refine aw_bipush (100) dX9_chain_223 (by decide) ?_
                                refine aw_aload_n 10 dX9_chain_225 rfl rfl ?_
                                refine aw_iload 6 dX9_chain_226 rfl ?_
                                refine aw_iload 5 dX9_chain_228 rfl ?_
                                refine aw_iload 3 dX9_chain_230 rfl ?_
                                refine aw_iload 1 dX9_chain_232 rfl ?_
                                refine aw_uV [.int (nI fr), .int (nI q), .int (nI (((y0 / 100) % 10) - 1)), .int (nI q2)] [.int 100, .int 0, .int dv] lX9_166 vX9_likeOf mX9_likeOf dX9_chain_234 (bX9_likeOf (sp := sp) (fa := fa) (nb := nb) (ns := ns) (nm := nm) (nv := nv) (sh := sh) (ho := ho) (ow := ow) (sl := sl) (m := m) (ye := ye) (b1 := b1) (b2 := b2) (W := W) (Z := Z) (Ro := Ro) (Co := Co) (a := fr) (i := q) (b := ((y0 / 100) % 10) - 1) (k := q2) f2659 f2661 f2662 f2663 f2664 f2665 f2666 f2667 f2668 hm hye (by omega) bb1 bb2 (by omega) (by omega) (by omega) (by omega) (by omega) (by omega)) f2659 rfl rfl rfl (Nat.le_of_ble_eq_true rfl) (by decide) (by decide) rfl (fun r2671 h2672 q2670 => ?_)
                                obtain ⟨e2674, u2673⟩ := q2670
                                rw [e2674]
                                refine aw_isub dX9_chain_237 ?_
                                refine aw_mmax lX9_162 dX9_chain_238 (Nat.le_of_ble_eq_true rfl) (by decide) (by decide) ?_
                                refine aw_iload 2 dX9_chain_241 rfl ?_
                                refine aw_if_eq 250 dX9_chain_243 (by decide) (fun c243 => ?_) (fun c243 => ?_)
                                · have d243 := (j_eq (a := r2650.toInt) (b := (0)) (rfl) (rfl)).mp c243
                                  refine aw_bipush (50) dX9_chain_250 (by decide) ?_
                                  refine aw_iadd dX9_chain_252 ?_
                                  refine aw_iadd dX9_chain_253 ?_
                                  refine aw_istore [(8, .int (dv + ((if 0 < (100 - r2671) then (100 - r2671) else 0) + 50))), (7, .int (sv + 1)), (14, .int (nI q2)), (13, .int r2650), (12, .int (nI (((y0 / 100) % 10) - 1))), (11, .int 100), (10, .int (nI q)), (9, .int (nI fr)), (4, .int v), (3, .int (nI y0)), (0, .ref (G.1 + 88))] dX9_chain_254 (by decide) rfl ?_
                                  refine aw_iload 2 dX9_chain_256 rfl ?_
                                  refine aw_istore [(10, .int (nI q2)), (8, .int (dv + ((if 0 < (100 - r2671) then (100 - r2671) else 0) + 50))), (7, .int (sv + 1)), (14, .int (nI q2)), (13, .int r2650), (12, .int (nI (((y0 / 100) % 10) - 1))), (11, .int 100), (9, .int (nI fr)), (4, .int v), (3, .int (nI y0)), (0, .ref (G.1 + 88))] dX9_chain_258 (by decide) rfl ?_
                                  refine aw_iload 5 dX9_chain_260 rfl ?_
                                  refine aw_istore [(9, .int (nI (((y0 / 100) % 10) - 1))), (10, .int (nI q2)), (8, .int (dv + ((if 0 < (100 - r2671) then (100 - r2671) else 0) + 50))), (7, .int (sv + 1)), (14, .int (nI q2)), (13, .int r2650), (12, .int (nI (((y0 / 100) % 10) - 1))), (11, .int 100), (4, .int v), (3, .int (nI y0)), (0, .ref (G.1 + 88))] dX9_chain_262 (by decide) rfl ?_
                                  refine aw_iload 7 dX9_chain_264 rfl ?_
                                  refine aw_bipush (10) dX9_chain_266 (by decide) ?_
                                  refine aw_idiv dX9_chain_268 (by decide) ?_
                                  refine aw_toe 10 (by decide) ?_
                                  refine aw_istore [(11, .int 10), (9, .int (nI (((y0 / 100) % 10) - 1))), (10, .int (nI q2)), (8, .int (dv + ((if 0 < (100 - r2671) then (100 - r2671) else 0) + 50))), (7, .int (sv + 1)), (14, .int (nI q2)), (13, .int r2650), (12, .int (nI (((y0 / 100) % 10) - 1))), (4, .int v), (3, .int (nI y0)), (0, .ref (G.1 + 88))] dX9_chain_269 (by decide) rfl ?_
                                  refine aw_goto 170 dX9_chain_271 (by decide) ?_
                                  refine aw_lv [(11, .int 10), (10, .int (nI q2)), (9, .int (nI (((y0 / 100) % 10) - 1))), (8, .int (dv + ((if 0 < (100 - r2671) then (100 - r2671) else 0) + 50))), (7, .int (sv + 1)), (4, .int v), (3, .int (nI y0)), (0, .ref (G.1 + 88))] [0, 2, 1, 3, 4, 8, 9, 10] rfl ?_
                                  exact ih2584 2 (nI q2) (((y0 / 100) % 10) - 1) (dv + ((if 0 < (100 - r2671) then (100 - r2671) else 0) + 50)) (sv + 1) lk12645 su12646 jd12647 wy12648 _ (by omega) (by decide) (Or.inr ⟨_, bq2, rfl⟩) (by omega) (p2657) f2659 f2660 f2661 f2662 f2663 f2664 f2665 f2666 f2667 f2668 f2669 f2652 f2653 f2654 f2655 (rg2_tr (k2583) (rg2_w k2656 (by decide)))
                                · have d243 := mt (j_eq (a := r2650.toInt) (b := (0)) (rfl) (rfl)).mpr c243
                                  refine aw_iconst (0) dX9_chain_246 (by decide) ?_
                                  refine aw_goto 252 dX9_chain_247 (by decide) ?_
                                  refine aw_iadd dX9_chain_252 ?_
                                  refine aw_iadd dX9_chain_253 ?_
                                  refine aw_istore [(8, .int (dv + ((if 0 < (100 - r2671) then (100 - r2671) else 0) + 0))), (7, .int (sv + 1)), (14, .int (nI q2)), (13, .int r2650), (12, .int (nI (((y0 / 100) % 10) - 1))), (11, .int 100), (10, .int (nI q)), (9, .int (nI fr)), (4, .int v), (3, .int (nI y0)), (0, .ref (G.1 + 88))] dX9_chain_254 (by decide) rfl ?_
                                  refine aw_iload 2 dX9_chain_256 rfl ?_
                                  refine aw_istore [(10, .int (nI q2)), (8, .int (dv + ((if 0 < (100 - r2671) then (100 - r2671) else 0) + 0))), (7, .int (sv + 1)), (14, .int (nI q2)), (13, .int r2650), (12, .int (nI (((y0 / 100) % 10) - 1))), (11, .int 100), (9, .int (nI fr)), (4, .int v), (3, .int (nI y0)), (0, .ref (G.1 + 88))] dX9_chain_258 (by decide) rfl ?_
                                  refine aw_iload 5 dX9_chain_260 rfl ?_
                                  refine aw_istore [(9, .int (nI (((y0 / 100) % 10) - 1))), (10, .int (nI q2)), (8, .int (dv + ((if 0 < (100 - r2671) then (100 - r2671) else 0) + 0))), (7, .int (sv + 1)), (14, .int (nI q2)), (13, .int r2650), (12, .int (nI (((y0 / 100) % 10) - 1))), (11, .int 100), (4, .int v), (3, .int (nI y0)), (0, .ref (G.1 + 88))] dX9_chain_262 (by decide) rfl ?_
                                  refine aw_iload 7 dX9_chain_264 rfl ?_
                                  refine aw_bipush (10) dX9_chain_266 (by decide) ?_
                                  refine aw_idiv dX9_chain_268 (by decide) ?_
                                  refine aw_toe 10 (by decide) ?_
                                  refine aw_istore [(11, .int 10), (9, .int (nI (((y0 / 100) % 10) - 1))), (10, .int (nI q2)), (8, .int (dv + ((if 0 < (100 - r2671) then (100 - r2671) else 0) + 0))), (7, .int (sv + 1)), (14, .int (nI q2)), (13, .int r2650), (12, .int (nI (((y0 / 100) % 10) - 1))), (4, .int v), (3, .int (nI y0)), (0, .ref (G.1 + 88))] dX9_chain_269 (by decide) rfl ?_
                                  refine aw_goto 170 dX9_chain_271 (by decide) ?_
                                  refine aw_lv [(11, .int 10), (10, .int (nI q2)), (9, .int (nI (((y0 / 100) % 10) - 1))), (8, .int (dv + ((if 0 < (100 - r2671) then (100 - r2671) else 0) + 0))), (7, .int (sv + 1)), (4, .int v), (3, .int (nI y0)), (0, .ref (G.1 + 88))] [0, 2, 1, 3, 4, 8, 9, 10] rfl ?_
                                  exact ih2584 2 (nI q2) (((y0 / 100) % 10) - 1) (dv + ((if 0 < (100 - r2671) then (100 - r2671) else 0) + 0)) (sv + 1) lk12645 su12646 jd12647 wy12648 _ (by omega) (by decide) (Or.inr ⟨_, bq2, rfl⟩) (by omega) (p2657) f2659 f2660 f2661 f2662 f2663 f2664 f2665 f2666 f2667 f2668 f2669 f2652 f2653 f2654 f2655 (rg2_tr (k2583) (rg2_w k2656 (by decide)))
                      · have t123 := ite_0 c123
                        refine aw_aload_n 4 dX9_chain_126 rfl rfl ?_
                        refine aw_bipush (-2) dX9_chain_127 (by decide) ?_
                        refine aw_eV [.int (-2)] [] lX9_130 vX9_refuse mX9_refuse dX9_chain_129 (bX9_refuse (sp := sp) (fa := fa) (nb := nb) (ns := ns) (nm := nm) (nv := nv) (sh := sh) (ho := ho) (ow := ow) (sl := sl) (rg := rg) (x := (-2)) (q := 2) h88 h89 (by decide) (by decide)) h88 rfl rfl rfl (Nat.le_of_ble_eq_true rfl) (by decide) (by decide) rfl (fun h2677 q2676 => ?_)
                        obtain ⟨rg12675, f2678, k2679⟩ := q2676
                        have f2680 := rng_at k2679 (by decide) h88
                        have f2681 := rng_at k2679 (by decide) h90
                        have f2682 := rng_at k2679 (by decide) h91
                        have f2683 := rng_at k2679 (by decide) h93
                        have f2684 := rng_at k2679 (by decide) h94
                        have f2685 := rng_at k2679 (by decide) h95
                        have f2686 := rng_at k2679 (by decide) h96
                        have f2687 := rng_at k2679 (by decide) h97
                        have f2688 := rng_at k2679 (by decide) h98
                        have f2689 := rng_at k2679 (by decide) h92
                        have f2690 := rng_at k2679 (by decide) h99
                        have f2691 := rng_at k2679 (by decide) h100
                        have f2692 := rng_at k2679 (by decide) h101
                        have f2693 := rng_at k2679 (by decide) h102
                        subst hQF
                        exact aw_iret rfl dX9_chain_132 (by decide) (by decide) ⟨_, rfl, _, _, _, _, _, f2690, f2691, f2692, f2693, f2678, rg2_tr (rg2_rf 89 89 99 102 h) (rg2_w k2679 (by decide)), hjd, trivial⟩
                    · have t89 := ite_1e c89
                      refine aw_aload_n 4 dX9_chain_92 rfl rfl ?_
                      refine aw_iconst (-1) dX9_chain_93 (by decide) ?_
                      refine aw_eV [.int (-1)] [] lX9_130 vX9_refuse mX9_refuse dX9_chain_94 (bX9_refuse (sp := sp) (fa := fa) (nb := nb) (ns := ns) (nm := nm) (nv := nv) (sh := sh) (ho := ho) (ow := ow) (sl := sl) (rg := rg) (x := (-1)) (q := 1) h88 h89 (by decide) (by decide)) h88 rfl rfl rfl (Nat.le_of_ble_eq_true rfl) (by decide) (by decide) rfl (fun h2696 q2695 => ?_)
                      obtain ⟨rg12694, f2697, k2698⟩ := q2695
                      have f2699 := rng_at k2698 (by decide) h88
                      have f2700 := rng_at k2698 (by decide) h90
                      have f2701 := rng_at k2698 (by decide) h91
                      have f2702 := rng_at k2698 (by decide) h93
                      have f2703 := rng_at k2698 (by decide) h94
                      have f2704 := rng_at k2698 (by decide) h95
                      have f2705 := rng_at k2698 (by decide) h96
                      have f2706 := rng_at k2698 (by decide) h97
                      have f2707 := rng_at k2698 (by decide) h98
                      have f2708 := rng_at k2698 (by decide) h92
                      have f2709 := rng_at k2698 (by decide) h99
                      have f2710 := rng_at k2698 (by decide) h100
                      have f2711 := rng_at k2698 (by decide) h101
                      have f2712 := rng_at k2698 (by decide) h102
                      subst hQF
                      exact aw_iret rfl dX9_chain_97 (by decide) (by decide) ⟨_, rfl, _, _, _, _, _, f2709, f2710, f2711, f2712, f2697, rg2_tr (rg2_rf 89 89 99 102 h) (rg2_w k2698 (by decide)), hjd, trivial⟩
                · have t89 := ite_1e c89
                  refine aw_aload_n 4 dX9_chain_92 rfl rfl ?_
                  refine aw_iconst (-1) dX9_chain_93 (by decide) ?_
                  refine aw_eV [.int (-1)] [] lX9_130 vX9_refuse mX9_refuse dX9_chain_94 (bX9_refuse (sp := sp) (fa := fa) (nb := nb) (ns := ns) (nm := nm) (nv := nv) (sh := sh) (ho := ho) (ow := ow) (sl := sl) (rg := rg) (x := (-1)) (q := 1) h88 h89 (by decide) (by decide)) h88 rfl rfl rfl (Nat.le_of_ble_eq_true rfl) (by decide) (by decide) rfl (fun h2715 q2714 => ?_)
                  obtain ⟨rg12713, f2716, k2717⟩ := q2714
                  have f2718 := rng_at k2717 (by decide) h88
                  have f2719 := rng_at k2717 (by decide) h90
                  have f2720 := rng_at k2717 (by decide) h91
                  have f2721 := rng_at k2717 (by decide) h93
                  have f2722 := rng_at k2717 (by decide) h94
                  have f2723 := rng_at k2717 (by decide) h95
                  have f2724 := rng_at k2717 (by decide) h96
                  have f2725 := rng_at k2717 (by decide) h97
                  have f2726 := rng_at k2717 (by decide) h98
                  have f2727 := rng_at k2717 (by decide) h92
                  have f2728 := rng_at k2717 (by decide) h99
                  have f2729 := rng_at k2717 (by decide) h100
                  have f2730 := rng_at k2717 (by decide) h101
                  have f2731 := rng_at k2717 (by decide) h102
                  subst hQF
                  exact aw_iret rfl dX9_chain_97 (by decide) (by decide) ⟨_, rfl, _, _, _, _, _, f2728, f2729, f2730, f2731, f2716, rg2_tr (rg2_rf 89 89 99 102 h) (rg2_w k2717 (by decide)), hjd, trivial⟩
            · have t89 := ite_1e c89
              refine aw_aload_n 4 dX9_chain_92 rfl rfl ?_
              refine aw_iconst (-1) dX9_chain_93 (by decide) ?_
              refine aw_eV [.int (-1)] [] lX9_130 vX9_refuse mX9_refuse dX9_chain_94 (bX9_refuse (sp := sp) (fa := fa) (nb := nb) (ns := ns) (nm := nm) (nv := nv) (sh := sh) (ho := ho) (ow := ow) (sl := sl) (rg := rg) (x := (-1)) (q := 1) h88 h89 (by decide) (by decide)) h88 rfl rfl rfl (Nat.le_of_ble_eq_true rfl) (by decide) (by decide) rfl (fun h2734 q2733 => ?_)
              obtain ⟨rg12732, f2735, k2736⟩ := q2733
              have f2737 := rng_at k2736 (by decide) h88
              have f2738 := rng_at k2736 (by decide) h90
              have f2739 := rng_at k2736 (by decide) h91
              have f2740 := rng_at k2736 (by decide) h93
              have f2741 := rng_at k2736 (by decide) h94
              have f2742 := rng_at k2736 (by decide) h95
              have f2743 := rng_at k2736 (by decide) h96
              have f2744 := rng_at k2736 (by decide) h97
              have f2745 := rng_at k2736 (by decide) h98
              have f2746 := rng_at k2736 (by decide) h92
              have f2747 := rng_at k2736 (by decide) h99
              have f2748 := rng_at k2736 (by decide) h100
              have f2749 := rng_at k2736 (by decide) h101
              have f2750 := rng_at k2736 (by decide) h102
              subst hQF
              exact aw_iret rfl dX9_chain_97 (by decide) (by decide) ⟨_, rfl, _, _, _, _, _, f2747, f2748, f2749, f2750, f2735, rg2_tr (rg2_rf 89 89 99 102 h) (rg2_w k2736 (by decide)), hjd, trivial⟩
      · have d18 := mt (j_le (a := y.toInt) (b := (999)) (rfl) (rfl)).mpr c18
        refine aw_aload_n 0 dX9_chain_21 rfl rfl ?_
        refine aw_iconst (-1) dX9_chain_22 (by decide) ?_
        refine aw_eV [.int (-1)] [] lX9_130 vX9_refuse mX9_refuse dX9_chain_23 (bX9_refuse (sp := sp) (fa := fa) (nb := nb) (ns := ns) (nm := nm) (nv := nv) (sh := sh) (ho := ho) (ow := ow) (sl := sl) (rg := rg) (x := (-1)) (q := 1) h88 h89 (by decide) (by decide)) h88 rfl rfl rfl (Nat.le_of_ble_eq_true rfl) (by decide) (by decide) rfl (fun h2753 q2752 => ?_)
        obtain ⟨rg12751, f2754, k2755⟩ := q2752
        have f2756 := rng_at k2755 (by decide) h88
        have f2757 := rng_at k2755 (by decide) h90
        have f2758 := rng_at k2755 (by decide) h91
        have f2759 := rng_at k2755 (by decide) h93
        have f2760 := rng_at k2755 (by decide) h94
        have f2761 := rng_at k2755 (by decide) h95
        have f2762 := rng_at k2755 (by decide) h96
        have f2763 := rng_at k2755 (by decide) h97
        have f2764 := rng_at k2755 (by decide) h98
        have f2765 := rng_at k2755 (by decide) h92
        have f2766 := rng_at k2755 (by decide) h99
        have f2767 := rng_at k2755 (by decide) h100
        have f2768 := rng_at k2755 (by decide) h101
        have f2769 := rng_at k2755 (by decide) h102
        subst hQF
        exact aw_iret rfl dX9_chain_26 (by decide) (by decide) ⟨_, rfl, _, _, _, _, _, f2766, f2767, f2768, f2769, f2754, rg2_tr (rg2_rf 89 89 99 102 h) (rg2_w k2755 (by decide)), hjd, trivial⟩
