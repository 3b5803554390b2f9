set_option maxHeartbeats 4000000 in
theorem oX9_chain {l : Launch} {G : xG} {h : List va_E} {sp fa nb ns nm nv sh : Nat} {ho ow sl : Int32} {rg : Nat → Int32} {m ye b1 b2 : Nat → Nat} {W Z Ro Co : Nat → Int32} {fi : Nat → Nat} {lk su jd wy : Nat → Int32} {a i y v : Int32} (h88 : h[88]? = some (oB 9 (lM G (nI sp) (nI fa) (nI nb) (nI ns) (nI nm) ho ow sl (nI nv) (nI sh)))) (h89 : h[89]? = some (aI 7 rg)) (h90 : h[90]? = some (aI 20 (nA m))) (h91 : h[91]? = some (aI 4 (nA ye))) (h93 : h[93]? = some (aI 40 W)) (h94 : h[94]? = some (aI 40 Z)) (h95 : h[95]? = some (aI 40 Ro)) (h96 : h[96]? = some (aI 40 Co)) (h97 : h[97]? = some (aI 30 (nA b1))) (h98 : h[98]? = some (aI 30 (nA b2))) (h92 : h[92]? = some (aI 4 (nA fi))) (h99 : h[99]? = some (aI 100 lk)) (h100 : h[100]? = some (aI 11264 su)) (h101 : h[101]? = some (aI 10 jd)) (h102 : h[102]? = some (aI 11264 wy)) (hm : ∀ j, j < 20 → m j ≤ j) (hye : ∀ j, j < 4 → ye j < 1901) (hnb : nb ≤ 30) (bb1 : ∀ j, j < 30 → b1 j < 40) (bb2 : ∀ j, j < 30 → b2 j < 40) (hfi : ∀ j, j < 4 → fi j < 11) (hjd : pB jd) : CU l G yX9_chain cX9_chain 15 (some .int) 6 0 0 [.ref (G.1 + 88), .int a, .int i, .int y, .int v] h (fun r h1 => ∃ lk1 : Nat → Int32, ∃ su1 : Nat → Int32, ∃ jd1 : Nat → Int32, ∃ wy1 : Nat → Int32, ∃ rg1 : Nat → Int32, h1[99]? = some (aI 100 lk1) ∧ h1[100]? = some (aI 11264 su1) ∧ h1[101]? = some (aI 10 jd1) ∧ h1[102]? = some (aI 11264 wy1) ∧ h1[89]? = some (aI 7 rg1) ∧ rg2 89 89 99 102 h h1 ∧ pB jd1 ∧ True) := by
  refine cm_ofQ rfl (Nat.le_of_ble_eq_true rfl) [(0, .ref (G.1 + 88)), (1, .int a), (2, .int i), (3, .int y), (4, .int v)] rfl (fun QF hQF => ?_)
  refine aw_aload_n 0 dX9_chain_0 rfl rfl ?_
  refine aw_iload_n 1 dX9_chain_1 rfl rfl ?_
  refine aw_iload_n 2 dX9_chain_2 rfl rfl ?_
  refine aw_dV [.int a, .int i] [] lX9_145 vX9_isEntry mX9_isEntry dX9_chain_3 (bX9_isEntry (sp := sp) (fa := fa) (nb := nb) (ns := ns) (nm := nm) (nv := nv) (sh := sh) (ho := ho) (ow := ow) (sl := sl) (fi := fi) (c := a) (i := i) h88 h92 hfi) h88 rfl rfl rfl (Nat.le_of_ble_eq_true rfl) (by decide) (by decide) rfl ?_
  refine aw_if_eq 21 dX9_chain_6 (by decide) (fun c6 => ?_) (fun c6 => ?_)
  · have t6 := ite_0 c6
    refine aw_aload_n 0 dX9_chain_21 rfl rfl ?_
    refine aw_iconst (-1) dX9_chain_22 (by decide) ?_
    refine aw_eV [.int (-1)] [] lX9_130 vX9_refuse mX9_refuse dX9_chain_23 (bX9_refuse (sp := sp) (fa := fa) (nb := nb) (ns := ns) (nm := nm) (nv := nv) (sh := sh) (ho := ho) (ow := ow) (sl := sl) (rg := rg) (x := (-1)) (q := 1) h88 h89 (by decide) (by decide)) h88 rfl rfl rfl (Nat.le_of_ble_eq_true rfl) (by decide) (by decide) rfl (fun h2194 q2193 => ?_)
    obtain ⟨rg12192, f2195, k2196⟩ := q2193
    have f2197 := rng_at k2196 (by decide) h88
    have f2198 := rng_at k2196 (by decide) h90
    have f2199 := rng_at k2196 (by decide) h91
    have f2200 := rng_at k2196 (by decide) h93
    have f2201 := rng_at k2196 (by decide) h94
    have f2202 := rng_at k2196 (by decide) h95
    have f2203 := rng_at k2196 (by decide) h96
    have f2204 := rng_at k2196 (by decide) h97
    have f2205 := rng_at k2196 (by decide) h98
    have f2206 := rng_at k2196 (by decide) h92
    have f2207 := rng_at k2196 (by decide) h99
    have f2208 := rng_at k2196 (by decide) h100
    have f2209 := rng_at k2196 (by decide) h101
    have f2210 := rng_at k2196 (by decide) h102
    subst hQF
    exact aw_iret rfl dX9_chain_26 (by decide) (by decide) ⟨_, rfl, _, _, _, _, _, f2207, f2208, f2209, f2210, f2195, rg2_tr (rg2_rf 89 89 99 102 h) (rg2_w k2196 (by decide)), hjd, trivial⟩
  · have t6 := ite_1 c6
    refine aw_iload_n 3 dX9_chain_9 rfl rfl ?_
    refine aw_iconst (1) dX9_chain_10 (by decide) ?_
    refine aw_icmp_lt 21 dX9_chain_11 (by decide) (fun c11 => ?_) (fun c11 => ?_)
    · have d11 := (j_lt (a := y.toInt) (b := (1)) (rfl) (rfl)).mp c11
      refine aw_aload_n 0 dX9_chain_21 rfl rfl ?_
      refine aw_iconst (-1) dX9_chain_22 (by decide) ?_
      refine aw_eV [.int (-1)] [] lX9_130 vX9_refuse mX9_refuse dX9_chain_23 (bX9_refuse (sp := sp) (fa := fa) (nb := nb) (ns := ns) (nm := nm) (nv := nv) (sh := sh) (ho := ho) (ow := ow) (sl := sl) (rg := rg) (x := (-1)) (q := 1) h88 h89 (by decide) (by decide)) h88 rfl rfl rfl (Nat.le_of_ble_eq_true rfl) (by decide) (by decide) rfl (fun h2213 q2212 => ?_)
      obtain ⟨rg12211, f2214, k2215⟩ := q2212
      have f2216 := rng_at k2215 (by decide) h88
      have f2217 := rng_at k2215 (by decide) h90
      have f2218 := rng_at k2215 (by decide) h91
      have f2219 := rng_at k2215 (by decide) h93
      have f2220 := rng_at k2215 (by decide) h94
      have f2221 := rng_at k2215 (by decide) h95
      have f2222 := rng_at k2215 (by decide) h96
      have f2223 := rng_at k2215 (by decide) h97
      have f2224 := rng_at k2215 (by decide) h98
      have f2225 := rng_at k2215 (by decide) h92
      have f2226 := rng_at k2215 (by decide) h99
      have f2227 := rng_at k2215 (by decide) h100
      have f2228 := rng_at k2215 (by decide) h101
      have f2229 := rng_at k2215 (by decide) h102
      subst hQF
      exact aw_iret rfl dX9_chain_26 (by decide) (by decide) ⟨_, rfl, _, _, _, _, _, f2226, f2227, f2228, f2229, f2214, rg2_tr (rg2_rf 89 89 99 102 h) (rg2_w k2215 (by decide)), hjd, trivial⟩
    · have d11 := mt (j_lt (a := y.toInt) (b := (1)) (rfl) (rfl)).mpr c11
      refine aw_iload_n 3 dX9_chain_14 rfl rfl ?_
      refine aw_sipush (999) dX9_chain_15 (by decide) ?_
      refine aw_icmp_le 27 dX9_chain_18 (by decide) (fun c18 => ?_) (fun c18 => ?_)
      · have d18 := (j_le (a := y.toInt) (b := (999)) (rfl) (rfl)).mp c18
        have fa0 := hfi (tn a) (by unfold tn; omega)
        obtain ⟨a0, bb_a0, ee_a0⟩ := i_nat (x := a) (N := 4) (by omega) (by omega)
        subst ee_a0
        have tt_a0 : (nI a0).toInt = (a0 : Int) := nI_toInt (by omega)
        have nn_a0 : tn (nI a0) = a0 := tn_nI (by omega)
        rw [nn_a0] at t6 fa0
        obtain ⟨i0, bb_i0, ee_i0⟩ := i_nat (x := i) (N := 10) (by omega) (by omega)
        subst ee_i0
        have tt_i0 : (nI i0).toInt = (i0 : Int) := nI_toInt (by omega)
        have nn_i0 : tn (nI i0) = i0 := tn_nI (by omega)
        obtain ⟨y0, bb_y0, ee_y0⟩ := i_nat (x := y) (N := 1000) (by omega) (by omega)
        subst ee_y0
        have tt_y0 : (nI y0).toInt = (y0 : Int) := nI_toInt (by omega)
        have nn_y0 : tn (nI y0) = y0 := tn_nI (by omega)
        have pw := pw4 a0 (by omega)
        refine aw_iconst (1) dX9_chain_27 (by decide) ?_
        refine aw_iload_n 1 dX9_chain_28 rfl rfl ?_
        refine aw_ishl dX9_chain_29 ?_
        refine aw_toe (nI (2 ^ a0)) (nv_shl1 (rfl) (by omega)) ?_
        refine aw_istore [(5, .int (nI (2 ^ a0))), (0, .ref (G.1 + 88)), (1, .int (nI a0)), (2, .int (nI i0)), (3, .int (nI y0)), (4, .int v)] dX9_chain_30 (by decide) rfl ?_
        refine aw_iload_n 4 dX9_chain_32 rfl rfl ?_
        refine aw_bipush (99) dX9_chain_33 (by decide) ?_
        refine aw_icmp_le 42 dX9_chain_35 (by decide) (fun c35 => ?_) (fun c35 => ?_)
        · have d35 := (nv_le (a := y0) (b := 99) (rfl) (rfl) (by omega) (by omega)).mp c35
          refine aw_iload_n 4 dX9_chain_42 rfl rfl ?_
          refine aw_bipush (9) dX9_chain_43 (by decide) ?_
          refine aw_icmp_le 52 dX9_chain_45 (by decide) (fun c45 => ?_) (fun c45 => ?_)
          · have d45 := (nv_le (a := y0) (b := 9) (rfl) (rfl) (by omega) (by omega)).mp c45
            refine aw_iconst (1) dX9_chain_52 (by decide) ?_
            refine aw_istore [(6, .int 1), (5, .int (nI (2 ^ a0))), (0, .ref (G.1 + 88)), (1, .int (nI a0)), (2, .int (nI i0)), (3, .int (nI y0)), (4, .int v)] dX9_chain_53 (by decide) rfl ?_
            refine aw_iload_n 5 dX9_chain_55 rfl rfl ?_
            refine aw_istore [(7, .int (nI y0)), (6, .int 1), (5, .int (nI (2 ^ a0))), (0, .ref (G.1 + 88)), (1, .int (nI a0)), (2, .int (nI i0)), (3, .int (nI y0)), (4, .int v)] dX9_chain_56 (by decide) rfl ?_
            refine aw_iload 0 dX9_chain_58 rfl ?_
            refine aw_if_le 117 dX9_chain_60 (by decide) (fun c60 => absurd c60 (by simp only [i_le, (nI_toInt (n := y0) (by omega)), (show (0 : Int32).toInt = 0 from rfl)] <;> omega)) (fun c60 => ?_)
            refine aw_iload 0 dX9_chain_63 rfl ?_
            refine aw_bipush (10) dX9_chain_65 (by decide) ?_
            refine aw_irem dX9_chain_67 (by decide) ?_
            refine aw_toe (nI (y0 % 10)) (nv_rem (rfl) (rfl) (by omega) (by decide) (by decide)) ?_
            refine aw_iconst (1) dX9_chain_68 (by decide) ?_
            refine aw_isub dX9_chain_69 ?_
            refine aw_istore [(8, .int ((nI (y0 % 10)) - 1)), (7, .int (nI y0)), (6, .int 1), (5, .int (nI (2 ^ a0))), (0, .ref (G.1 + 88)), (1, .int (nI a0)), (2, .int (nI i0)), (3, .int (nI y0)), (4, .int v)] dX9_chain_70 (by decide) rfl ?_
            refine aw_iload 0 dX9_chain_72 rfl ?_
            refine aw_iconst (4) dX9_chain_74 (by decide) ?_
            refine aw_dS [.int ((nI (y0 % 10)) - 1), .int 4] [] lX9_126 sX9_isIn mX9_isIn dX9_chain_75 (bX9_isIn (x := (nI (y0 % 10)) - 1) (n := 4) (by omega)) rfl (Nat.le_of_ble_eq_true rfl) (by decide) (by decide) rfl ?_
            refine aw_if_eq 92 dX9_chain_78 (by decide) (fun c78 => ?_) (fun c78 => ?_)
            · have t78 := ite_0 c78
              refine aw_aload_n 4 dX9_chain_92 rfl rfl ?_
              refine aw_iconst (-1) dX9_chain_93 (by decide) ?_
              refine aw_eV [.int (-1)] [] lX9_130 vX9_refuse mX9_refuse dX9_chain_94 (bX9_refuse (sp := sp) (fa := fa) (nb := nb) (ns := ns) (nm := nm) (nv := nv) (sh := sh) (ho := ho) (ow := ow) (sl := sl) (rg := rg) (x := (-1)) (q := 1) h88 h89 (by decide) (by decide)) h88 rfl rfl rfl (Nat.le_of_ble_eq_true rfl) (by decide) (by decide) rfl (fun h2232 q2231 => ?_)
              obtain ⟨rg12230, f2233, k2234⟩ := q2231
              have f2235 := rng_at k2234 (by decide) h88
              have f2236 := rng_at k2234 (by decide) h90
              have f2237 := rng_at k2234 (by decide) h91
              have f2238 := rng_at k2234 (by decide) h93
              have f2239 := rng_at k2234 (by decide) h94
              have f2240 := rng_at k2234 (by decide) h95
              have f2241 := rng_at k2234 (by decide) h96
              have f2242 := rng_at k2234 (by decide) h97
              have f2243 := rng_at k2234 (by decide) h98
              have f2244 := rng_at k2234 (by decide) h92
              have f2245 := rng_at k2234 (by decide) h99
              have f2246 := rng_at k2234 (by decide) h100
              have f2247 := rng_at k2234 (by decide) h101
              have f2248 := rng_at k2234 (by decide) h102
              subst hQF
              exact aw_iret rfl dX9_chain_97 (by decide) (by decide) ⟨_, rfl, _, _, _, _, _, f2245, f2246, f2247, f2248, f2233, rg2_tr (rg2_rf 89 89 99 102 h) (rg2_w k2234 (by decide)), hjd, trivial⟩
            · have t78 := ite_1 c78
              have g0 : 1 ≤ y0 % 10 ∧ y0 % 10 ≤ 4 := by rw [dig_i (by omega)] at t78; omega
              rw [dig_e g0.1]
              refine aw_iload 3 dX9_chain_81 rfl ?_
              refine aw_iload 0 dX9_chain_83 rfl ?_
              refine aw_ishr dX9_chain_85 ?_
              refine aw_iconst (1) dX9_chain_86 (by decide) ?_
              refine aw_iand dX9_chain_87 ?_
              refine aw_toe (if (2 ^ a0).testBit (y0 % 10 - 1) = true then 1 else 0) (nv_bit (rfl) (rfl) (by omega) (by omega)) ?_
              refine aw_iconst (1) dX9_chain_88 (by decide) ?_
              refine aw_icmp_ne 98 dX9_chain_89 (by decide) (fun c89 => ?_) (fun c89 => ?_)
              · have t89 := ite_0e c89
                have w1 := or_16 (a := 2 ^ a0) (b := y0 % 10 - 1) (by omega) (by omega)
                refine aw_iload 3 dX9_chain_98 rfl ?_
                refine aw_iconst (1) dX9_chain_100 (by decide) ?_
                refine aw_iload 0 dX9_chain_101 rfl ?_
                refine aw_ishl dX9_chain_103 ?_
                refine aw_toe (nI (2 ^ (y0 % 10 - 1))) (nv_shl1 (rfl) (by omega)) ?_
                refine aw_ior dX9_chain_104 ?_
                refine aw_toe (nI ((2 ^ a0) ||| (2 ^ (y0 % 10 - 1)))) (nv_or (rfl) (rfl)) ?_
                refine aw_istore [(5, .int (nI ((2 ^ a0) ||| (2 ^ (y0 % 10 - 1))))), (8, .int (nI (y0 % 10 - 1))), (7, .int (nI y0)), (6, .int 1), (0, .ref (G.1 + 88)), (1, .int (nI a0)), (2, .int (nI i0)), (3, .int (nI y0)), (4, .int v)] dX9_chain_105 (by decide) rfl ?_
                refine aw_iload 2 dX9_chain_107 rfl ?_
                refine aw_bipush (10) dX9_chain_109 (by decide) ?_
                refine aw_idiv dX9_chain_111 (by decide) ?_
                refine aw_toe (nI (y0 / 10)) (nv_div (rfl) (rfl) (by omega) (by decide) (by decide)) ?_
                refine aw_istore [(7, .int (nI (y0 / 10))), (5, .int (nI ((2 ^ a0) ||| (2 ^ (y0 % 10 - 1))))), (8, .int (nI (y0 % 10 - 1))), (6, .int 1), (0, .ref (G.1 + 88)), (1, .int (nI a0)), (2, .int (nI i0)), (3, .int (nI y0)), (4, .int v)] dX9_chain_112 (by decide) rfl ?_
                refine aw_goto 58 dX9_chain_114 (by decide) ?_
                refine aw_iload 0 dX9_chain_58 rfl ?_
                refine aw_if_le 117 dX9_chain_60 (by decide) (fun c60 => ?_) (fun c60 => absurd (by simp only [i_le, (nI_toInt (n := y0 / 10) (by omega)), (show (0 : Int32).toInt = 0 from rfl)] <;> omega) c60)
                refine aw_iload 8 dX9_chain_117 rfl ?_
                refine aw_iconst (3) dX9_chain_119 (by decide) ?_
                refine aw_dS [.int v, .int 3] [] lX9_126 sX9_isIn mX9_isIn dX9_chain_120 (bX9_isIn (x := v) (n := 3) (by omega)) rfl (Nat.le_of_ble_eq_true rfl) (by decide) (by decide) rfl ?_
                refine aw_if_ne 133 dX9_chain_123 (by decide) (fun c123 => ?_) (fun c123 => ?_)
                · have t123 := ite_1 c123
                  refine aw_iconst (0) dX9_chain_133 (by decide) ?_
                  refine aw_istore [(7, .int 0), (5, .int (nI ((2 ^ a0) ||| (2 ^ (y0 % 10 - 1))))), (8, .int (nI (y0 % 10 - 1))), (6, .int 1), (0, .ref (G.1 + 88)), (1, .int (nI a0)), (2, .int (nI i0)), (3, .int (nI y0)), (4, .int v)] dX9_chain_134 (by decide) rfl ?_
                  refine aw_iconst (0) dX9_chain_136 (by decide) ?_
                  refine aw_istore [(8, .int 0), (7, .int 0), (5, .int (nI ((2 ^ a0) ||| (2 ^ (y0 % 10 - 1))))), (6, .int 1), (0, .ref (G.1 + 88)), (1, .int (nI a0)), (2, .int (nI i0)), (3, .int (nI y0)), (4, .int v)] dX9_chain_137 (by decide) rfl ?_
                  refine aw_iload_n 5 dX9_chain_139 rfl rfl ?_
                  refine aw_istore [(9, .int (nI a0)), (8, .int 0), (7, .int 0), (5, .int (nI ((2 ^ a0) ||| (2 ^ (y0 % 10 - 1))))), (6, .int 1), (0, .ref (G.1 + 88)), (1, .int (nI a0)), (2, .int (nI i0)), (3, .int (nI y0)), (4, .int v)] dX9_chain_140 (by decide) rfl ?_
                  refine aw_iload_n 7 dX9_chain_142 rfl rfl ?_
                  refine aw_istore [(10, .int (nI i0)), (9, .int (nI a0)), (8, .int 0), (7, .int 0), (5, .int (nI ((2 ^ a0) ||| (2 ^ (y0 % 10 - 1))))), (6, .int 1), (0, .ref (G.1 + 88)), (1, .int (nI a0)), (2, .int (nI i0)), (3, .int (nI y0)), (4, .int v)] dX9_chain_143 (by decide) rfl ?_
                  refine aw_iload 5 dX9_chain_145 rfl ?_
                  refine aw_iconst (3) dX9_chain_147 (by decide) ?_
                  refine aw_icmp_ne 156 dX9_chain_148 (by decide) (fun c148 => ?_) (fun c148 => absurd c148 (by decide))
                  refine aw_iload 5 dX9_chain_156 rfl ?_
                  refine aw_iconst (2) dX9_chain_158 (by decide) ?_
                  refine aw_icmp_ne 167 dX9_chain_159 (by decide) (fun c159 => ?_) (fun c159 => absurd c159 (by decide))
                  refine aw_iconst (1) dX9_chain_167 (by decide) ?_
                  refine aw_istore [(11, .int 1), (10, .int (nI i0)), (9, .int (nI a0)), (8, .int 0), (7, .int 0), (5, .int (nI ((2 ^ a0) ||| (2 ^ (y0 % 10 - 1))))), (6, .int 1), (0, .ref (G.1 + 88)), (1, .int (nI a0)), (2, .int (nI i0)), (3, .int (nI y0)), (4, .int v)] dX9_chain_168 (by decide) rfl ?_
                  refine aw_lv [(11, .int 1), (10, .int (nI i0)), (9, .int (nI a0)), (8, .int 0), (7, .int 0), (4, .int v), (3, .int (nI y0)), (0, .ref (G.1 + 88))] [0, 1, 2, 3, 4, 11, 10, 7] rfl ?_
                  suffices L2266 : ∀ (mm : Nat) (x : Nat) (ev : Int32) (fr : Nat) (dv : Int32) (sv : Int32) (lk1 : Nat → Int32) (su1 : Nat → Int32) (jd1 : Nat → Int32) (wy1 : Nat → Int32) (h2249 : List va_E), x < mm → (x = 0 ∨ x = 1) → (ev = -9 ∨ ∃ q, q < 10 ∧ ev = nI q) → (fr < 4) → (pB jd1) → h2249[88]? = some (oB 9 (lM G (nI sp) (nI fa) (nI nb) (nI ns) (nI nm) ho ow sl (nI nv) (nI sh))) → h2249[89]? = some (aI 7 rg) → h2249[90]? = some (aI 20 (nA m)) → h2249[91]? = some (aI 4 (nA ye)) → h2249[93]? = some (aI 40 W) → h2249[94]? = some (aI 40 Z) → h2249[95]? = some (aI 40 Ro) → h2249[96]? = some (aI 40 Co) → h2249[97]? = some (aI 30 (nA b1)) → h2249[98]? = some (aI 30 (nA b2)) → h2249[92]? = some (aI 4 (nA fi)) → h2249[99]? = some (aI 100 lk1) → h2249[100]? = some (aI 11264 su1) → h2249[101]? = some (aI 10 jd1) → h2249[102]? = some (aI 11264 wy1) → rg2 89 89 99 102 h h2249 → AW l G yX9_chain cX9_chain 15 (some .int) (xR 6 0 0) (fun _ _ => True) QF 0 0 170 [(11, .int (nI (p10 x))), (10, .int ev), (9, .int (nI fr)), (8, .int dv), (7, .int sv), (4, .int v), (3, .int (nI y0)), (0, .ref (G.1 + 88))] [] h2249 from L2266 (1 + 1) 1 (nI i0) a0 0 0 lk su jd wy _ (Nat.lt_succ_self _) (by decide) (Or.inr ⟨_, by omega, rfl⟩) (by omega) (hjd) h88 h89 h90 h91 h93 h94 h95 h96 h97 h98 h92 h99 h100 h101 h102 (rg2_rf 89 89 99 102 h)
                  intro mm
                  induction mm with
                  | zero =>
                    intro x ev fr dv sv lk1 su1 jd1 wy1 h2249 hmm hx he bfr hp f2250 f2251 f2252 f2253 f2254 f2255 f2256 f2257 f2258 f2259 f2260 f2261 f2262 f2263 f2264 k2265
                    exact absurd hmm (Nat.not_lt_zero _)
                  | succ mm ih2266 =>
                    intro x ev fr dv sv lk1 su1 jd1 wy1 h2249 hmm hx he bfr hp f2250 f2251 f2252 f2253 f2254 f2255 f2256 f2257 f2258 f2259 f2260 f2261 f2262 f2263 f2264 k2265
                    rcases hx with rfl | rfl
                    · refine aw_lv [(11, .int 0), (10, .int ev), (9, .int (nI fr)), (8, .int dv), (7, .int sv), (4, .int v), (3, .int (nI y0)), (0, .ref (G.1 + 88))] [0, 1, 2, 3, 4, 5, 6, 7] rfl ?_
                      refine aw_iload 0 dX9_chain_170 rfl ?_
                      refine aw_if_le 274 dX9_chain_172 (by decide) (fun c172 => ?_) (fun c172 => absurd (by decide) c172)
                      refine aw_iload 5 dX9_chain_274 rfl ?_
                      refine aw_if_ne 284 dX9_chain_276 (by decide) (fun c276 => ?_) (fun c276 => ?_)
                      · have d276 := mt (j_eq (a := v.toInt) (b := (0)) (rfl) (rfl)).mpr c276
                        refine aw_iload 5 dX9_chain_284 rfl ?_
                        refine aw_iconst (1) dX9_chain_286 (by decide) ?_
                        refine aw_icmp_ne 295 dX9_chain_287 (by decide) (fun c287 => ?_) (fun c287 => ?_)
                        · have d287 := mt (j_eq (a := v.toInt) (b := (1)) (rfl) (rfl)).mpr c287
                          refine aw_iload 3 dX9_chain_295 rfl ?_
                          subst hQF
                          exact aw_iret rfl dX9_chain_297 (by decide) (by decide) ⟨_, rfl, _, _, _, _, _, f2261, f2262, f2263, f2264, f2251, k2265, hp, trivial⟩
                        · have d287 := (j_eq (a := v.toInt) (b := (1)) (rfl) (rfl)).mp c287
                          refine aw_iload 4 dX9_chain_290 rfl ?_
                          refine aw_goto 297 dX9_chain_292 (by decide) ?_
                          subst hQF
                          exact aw_iret rfl dX9_chain_297 (by decide) (by decide) ⟨_, rfl, _, _, _, _, _, f2261, f2262, f2263, f2264, f2251, k2265, hp, trivial⟩
                      · have d276 := (j_eq (a := v.toInt) (b := (0)) (rfl) (rfl)).mp c276
                        refine aw_iload 1 dX9_chain_279 rfl ?_
                        refine aw_goto 297 dX9_chain_281 (by decide) ?_
                        subst hQF
                        exact aw_iret rfl dX9_chain_297 (by decide) (by decide) ⟨_, rfl, _, _, _, _, _, f2261, f2262, f2263, f2264, f2251, k2265, hp, trivial⟩
                    · refine aw_lv [(11, .int 1), (10, .int ev), (9, .int (nI fr)), (8, .int dv), (7, .int sv), (4, .int v), (3, .int (nI y0)), (0, .ref (G.1 + 88))] [0, 1, 2, 3, 4, 5, 6, 7] rfl ?_
                      refine aw_iload 0 dX9_chain_170 rfl ?_
                      refine aw_if_le 274 dX9_chain_172 (by decide) (fun c172 => absurd c172 (by decide)) (fun c172 => ?_)
                      refine aw_iload 1 dX9_chain_175 rfl ?_
                      refine aw_if_lt 274 dX9_chain_177 (by decide) (fun c177 => ?_) (fun c177 => ?_)
                      · have d177 := (j_lt (a := ev.toInt) (b := (0)) (rfl) (rfl)).mp c177
                        refine aw_iload 5 dX9_chain_274 rfl ?_
                        refine aw_if_ne 284 dX9_chain_276 (by decide) (fun c276 => ?_) (fun c276 => ?_)
                        · have d276 := mt (j_eq (a := v.toInt) (b := (0)) (rfl) (rfl)).mpr c276
                          refine aw_iload 5 dX9_chain_284 rfl ?_
                          refine aw_iconst (1) dX9_chain_286 (by decide) ?_
                          refine aw_icmp_ne 295 dX9_chain_287 (by decide) (fun c287 => ?_) (fun c287 => ?_)
                          · have d287 := mt (j_eq (a := v.toInt) (b := (1)) (rfl) (rfl)).mpr c287
                            refine aw_iload 3 dX9_chain_295 rfl ?_
                            subst hQF
                            exact aw_iret rfl dX9_chain_297 (by decide) (by decide) ⟨_, rfl, _, _, _, _, _, f2261, f2262, f2263, f2264, f2251, k2265, hp, trivial⟩
                          · have d287 := (j_eq (a := v.toInt) (b := (1)) (rfl) (rfl)).mp c287
                            refine aw_iload 4 dX9_chain_290 rfl ?_
                            refine aw_goto 297 dX9_chain_292 (by decide) ?_
                            subst hQF
                            exact aw_iret rfl dX9_chain_297 (by decide) (by decide) ⟨_, rfl, _, _, _, _, _, f2261, f2262, f2263, f2264, f2251, k2265, hp, trivial⟩
                        · have d276 := (j_eq (a := v.toInt) (b := (0)) (rfl) (rfl)).mp c276
                          refine aw_iload 1 dX9_chain_279 rfl ?_
                          refine aw_goto 297 dX9_chain_281 (by decide) ?_
                          subst hQF
                          exact aw_iret rfl dX9_chain_297 (by decide) (by decide) ⟨_, rfl, _, _, _, _, _, f2261, f2262, f2263, f2264, f2251, k2265, hp, trivial⟩
                      · have d177 := mt (j_lt (a := ev.toInt) (b := (0)) (rfl) (rfl)).mpr c177
                        obtain ⟨q, bq, rfl⟩ := he.resolve_left (fun e => by rw [e] at d177; exact d177 (by decide))
                        refine aw_iload_n 6 dX9_chain_180 rfl rfl ?_
                        refine aw_iload 0 dX9_chain_181 rfl ?_
                        refine aw_idiv dX9_chain_183 (by decide) ?_
                        refine aw_toe (nI (y0 / 1)) (nv_div (rfl) (rfl) (by omega) (by decide) (by decide)) ?_
                        refine aw_bipush (10) dX9_chain_184 (by decide) ?_
                        refine aw_irem dX9_chain_186 (by decide) ?_
                        refine aw_toe (nI ((y0 / 1) % 10)) (nv_rem (rfl) (rfl) (by omega) (by decide) (by decide)) ?_
                        refine aw_iconst (1) dX9_chain_187 (by decide) ?_
                        refine aw_isub dX9_chain_188 ?_
                        refine aw_toe (nI (((y0 / 1) % 10) - 1)) (nv_sub (rfl) (rfl) (by omega)) ?_
                        refine aw_istore [(12, .int (nI (((y0 / 1) % 10) - 1))), (11, .int 1), (10, .int (nI q)), (9, .int (nI fr)), (8, .int dv), (7, .int sv), (4, .int v), (3, .int (nI y0)), (0, .ref (G.1 + 88))] dX9_chain_189 (by decide) rfl ?_
                        refine aw_aload_n 8 dX9_chain_191 rfl rfl ?_
                        refine aw_iload 3 dX9_chain_192 rfl ?_
                        refine aw_iload 2 dX9_chain_194 rfl ?_
                        refine aw_iload 0 dX9_chain_196 rfl ?_
                        refine aw_uV [.int (nI fr), .int (nI q), .int (nI (((y0 / 1) % 10) - 1))] [] lX9_190 vX9_isSure mX9_isSure dX9_chain_198 (bX9_isSure (sp := sp) (fa := fa) (nb := nb) (ns := ns) (nm := nm) (nv := nv) (sh := sh) (ho := ho) (ow := ow) (sl := sl) (m := m) (ye := ye) (b1 := b1) (b2 := b2) (W := W) (Z := Z) (Ro := Ro) (Co := Co) (fi := fi) (lk := lk1) (su := su1) (jd := jd1) (wy := wy1) (a := fr) (b := ((y0 / 1) % 10) - 1) (i := q) f2250 f2252 f2253 f2254 f2255 f2256 f2257 f2258 f2259 f2260 f2261 f2262 f2263 f2264 hm hye (by omega) bb1 bb2 hfi (by omega) (by omega) (by omega) (by omega)) f2250 rfl rfl rfl (Nat.le_of_ble_eq_true rfl) (by decide) (by decide) rfl (fun r2272 h2273 q2271 => ?_)
                        obtain ⟨lk12267, su12268, jd12269, wy12270, f2274, f2275, f2276, f2277, k2278, p2279, u2280⟩ := q2271
                        have f2281 := rng_at k2278 (by decide) f2250
                        have f2282 := rng_at k2278 (by decide) f2251
                        have f2283 := rng_at k2278 (by decide) f2252
                        have f2284 := rng_at k2278 (by decide) f2253
                        have f2285 := rng_at k2278 (by decide) f2254
                        have f2286 := rng_at k2278 (by decide) f2255
                        have f2287 := rng_at k2278 (by decide) f2256
                        have f2288 := rng_at k2278 (by decide) f2257
                        have f2289 := rng_at k2278 (by decide) f2258
                        have f2290 := rng_at k2278 (by decide) f2259
                        have f2291 := rng_at k2278 (by decide) f2260
                        refine aw_istore [(13, .int r2272), (12, .int (nI (((y0 / 1) % 10) - 1))), (11, .int 1), (10, .int (nI q)), (9, .int (nI fr)), (8, .int dv), (7, .int sv), (4, .int v), (3, .int (nI y0)), (0, .ref (G.1 + 88))] dX9_chain_201 (by decide) rfl ?_
                        refine aw_aload_n 9 dX9_chain_203 rfl rfl ?_
                        refine aw_get fX9_53 dX9_chain_204 f2281 rfl ?_
                        refine aw_iload 3 dX9_chain_207 rfl ?_
                        refine aw_iald q (rfl) (by omega) (by decide) dX9_chain_209 f2276 ?_
                        refine aw_istore [(14, .int (jd12269 q)), (13, .int r2272), (12, .int (nI (((y0 / 1) % 10) - 1))), (11, .int 1), (10, .int (nI q)), (9, .int (nI fr)), (8, .int dv), (7, .int sv), (4, .int v), (3, .int (nI y0)), (0, .ref (G.1 + 88))] dX9_chain_210 (by decide) rfl ?_
                        refine aw_iload 0 dX9_chain_212 rfl ?_
                        refine aw_if_lt 256 dX9_chain_214 (by decide) (fun c214 => ?_) (fun c214 => ?_)
                        · have d214 := (j_lt (a := (jd12269 q).toInt) (b := (0)) (rfl) (rfl)).mp c214
                          refine aw_iload 0 dX9_chain_256 rfl ?_
                          refine aw_istore [(10, .int (jd12269 q)), (14, .int (jd12269 q)), (13, .int r2272), (12, .int (nI (((y0 / 1) % 10) - 1))), (11, .int 1), (9, .int (nI fr)), (8, .int dv), (7, .int sv), (4, .int v), (3, .int (nI y0)), (0, .ref (G.1 + 88))] dX9_chain_258 (by decide) rfl ?_
                          refine aw_iload 3 dX9_chain_260 rfl ?_
                          refine aw_istore [(9, .int (nI (((y0 / 1) % 10) - 1))), (10, .int (jd12269 q)), (14, .int (jd12269 q)), (13, .int r2272), (12, .int (nI (((y0 / 1) % 10) - 1))), (11, .int 1), (8, .int dv), (7, .int sv), (4, .int v), (3, .int (nI y0)), (0, .ref (G.1 + 88))] dX9_chain_262 (by decide) rfl ?_
                          refine aw_iload 5 dX9_chain_264 rfl ?_
                          refine aw_bipush (10) dX9_chain_266 (by decide) ?_
                          refine aw_idiv dX9_chain_268 (by decide) ?_
                          refine aw_toe 0 (by decide) ?_
                          refine aw_istore [(11, .int 0), (9, .int (nI (((y0 / 1) % 10) - 1))), (10, .int (jd12269 q)), (14, .int (jd12269 q)), (13, .int r2272), (12, .int (nI (((y0 / 1) % 10) - 1))), (8, .int dv), (7, .int sv), (4, .int v), (3, .int (nI y0)), (0, .ref (G.1 + 88))] dX9_chain_269 (by decide) rfl ?_
                          refine aw_goto 170 dX9_chain_271 (by decide) ?_
                          refine aw_lv [(11, .int 0), (10, .int (jd12269 q)), (9, .int (nI (((y0 / 1) % 10) - 1))), (8, .int dv), (7, .int sv), (4, .int v), (3, .int (nI y0)), (0, .ref (G.1 + 88))] [0, 2, 1, 6, 7, 8, 9, 10] rfl ?_
                          exact ih2266 0 (jd12269 q) (((y0 / 1) % 10) - 1) dv sv lk12267 su12268 jd12269 wy12270 _ (by omega) (by decide) (p2279 q bq) (by omega) (p2279) f2281 f2282 f2283 f2284 f2285 f2286 f2287 f2288 f2289 f2290 f2291 f2274 f2275 f2276 f2277 (rg2_tr (k2265) (rg2_w k2278 (by decide)))
                        · have d214 := mt (j_lt (a := (jd12269 q).toInt) (b := (0)) (rfl) (rfl)).mpr c214
                          obtain ⟨q2, bq2, eq2⟩ := pB_g p2279 (show q < 10 by omega) d214
                          rw [eq2]
                          refine aw_iinc (j := 7) (sv + 1) [(7, .int (sv + 1)), (14, .int (nI q2)), (13, .int r2272), (12, .int (nI (((y0 / 1) % 10) - 1))), (11, .int 1), (10, .int (nI q)), (9, .int (nI fr)), (8, .int dv), (4, .int v), (3, .int (nI y0)), (0, .ref (G.1 + 88))] dX9_chain_217 rfl (by rfl) (by decide) rfl ?_
                          refine aw_iload 7 dX9_chain_220 rfl ?_
                          refine aw_iconst (0) dX9_chain_222 (by decide) ?_
                          refine aw_bipush (100) dX9_chain_223 (by decide) ?_
                          refine aw_aload_n 10 dX9_chain_225 rfl rfl ?_
                          refine aw_iload 6 dX9_chain_226 rfl ?_
                          refine aw_iload 5 dX9_chain_228 rfl ?_
                          refine aw_iload 3 dX9_chain_230 rfl ?_
                          refine aw_iload 1 dX9_chain_232 rfl ?_
                          refine aw_uV [.int (nI fr), .int (nI q), .int (nI (((y0 / 1) % 10) - 1)), .int (nI q2)] [.int 100, .int 0, .int dv] lX9_166 vX9_likeOf mX9_likeOf dX9_chain_234 (bX9_likeOf (sp := sp) (fa := fa) (nb := nb) (ns := ns) (nm := nm) (nv := nv) (sh := sh) (ho := ho) (ow := ow) (sl := sl) (m := m) (ye := ye) (b1 := b1) (b2 := b2) (W := W) (Z := Z) (Ro := Ro) (Co := Co) (a := fr) (i := q) (b := ((y0 / 1) % 10) - 1) (k := q2) f2281 f2283 f2284 f2285 f2286 f2287 f2288 f2289 f2290 hm hye (by omega) bb1 bb2 (by omega) (by omega) (by omega) (by omega)) f2281 rfl rfl rfl (Nat.le_of_ble_eq_true rfl) (by decide) (by decide) rfl (fun r2293 h2294 q2292 => ?_)
                          obtain ⟨rfl, u2295⟩ := q2292
                          refine aw_isub dX9_chain_237 ?_
                          refine aw_mmax lX9_162 dX9_chain_238 (Nat.le_of_ble_eq_true rfl) (by decide) (by decide) ?_
                          refine aw_iload 2 dX9_chain_241 rfl ?_
                          refine aw_if_eq 250 dX9_chain_243 (by decide) (fun c243 => ?_) (fun c243 => ?_)
                          · have d243 := (j_eq (a := r2272.toInt) (b := (0)) (rfl) (rfl)).mp c243
                            refine aw_bipush (50) dX9_chain_250 (by decide) ?_
                            refine aw_iadd dX9_chain_252 ?_
                            refine aw_iadd dX9_chain_253 ?_
                            refine aw_istore [(8, .int (dv + ((if 0 < (100 - r2293) then (100 - r2293) else 0) + 50))), (7, .int (sv + 1)), (14, .int (nI q2)), (13, .int r2272), (12, .int (nI (((y0 / 1) % 10) - 1))), (11, .int 1), (10, .int (nI q)), (9, .int (nI fr)), (4, .int v), (3, .int (nI y0)), (0, .ref (G.1 + 88))] dX9_chain_254 (by decide) rfl ?_
                            refine aw_iload 2 dX9_chain_256 rfl ?_
                            refine aw_istore [(10, .int (nI q2)), (8, .int (dv + ((if 0 < (100 - r2293) then (100 - r2293) else 0) + 50))), (7, .int (sv + 1)), (14, .int (nI q2)), (13, .int r2272), (12, .int (nI (((y0 / 1) % 10) - 1))), (11, .int 1), (9, .int (nI fr)), (4, .int v), (3, .int (nI y0)), (0, .ref (G.1 + 88))] dX9_chain_258 (by decide) rfl ?_
                            refine aw_iload 5 dX9_chain_260 rfl ?_
                            refine aw_istore [(9, .int (nI (((y0 / 1) % 10) - 1))), (10, .int (nI q2)), (8, .int (dv + ((if 0 < (100 - r2293) then (100 - r2293) else 0) + 50))), (7, .int (sv + 1)), (14, .int (nI q2)), (13, .int r2272), (12, .int (nI (((y0 / 1) % 10) - 1))), (11, .int 1), (4, .int v), (3, .int (nI y0)), (0, .ref (G.1 + 88))] dX9_chain_262 (by decide) rfl ?_
                            refine aw_iload 7 dX9_chain_264 rfl ?_
                            refine aw_bipush (10) dX9_chain_266 (by decide) ?_
                            refine aw_idiv dX9_chain_268 (by decide) ?_
                            refine aw_toe 0 (by decide) ?_
                            refine aw_istore [(11, .int 0), (9, .int (nI (((y0 / 1) % 10) - 1))), (10, .int (nI q2)), (8, .int (dv + ((if 0 < (100 - r2293) then (100 - r2293) else 0) + 50))), (7, .int (sv + 1)), (14, .int (nI q2)), (13, .int r2272), (12, .int (nI (((y0 / 1) % 10) - 1))), (4, .int v), (3, .int (nI y0)), (0, .ref (G.1 + 88))] dX9_chain_269 (by decide) rfl ?_
                            refine aw_goto 170 dX9_chain_271 (by decide) ?_
                            refine aw_lv [(11, .int 0), (10, .int (nI q2)), (9, .int (nI (((y0 / 1) % 10) - 1))), (8, .int (dv + ((if 0 < (100 - r2293) then (100 - r2293) else 0) + 50))), (7, .int (sv + 1)), (4, .int v), (3, .int (nI y0)), (0, .ref (G.1 + 88))] [0, 2, 1, 3, 4, 8, 9, 10] rfl ?_
                            exact ih2266 0 (nI q2) (((y0 / 1) % 10) - 1) (dv + ((if 0 < (100 - r2293) then (100 - r2293) else 0) + 50)) (sv + 1) lk12267 su12268 jd12269 wy12270 _ (by omega) (by decide) (Or.inr ⟨_, bq2, rfl⟩) (by omega) (p2279) f2281 f2282 f2283 f2284 f2285 f2286 f2287 f2288 f2289 f2290 f2291 f2274 f2275 f2276 f2277 (rg2_tr (k2265) (rg2_w k2278 (by decide)))
                          · have d243 := mt (j_eq (a := r2272.toInt) (b := (0)) (rfl) (rfl)).mpr c243
                            refine aw_iconst (0) dX9_chain_246 (by decide) ?_
                            refine aw_goto 252 dX9_chain_247 (by decide) ?_
                            refine aw_iadd dX9_chain_252 ?_
                            refine aw_iadd dX9_chain_253 ?_
                            refine aw_istore [(8, .int (dv + ((if 0 < (100 - r2293) then (100 - r2293) else 0) + 0))), (7, .int (sv + 1)), (14, .int (nI q2)), (13, .int r2272), (12, .int (nI (((y0 / 1) % 10) - 1))), (11, .int 1), (10, .int (nI q)), (9, .int (nI fr)), (4, .int v), (3, .int (nI y0)), (0, .ref (G.1 + 88))] dX9_chain_254 (by decide) rfl ?_
                            refine aw_iload 2 dX9_chain_256 rfl ?_
                            refine aw_istore [(10, .int (nI q2)), (8, .int (dv + ((if 0 < (100 - r2293) then (100 - r2293) else 0) + 0))), (7, .int (sv + 1)), (14, .int (nI q2)), (13, .int r2272), (12, .int (nI (((y0 / 1) % 10) - 1))), (11, .int 1), (9, .int (nI fr)), (4, .int v), (3, .int (nI y0)), (0, .ref (G.1 + 88))] dX9_chain_258 (by decide) rfl ?_
                            refine aw_iload 5 dX9_chain_260 rfl ?_
                            refine aw_istore [(9, .int (nI (((y0 / 1) % 10) - 1))), (10, .int (nI q2)), (8, .int (dv + ((if 0 < (100 - r2293) then (100 - r2293) else 0) + 0))), (7, .int (sv + 1)), (14, .int (nI q2)), (13, .int r2272), (12, .int (nI (((y0 / 1) % 10) - 1))), (11, .int 1), (4, .int v), (3, .int (nI y0)), (0, .ref (G.1 + 88))] dX9_chain_262 (by decide) rfl ?_
                            refine aw_iload 7 dX9_chain_264 rfl ?_
                            refine aw_bipush (10) dX9_chain_266 (by decide) ?_
                            refine aw_idiv dX9_chain_268 (by decide) ?_
                            refine aw_toe 0 (by decide) ?_
                            refine aw_istore [(11, .int 0), (9, .int (nI (((y0 / 1) % 10) - 1))), (10, .int (nI q2)), (8, .int (dv + ((if 0 < (100 - r2293) then (100 - r2293) else 0) + 0))), (7, .int (sv + 1)), (14, .int (nI q2)), (13, .int r2272), (12, .int (nI (((y0 / 1) % 10) - 1))), (4, .int v), (3, .int (nI y0)), (0, .ref (G.1 + 88))] dX9_chain_269 (by decide) rfl ?_
                            refine aw_goto 170 dX9_chain_271 (by decide) ?_
                            refine aw_lv [(11, .int 0), (10, .int (nI q2)), (9, .int (nI (((y0 / 1) % 10) - 1))), (8, .int (dv + ((if 0 < (100 - r2293) then (100 - r2293) else 0) + 0))), (7, .int (sv + 1)), (4, .int v), (3, .int (nI y0)), (0, .ref (G.1 + 88))] [0, 2, 1, 3, 4, 8, 9, 10] rfl ?_
                            exact ih2266 0 (nI q2) (((y0 / 1) % 10) - 1) (dv + ((if 0 < (100 - r2293) then (100 - r2293) else 0) + 0)) (sv + 1) lk12267 su12268 jd12269 wy12270 _ (by omega) (by decide) (Or.inr ⟨_, bq2, rfl⟩) (by omega) (p2279) f2281 f2282 f2283 f2284 f2285 f2286 f2287 f2288 f2289 f2290 f2291 f2274 f2275 f2276 f2277 (rg2_tr (k2265) (rg2_w k2278 (by decide)))
                · have t123 := ite_0 c123
                  refine aw_aload_n 4 dX9_chain_126 rfl rfl ?_
                  refine aw_bipush (-2) dX9_chain_127 (by decide) ?_
                  refine aw_eV [.int (-2)] [] lX9_130 vX9_refuse mX9_refuse dX9_chain_129 (bX9_refuse (sp := sp) (fa := fa) (nb := nb) (ns := ns) (nm := nm) (nv := nv) (sh := sh) (ho := ho) (ow := ow) (sl := sl) (rg := rg) (x := (-2)) (q := 2) h88 h89 (by decide) (by decide)) h88 rfl rfl rfl (Nat.le_of_ble_eq_true rfl) (by decide) (by decide) rfl (fun h2298 q2297 => ?_)
                  obtain ⟨rg12296, f2299, k2300⟩ := q2297
                  have f2301 := rng_at k2300 (by decide) h88
                  have f2302 := rng_at k2300 (by decide) h90
                  have f2303 := rng_at k2300 (by decide) h91
                  have f2304 := rng_at k2300 (by decide) h93
                  have f2305 := rng_at k2300 (by decide) h94
                  have f2306 := rng_at k2300 (by decide) h95
                  have f2307 := rng_at k2300 (by decide) h96
                  have f2308 := rng_at k2300 (by decide) h97
                  have f2309 := rng_at k2300 (by decide) h98
                  have f2310 := rng_at k2300 (by decide) h92
                  have f2311 := rng_at k2300 (by decide) h99
                  have f2312 := rng_at k2300 (by decide) h100
                  have f2313 := rng_at k2300 (by decide) h101
                  have f2314 := rng_at k2300 (by decide) h102
                  subst hQF
                  exact aw_iret rfl dX9_chain_132 (by decide) (by decide) ⟨_, rfl, _, _, _, _, _, f2311, f2312, f2313, f2314, f2299, rg2_tr (rg2_rf 89 89 99 102 h) (rg2_w k2300 (by decide)), hjd, trivial⟩
              · have t89 := ite_1e c89
                refine aw_aload_n 4 dX9_chain_92 rfl rfl ?_
                refine aw_iconst (-1) dX9_chain_93 (by decide) ?_
                refine aw_eV [.int (-1)] [] lX9_130 vX9_refuse mX9_refuse dX9_chain_94 (bX9_refuse (sp := sp) (fa := fa) (nb := nb) (ns := ns) (nm := nm) (nv := nv) (sh := sh) (ho := ho) (ow := ow) (sl := sl) (rg := rg) (x := (-1)) (q := 1) h88 h89 (by decide) (by decide)) h88 rfl rfl rfl (Nat.le_of_ble_eq_true rfl) (by decide) (by decide) rfl (fun h2317 q2316 => ?_)
                obtain ⟨rg12315, f2318, k2319⟩ := q2316
                have f2320 := rng_at k2319 (by decide) h88
                have f2321 := rng_at k2319 (by decide) h90
                have f2322 := rng_at k2319 (by decide) h91
                have f2323 := rng_at k2319 (by decide) h93
                have f2324 := rng_at k2319 (by decide) h94
                have f2325 := rng_at k2319 (by decide) h95
                have f2326 := rng_at k2319 (by decide) h96
                have f2327 := rng_at k2319 (by decide) h97
                have f2328 := rng_at k2319 (by decide) h98
                have f2329 := rng_at k2319 (by decide) h92
                have f2330 := rng_at k2319 (by decide) h99
                have f2331 := rng_at k2319 (by decide) h100
                have f2332 := rng_at k2319 (by decide) h101
                have f2333 := rng_at k2319 (by decide) h102
                subst hQF
                exact aw_iret rfl dX9_chain_97 (by decide) (by decide) ⟨_, rfl, _, _, _, _, _, f2330, f2331, f2332, f2333, f2318, rg2_tr (rg2_rf 89 89 99 102 h) (rg2_w k2319 (by decide)), hjd, trivial⟩
          · have d45 := mt (nv_le (a := y0) (b := 9) (rfl) (rfl) (by omega) (by omega)).mpr c45
            refine aw_iconst (2) dX9_chain_48 (by decide) ?_
            refine aw_goto 53 dX9_chain_49 (by decide) ?_
            refine aw_istore [(6, .int 2), (5, .int (nI (2 ^ a0))), (0, .ref (G.1 + 88)), (1, .int (nI a0)), (2, .int (nI i0)), (3, .int (nI y0)), (4, .int v)] dX9_chain_53 (by decide) rfl ?_
            refine aw_iload_n 5 dX9_chain_55 rfl rfl ?_
            refine aw_istore [(7, .int (nI y0)), (6, .int 2), (5, .int (nI (2 ^ a0))), (0, .ref (G.1 + 88)), (1, .int (nI a0)), (2, .int (nI i0)), (3, .int (nI y0)), (4, .int v)] dX9_chain_56 (by decide) rfl ?_
            refine aw_iload 0 dX9_chain_58 rfl ?_
            refine aw_if_le 117 dX9_chain_60 (by decide) (fun c60 => absurd c60 (by simp only [i_le, (nI_toInt (n := y0) (by omega)), (show (0 : Int32).toInt = 0 from rfl)] <;> omega)) (fun c60 => ?_)
            refine aw_iload 0 dX9_chain_63 rfl ?_
            refine aw_bipush (10) dX9_chain_65 (by decide) ?_
            refine aw_irem dX9_chain_67 (by decide) ?_
            refine aw_toe (nI (y0 % 10)) (nv_rem (rfl) (rfl) (by omega) (by decide) (by decide)) ?_
            refine aw_iconst (1) dX9_chain_68 (by decide) ?_
            refine aw_isub dX9_chain_69 ?_
            refine aw_istore [(8, .int ((nI (y0 % 10)) - 1)), (7, .int (nI y0)), (6, .int 2), (5, .int (nI (2 ^ a0))), (0, .ref (G.1 + 88)), (1, .int (nI a0)), (2, .int (nI i0)), (3, .int (nI y0)), (4, .int v)] dX9_chain_70 (by decide) rfl ?_
            refine aw_iload 0 dX9_chain_72 rfl ?_
            refine aw_iconst (4) dX9_chain_74 (by decide) ?_
            refine aw_dS [.int ((nI (y0 % 10)) - 1), .int 4] [] lX9_126 sX9_isIn mX9_isIn dX9_chain_75 (bX9_isIn (x := (nI (y0 % 10)) - 1) (n := 4) (by omega)) rfl (Nat.le_of_ble_eq_true rfl) (by decide) (by decide) rfl ?_
            refine aw_if_eq 92 dX9_chain_78 (by decide) (fun c78 => ?_) (fun c78 => ?_)
            · have t78 := ite_0 c78
              refine aw_aload_n 4 dX9_chain_92 rfl rfl ?_
              refine aw_iconst (-1) dX9_chain_93 (by decide) ?_
              refine aw_eV [.int (-1)] [] lX9_130 vX9_refuse mX9_refuse dX9_chain_94 (bX9_refuse (sp := sp) (fa := fa) (nb := nb) (ns := ns) (nm := nm) (nv := nv) (sh := sh) (ho := ho) (ow := ow) (sl := sl) (rg := rg) (x := (-1)) (q := 1) h88 h89 (by decide) (by decide)) h88 rfl rfl rfl (Nat.le_of_ble_eq_true rfl) (by decide) (by decide) rfl (fun h2336 q2335 => ?_)
              obtain ⟨rg12334, f2337, k2338⟩ := q2335
              have f2339 := rng_at k2338 (by decide) h88
              have f2340 := rng_at k2338 (by decide) h90
              have f2341 := rng_at k2338 (by decide) h91
              have f2342 := rng_at k2338 (by decide) h93
              have f2343 := rng_at k2338 (by decide) h94
              have f2344 := rng_at k2338 (by decide) h95
              have f2345 := rng_at k2338 (by decide) h96
              have f2346 := rng_at k2338 (by decide) h97
              have f2347 := rng_at k2338 (by decide) h98
              have f2348 := rng_at k2338 (by decide) h92
              have f2349 := rng_at k2338 (by decide) h99
              have f2350 := rng_at k2338 (by decide) h100
              have f2351 := rng_at k2338 (by decide) h101
              have f2352 := rng_at k2338 (by decide) h102
              subst hQF
              exact aw_iret rfl dX9_chain_97 (by decide) (by decide) ⟨_, rfl, _, _, _, _, _, f2349, f2350, f2351, f2352, f2337, rg2_tr (rg2_rf 89 89 99 102 h) (rg2_w k2338 (by decide)), hjd, trivial⟩
            · have t78 := ite_1 c78
              have g0 : 1 ≤ y0 % 10 ∧ y0 % 10 ≤ 4 := by rw [dig_i (by omega)] at t78; omega
              rw [dig_e g0.1]
              refine aw_iload 3 dX9_chain_81 rfl ?_
              refine aw_iload 0 dX9_chain_83 rfl ?_
              refine aw_ishr dX9_chain_85 ?_
              refine aw_iconst (1) dX9_chain_86 (by decide) ?_
              refine aw_iand dX9_chain_87 ?_
              refine aw_toe (if (2 ^ a0).testBit (y0 % 10 - 1) = true then 1 else 0) (nv_bit (rfl) (rfl) (by omega) (by omega)) ?_
              refine aw_iconst (1) dX9_chain_88 (by decide) ?_
              refine aw_icmp_ne 98 dX9_chain_89 (by decide) (fun c89 => ?_) (fun c89 => ?_)
              · have t89 := ite_0e c89
                have w1 := or_16 (a := 2 ^ a0) (b := y0 % 10 - 1) (by omega) (by omega)
                refine aw_iload 3 dX9_chain_98 rfl ?_
                refine aw_iconst (1) dX9_chain_100 (by decide) ?_
                refine aw_iload 0 dX9_chain_101 rfl ?_
                refine aw_ishl dX9_chain_103 ?_
                refine aw_toe (nI (2 ^ (y0 % 10 - 1))) (nv_shl1 (rfl) (by omega)) ?_
                refine aw_ior dX9_chain_104 ?_
                refine aw_toe (nI ((2 ^ a0) ||| (2 ^ (y0 % 10 - 1)))) (nv_or (rfl) (rfl)) ?_
                refine aw_istore [(5, .int (nI ((2 ^ a0) ||| (2 ^ (y0 % 10 - 1))))), (8, .int (nI (y0 % 10 - 1))), (7, .int (nI y0)), (6, .int 2), (0, .ref (G.1 + 88)), (1, .int (nI a0)), (2, .int (nI i0)), (3, .int (nI y0)), (4, .int v)] dX9_chain_105 (by decide) rfl ?_
                refine aw_iload 2 dX9_chain_107 rfl ?_
                refine aw_bipush (10) dX9_chain_109 (by decide) ?_
                refine aw_idiv dX9_chain_111 (by decide) ?_
                refine aw_toe (nI (y0 / 10)) (nv_div (rfl) (rfl) (by omega) (by decide) (by decide)) ?_
                refine aw_istore [(7, .int (nI (y0 / 10))), (5, .int (nI ((2 ^ a0) ||| (2 ^ (y0 % 10 - 1))))), (8, .int (nI (y0 % 10 - 1))), (6, .int 2), (0, .ref (G.1 + 88)), (1, .int (nI a0)), (2, .int (nI i0)), (3, .int (nI y0)), (4, .int v)] dX9_chain_112 (by decide) rfl ?_
                refine aw_goto 58 dX9_chain_114 (by decide) ?_
                refine aw_iload 0 dX9_chain_58 rfl ?_
                refine aw_if_le 117 dX9_chain_60 (by decide) (fun c60 => absurd c60 (by simp only [i_le, (nI_toInt (n := y0 / 10) (by omega)), (show (0 : Int32).toInt = 0 from rfl)] <;> omega)) (fun c60 => ?_)
                refine aw_iload 0 dX9_chain_63 rfl ?_
                refine aw_bipush (10) dX9_chain_65 (by decide) ?_
                refine aw_irem dX9_chain_67 (by decide) ?_
                refine aw_toe (nI ((y0 / 10) % 10)) (nv_rem (rfl) (rfl) (by omega) (by decide) (by decide)) ?_
                refine aw_iconst (1) dX9_chain_68 (by decide) ?_
                refine aw_isub dX9_chain_69 ?_
                refine aw_istore [(8, .int ((nI ((y0 / 10) % 10)) - 1)), (7, .int (nI (y0 / 10))), (5, .int (nI ((2 ^ a0) ||| (2 ^ (y0 % 10 - 1))))), (6, .int 2), (0, .ref (G.1 + 88)), (1, .int (nI a0)), (2, .int (nI i0)), (3, .int (nI y0)), (4, .int v)] dX9_chain_70 (by decide) rfl ?_
                refine aw_iload 0 dX9_chain_72 rfl ?_
                refine aw_iconst (4) dX9_chain_74 (by decide) ?_
                refine aw_dS [.int ((nI ((y0 / 10) % 10)) - 1), .int 4] [] lX9_126 sX9_isIn mX9_isIn dX9_chain_75 (bX9_isIn (x := (nI ((y0 / 10) % 10)) - 1) (n := 4) (by omega)) rfl (Nat.le_of_ble_eq_true rfl) (by decide) (by decide) rfl ?_
                refine aw_if_eq 92 dX9_chain_78 (by decide) (fun c78 => ?_) (fun c78 => ?_)
                · have t78 := ite_0 c78
                  refine aw_aload_n 4 dX9_chain_92 rfl rfl ?_
                  refine aw_iconst (-1) dX9_chain_93 (by decide) ?_
                  refine aw_eV [.int (-1)] [] lX9_130 vX9_refuse mX9_refuse dX9_chain_94 (bX9_refuse (sp := sp) (fa := fa) (nb := nb) (ns := ns) (nm := nm) (nv := nv) (sh := sh) (ho := ho) (ow := ow) (sl := sl) (rg := rg) (x := (-1)) (q := 1) h88 h89 (by decide) (by decide)) h88 rfl rfl rfl (Nat.le_of_ble_eq_true rfl) (by decide) (by decide) rfl (fun h2355 q2354 => ?_)
                  obtain ⟨rg12353, f2356, k2357⟩ := q2354
                  have f2358 := rng_at k2357 (by decide) h88
                  have f2359 := rng_at k2357 (by decide) h90
                  have f2360 := rng_at k2357 (by decide) h91
                  have f2361 := rng_at k2357 (by decide) h93
                  have f2362 := rng_at k2357 (by decide) h94
                  have f2363 := rng_at k2357 (by decide) h95
                  have f2364 := rng_at k2357 (by decide) h96
                  have f2365 := rng_at k2357 (by decide) h97
                  have f2366 := rng_at k2357 (by decide) h98
                  have f2367 := rng_at k2357 (by decide) h92
                  have f2368 := rng_at k2357 (by decide) h99
                  have f2369 := rng_at k2357 (by decide) h100
                  have f2370 := rng_at k2357 (by decide) h101
                  have f2371 := rng_at k2357 (by decide) h102
                  subst hQF
                  exact aw_iret rfl dX9_chain_97 (by decide) (by decide) ⟨_, rfl, _, _, _, _, _, f2368, f2369, f2370, f2371, f2356, rg2_tr (rg2_rf 89 89 99 102 h) (rg2_w k2357 (by decide)), hjd, trivial⟩
                · have t78 := ite_1 c78
                  have g1 : 1 ≤ (y0 / 10) % 10 ∧ (y0 / 10) % 10 ≤ 4 := by rw [dig_i (by omega)] at t78; omega
                  rw [dig_e g1.1]
                  refine aw_iload 2 dX9_chain_81 rfl ?_
                  refine aw_iload 0 dX9_chain_83 rfl ?_
                  refine aw_ishr dX9_chain_85 ?_
                  refine aw_iconst (1) dX9_chain_86 (by decide) ?_
                  refine aw_iand dX9_chain_87 ?_
                  refine aw_toe (if ((2 ^ a0) ||| (2 ^ (y0 % 10 - 1))).testBit ((y0 / 10) % 10 - 1) = true then 1 else 0) (nv_bit (rfl) (rfl) (by omega) (by omega)) ?_
                  refine aw_iconst (1) dX9_chain_88 (by decide) ?_
                  refine aw_icmp_ne 98 dX9_chain_89 (by decide) (fun c89 => ?_) (fun c89 => ?_)
                  · have t89 := ite_0e c89
                    have w2 := or_16 (a := (2 ^ a0) ||| (2 ^ (y0 % 10 - 1))) (b := (y0 / 10) % 10 - 1) (by omega) (by omega)
                    refine aw_iload 2 dX9_chain_98 rfl ?_
                    refine aw_iconst (1) dX9_chain_100 (by decide) ?_
                    refine aw_iload 0 dX9_chain_101 rfl ?_
                    refine aw_ishl dX9_chain_103 ?_
                    refine aw_toe (nI (2 ^ ((y0 / 10) % 10 - 1))) (nv_shl1 (rfl) (by omega)) ?_
                    refine aw_ior dX9_chain_104 ?_
                    refine aw_toe (nI (((2 ^ a0) ||| (2 ^ (y0 % 10 - 1))) ||| (2 ^ ((y0 / 10) % 10 - 1)))) (nv_or (rfl) (rfl)) ?_
                    refine aw_istore [(5, .int (nI (((2 ^ a0) ||| (2 ^ (y0 % 10 - 1))) ||| (2 ^ ((y0 / 10) % 10 - 1))))), (8, .int (nI ((y0 / 10) % 10 - 1))), (7, .int (nI (y0 / 10))), (6, .int 2), (0, .ref (G.1 + 88)), (1, .int (nI a0)), (2, .int (nI i0)), (3, .int (nI y0)), (4, .int v)] dX9_chain_105 (by decide) rfl ?_
                    refine aw_iload 2 dX9_chain_107 rfl ?_
                    refine aw_bipush (10) dX9_chain_109 (by decide) ?_
                    refine aw_idiv dX9_chain_111 (by decide) ?_
                    refine aw_toe (nI ((y0 / 10) / 10)) (nv_div (rfl) (rfl) (by omega) (by decide) (by decide)) ?_
                    refine aw_istore [(7, .int (nI ((y0 / 10) / 10))), (5, .int (nI (((2 ^ a0) ||| (2 ^ (y0 % 10 - 1))) ||| (2 ^ ((y0 / 10) % 10 - 1))))), (8, .int (nI ((y0 / 10) % 10 - 1))), (6, .int 2), (0, .ref (G.1 + 88)), (1, .int (nI a0)), (2, .int (nI i0)), (3, .int (nI y0)), (4, .int v)] dX9_chain_112 (by decide) rfl ?_
                    refine aw_goto 58 dX9_chain_114 (by decide) ?_
                    refine aw_iload 0 dX9_chain_58 rfl ?_
                    refine aw_if_le 117 dX9_chain_60 (by decide) (fun c60 => ?_) (fun c60 => absurd (by simp only [i_le, (nI_toInt (n := (y0 / 10) / 10) (by omega)), (show (0 : Int32).toInt = 0 from rfl)] <;> omega) c60)
                    refine aw_iload 8 dX9_chain_117 rfl ?_
                    refine aw_iconst (3) dX9_chain_119 (by decide) ?_
                    refine aw_dS [.int v, .int 3] [] lX9_126 sX9_isIn mX9_isIn dX9_chain_120 (bX9_isIn (x := v) (n := 3) (by omega)) rfl (Nat.le_of_ble_eq_true rfl) (by decide) (by decide) rfl ?_
                    refine aw_if_ne 133 dX9_chain_123 (by decide) (fun c123 => ?_) (fun c123 => ?_)
                    · have t123 := ite_1 c123
                      refine aw_iconst (0) dX9_chain_133 (by decide) ?_
                      refine aw_istore [(7, .int 0), (5, .int (nI (((2 ^ a0) ||| (2 ^ (y0 % 10 - 1))) ||| (2 ^ ((y0 / 10) % 10 - 1))))), (8, .int (nI ((y0 / 10) % 10 - 1))), (6, .int 2), (0, .ref (G.1 + 88)), (1, .int (nI a0)), (2, .int (nI i0)), (3, .int (nI y0)), (4, .int v)] dX9_chain_134 (by decide) rfl ?_
                      refine aw_iconst (0) dX9_chain_136 (by decide) ?_
                      refine aw_istore [(8, .int 0), (7, .int 0), (5, .int (nI (((2 ^ a0) ||| (2 ^ (y0 % 10 - 1))) ||| (2 ^ ((y0 / 10) % 10 - 1))))), (6, .int 2), (0, .ref (G.1 + 88)), (1, .int (nI a0)), (2, .int (nI i0)), (3, .int (nI y0)), (4, .int v)] dX9_chain_137 (by decide) rfl ?_
                      refine aw_iload_n 5 dX9_chain_139 rfl rfl ?_
                      refine aw_istore [(9, .int (nI a0)), (8, .int 0), (7, .int 0), (5, .int (nI (((2 ^ a0) ||| (2 ^ (y0 % 10 - 1))) ||| (2 ^ ((y0 / 10) % 10 - 1))))), (6, .int 2), (0, .ref (G.1 + 88)), (1, .int (nI a0)), (2, .int (nI i0)), (3, .int (nI y0)), (4, .int v)] dX9_chain_140 (by decide) rfl ?_
                      refine aw_iload_n 7 dX9_chain_142 rfl rfl ?_
                      refine aw_istore [(10, .int (nI i0)), (9, .int (nI a0)), (8, .int 0), (7, .int 0), (5, .int (nI (((2 ^ a0) ||| (2 ^ (y0 % 10 - 1))) ||| (2 ^ ((y0 / 10) % 10 - 1))))), (6, .int 2), (0, .ref (G.1 + 88)), (1, .int (nI a0)), (2, .int (nI i0)), (3, .int (nI y0)), (4, .int v)] dX9_chain_143 (by decide) rfl ?_
                      refine aw_iload 5 dX9_chain_145 rfl ?_
                      refine aw_iconst (3) dX9_chain_147 (by decide) ?_
                      refine aw_icmp_ne 156 dX9_chain_148 (by decide) (fun c148 => ?_) (fun c148 => absurd c148 (by decide))
                      refine aw_iload 5 dX9_chain_156 rfl ?_
                      refine aw_iconst (2) dX9_chain_158 (by decide) ?_
                      refine aw_icmp_ne 167 dX9_chain_159 (by decide) (fun c159 => absurd (by decide) c159) (fun c159 => ?_)
                      refine aw_bipush (10) dX9_chain_162 (by decide) ?_
                      refine aw_goto 168 dX9_chain_164 (by decide) ?_
                      refine aw_istore [(11, .int 10), (10, .int (nI i0)), (9, .int (nI a0)), (8, .int 0), (7, .int 0), (5, .int (nI (((2 ^ a0) ||| (2 ^ (y0 % 10 - 1))) ||| (2 ^ ((y0 / 10) % 10 - 1))))), (6, .int 2), (0, .ref (G.1 + 88)), (1, .int (nI a0)), (2, .int (nI i0)), (3, .int (nI y0)), (4, .int v)] dX9_chain_168 (by decide) rfl ?_
                      refine aw_lv [(11, .int 10), (10, .int (nI i0)), (9, .int (nI a0)), (8, .int 0), (7, .int 0), (4, .int v), (3, .int (nI y0)), (0, .ref (G.1 + 88))] [0, 1, 2, 3, 4, 11, 10, 7] rfl ?_
                      suffices L2389 : ∀ (mm : Nat) (x : Nat) (ev : Int32) (fr : Nat) (dv : Int32) (sv : Int32) (lk1 : Nat → Int32) (su1 : Nat → Int32) (jd1 : Nat → Int32) (wy1 : Nat → Int32) (h2372 : List va_E), x < mm → (x = 0 ∨ x = 1 ∨ x = 2) → (ev = -9 ∨ ∃ q, q < 10 ∧ ev = nI q) → (fr < 4) → (pB jd1) → h2372[88]? = some (oB 9 (lM G (nI sp) (nI fa) (nI nb) (nI ns) (nI nm) ho ow sl (nI nv) (nI sh))) → h2372[89]? = some (aI 7 rg) → h2372[90]? = some (aI 20 (nA m)) → h2372[91]? = some (aI 4 (nA ye)) → h2372[93]? = some (aI 40 W) → h2372[94]? = some (aI 40 Z) → h2372[95]? = some (aI 40 Ro) → h2372[96]? = some (aI 40 Co) → h2372[97]? = some (aI 30 (nA b1)) → h2372[98]? = some (aI 30 (nA b2)) → h2372[92]? = some (aI 4 (nA fi)) → h2372[99]? = some (aI 100 lk1) → h2372[100]? = some (aI 11264 su1) → h2372[101]? = some (aI 10 jd1) → h2372[102]? = some (aI 11264 wy1) → rg2 89 89 99 102 h h2372 → AW l G yX9_chain cX9_chain 15 (some .int) (xR 6 0 0) (fun _ _ => True) QF 0 0 170 [(11, .int (nI (p10 x))), (10, .int ev), (9, .int (nI fr)), (8, .int dv), (7, .int sv), (4, .int v), (3, .int (nI y0)), (0, .ref (G.1 + 88))] [] h2372 from L2389 (2 + 1) 2 (nI i0) a0 0 0 lk su jd wy _ (Nat.lt_succ_self _) (by decide) (Or.inr ⟨_, by omega, rfl⟩) (by omega) (hjd) h88 h89 h90 h91 h93 h94 h95 h96 h97 h98 h92 h99 h100 h101 h102 (rg2_rf 89 89 99 102 h)
                      intro mm
                      induction mm with
                      | zero =>
                        intro x ev fr dv sv lk1 su1 jd1 wy1 h2372 hmm hx he bfr hp f2373 f2374 f2375 f2376 f2377 f2378 f2379 f2380 f2381 f2382 f2383 f2384 f2385 f2386 f2387 k2388
                        exact absurd hmm (Nat.not_lt_zero _)
                      | succ mm ih2389 =>
                        intro x ev fr dv sv lk1 su1 jd1 wy1 h2372 hmm hx he bfr hp f2373 f2374 f2375 f2376 f2377 f2378 f2379 f2380 f2381 f2382 f2383 f2384 f2385 f2386 f2387 k2388
                        rcases hx with rfl | rfl | rfl
                        · refine aw_lv [(11, .int 0), (10, .int ev), (9, .int (nI fr)), (8, .int dv), (7, .int sv), (4, .int v), (3, .int (nI y0)), (0, .ref (G.1 + 88))] [0, 1, 2, 3, 4, 5, 6, 7] rfl ?_
                          refine aw_iload 0 dX9_chain_170 rfl ?_
                          refine aw_if_le 274 dX9_chain_172 (by decide) (fun c172 => ?_) (fun c172 => absurd (by decide) c172)
                          refine aw_iload 5 dX9_chain_274 rfl ?_
                          refine aw_if_ne 284 dX9_chain_276 (by decide) (fun c276 => ?_) (fun c276 => ?_)
                          · have d276 := mt (j_eq (a := v.toInt) (b := (0)) (rfl) (rfl)).mpr c276
                            refine aw_iload 5 dX9_chain_284 rfl ?_
                            refine aw_iconst (1) dX9_chain_286 (by decide) ?_
                            refine aw_icmp_ne 295 dX9_chain_287 (by decide) (fun c287 => ?_) (fun c287 => ?_)
                            · have d287 := mt (j_eq (a := v.toInt) (b := (1)) (rfl) (rfl)).mpr c287
                              refine aw_iload 3 dX9_chain_295 rfl ?_
                              subst hQF
                              exact aw_iret rfl dX9_chain_297 (by decide) (by decide) ⟨_, rfl, _, _, _, _, _, f2384, f2385, f2386, f2387, f2374, k2388, hp, trivial⟩
                            · have d287 := (j_eq (a := v.toInt) (b := (1)) (rfl) (rfl)).mp c287
                              refine aw_iload 4 dX9_chain_290 rfl ?_
                              refine aw_goto 297 dX9_chain_292 (by decide) ?_
                              subst hQF
                              exact aw_iret rfl dX9_chain_297 (by decide) (by decide) ⟨_, rfl, _, _, _, _, _, f2384, f2385, f2386, f2387, f2374, k2388, hp, trivial⟩
                          · have d276 := (j_eq (a := v.toInt) (b := (0)) (rfl) (rfl)).mp c276
                            refine aw_iload 1 dX9_chain_279 rfl ?_
                            refine aw_goto 297 dX9_chain_281 (by decide) ?_
                            subst hQF
                            exact aw_iret rfl dX9_chain_297 (by decide) (by decide) ⟨_, rfl, _, _, _, _, _, f2384, f2385, f2386, f2387, f2374, k2388, hp, trivial⟩
                        · refine aw_lv [(11, .int 1), (10, .int ev), (9, .int (nI fr)), (8, .int dv), (7, .int sv), (4, .int v), (3, .int (nI y0)), (0, .ref (G.1 + 88))] [0, 1, 2, 3, 4, 5, 6, 7] rfl ?_
                          refine aw_iload 0 dX9_chain_170 rfl ?_
                          refine aw_if_le 274 dX9_chain_172 (by decide) (fun c172 => absurd c172 (by decide)) (fun c172 => ?_)
                          refine aw_iload 1 dX9_chain_175 rfl ?_
                          refine aw_if_lt 274 dX9_chain_177 (by decide) (fun c177 => ?_) (fun c177 => ?_)
                          · have d177 := (j_lt (a := ev.toInt) (b := (0)) (rfl) (rfl)).mp c177
                            refine aw_iload 5 dX9_chain_274 rfl ?_
                            refine aw_if_ne 284 dX9_chain_276 (by decide) (fun c276 => ?_) (fun c276 => ?_)
                            · have d276 := mt (j_eq (a := v.toInt) (b := (0)) (rfl) (rfl)).mpr c276
                              refine aw_iload 5 dX9_chain_284 rfl ?_
                              refine aw_iconst (1) dX9_chain_286 (by decide) ?_
                              refine aw_icmp_ne 295 dX9_chain_287 (by decide) (fun c287 => ?_) (fun c287 => ?_)
                              · have d287 := mt (j_eq (a := v.toInt) (b := (1)) (rfl) (rfl)).mpr c287
                                refine aw_iload 3 dX9_chain_295 rfl ?_
                                subst hQF
                                exact aw_iret rfl dX9_chain_297 (by decide) (by decide) ⟨_, rfl, _, _, _, _, _, f2384, f2385, f2386, f2387, f2374, k2388, hp, trivial⟩
                              · have d287 := (j_eq (a := v.toInt) (b := (1)) (rfl) (rfl)).mp c287
                                refine aw_iload 4 dX9_chain_290 rfl ?_
                                refine aw_goto 297 dX9_chain_292 (by decide) ?_
                                subst hQF
                                exact aw_iret rfl dX9_chain_297 (by decide) (by decide) ⟨_, rfl, _, _, _, _, _, f2384, f2385, f2386, f2387, f2374, k2388, hp, trivial⟩
                            · have d276 := (j_eq (a := v.toInt) (b := (0)) (rfl) (rfl)).mp c276
                              refine aw_iload 1 dX9_chain_279 rfl ?_
                              refine aw_goto 297 dX9_chain_281 (by decide) ?_
                              subst hQF
                              exact aw_iret rfl dX9_chain_297 (by decide) (by decide) ⟨_, rfl, _, _, _, _, _, f2384, f2385, f2386, f2387, f2374, k2388, hp, trivial⟩
                          · have d177 := mt (j_lt (a := ev.toInt) (b := (0)) (rfl) (rfl)).mpr c177
                            obtain ⟨q, bq, rfl⟩ := he.resolve_left (fun e => by rw [e] at d177; exact d177 (by decide))
                            refine aw_iload_n 6 dX9_chain_180 rfl rfl ?_
                            refine aw_iload 0 dX9_chain_181 rfl ?_
                            refine aw_idiv dX9_chain_183 (by decide) ?_
                            refine aw_toe (nI (y0 / 1)) (nv_div (rfl) (rfl) (by omega) (by decide) (by decide)) ?_
                            refine aw_bipush (10) dX9_chain_184 (by decide) ?_
                            refine aw_irem dX9_chain_186 (by decide) ?_
                            refine aw_toe (nI ((y0 / 1) % 10)) (nv_rem (rfl) (rfl) (by omega) (by decide) (by decide)) ?_
                            refine aw_iconst (1) dX9_chain_187 (by decide) ?_
                            refine aw_isub dX9_chain_188 ?_
                            refine aw_toe (nI (((y0 / 1) % 10) - 1)) (nv_sub (rfl) (rfl) (by omega)) ?_
                            refine aw_istore [(12, .int (nI (((y0 / 1) % 10) - 1))), (11, .int 1), (10, .int (nI q)), (9, .int (nI fr)), (8, .int dv), (7, .int sv), (4, .int v), (3, .int (nI y0)), (0, .ref (G.1 + 88))] dX9_chain_189 (by decide) rfl ?_
                            refine aw_aload_n 8 dX9_chain_191 rfl rfl ?_
                            refine aw_iload 3 dX9_chain_192 rfl ?_
                            refine aw_iload 2 dX9_chain_194 rfl ?_
                            refine aw_iload 0 dX9_chain_196 rfl ?_
                            refine aw_uV [.int (nI fr), .int (nI q), .int (nI (((y0 / 1) % 10) - 1))] [] lX9_190 vX9_isSure mX9_isSure dX9_chain_198 (bX9_isSure (sp := sp) (fa := fa) (nb := nb) (ns := ns) (nm := nm) (nv := nv) (sh := sh) (ho := ho) (ow := ow) (sl := sl) (m := m) (ye := ye) (b1 := b1) (b2 := b2) (W := W) (Z := Z) (Ro := Ro) (Co := Co) (fi := fi) (lk := lk1) (su := su1) (jd := jd1) (wy := wy1) (a := fr) (b := ((y0 / 1) % 10) - 1) (i := q) f2373 f2375 f2376 f2377 f2378 f2379 f2380 f2381 f2382 f2383 f2384 f2385 f2386 f2387 hm hye (by omega) bb1 bb2 hfi (by omega) (by omega) (by omega) (by omega)) f2373 rfl rfl rfl (Nat.le_of_ble_eq_true rfl) (by decide) (by decide) rfl (fun r2395 h2396 q2394 => ?_)
                            obtain ⟨lk12390, su12391, jd12392, wy12393, f2397, f2398, f2399, f2400, k2401, p2402, u2403⟩ := q2394
                            have f2404 := rng_at k2401 (by decide) f2373
                            have f2405 := rng_at k2401 (by decide) f2374
                            have f2406 := rng_at k2401 (by decide) f2375
                            have f2407 := rng_at k2401 (by decide) f2376
                            have f2408 := rng_at k2401 (by decide) f2377
                            have f2409 := rng_at k2401 (by decide) f2378
                            have f2410 := rng_at k2401 (by decide) f2379
                            have f2411 := rng_at k2401 (by decide) f2380
                            have f2412 := rng_at k2401 (by decide) f2381
                            have f2413 := rng_at k2401 (by decide) f2382
                            have f2414 := rng_at k2401 (by decide) f2383
                            refine aw_istore [(13, .int r2395), (12, .int (nI (((y0 / 1) % 10) - 1))), (11, .int 1), (10, .int (nI q)), (9, .int (nI fr)), (8, .int dv), (7, .int sv), (4, .int v), (3, .int (nI y0)), (0, .ref (G.1 + 88))] dX9_chain_201 (by decide) rfl ?_
                            refine aw_aload_n 9 dX9_chain_203 rfl rfl ?_
                            refine aw_get fX9_53 dX9_chain_204 f2404 rfl ?_
                            refine aw_iload 3 dX9_chain_207 rfl ?_
                            refine aw_iald q (rfl) (by omega) (by decide) dX9_chain_209 f2399 ?_
                            refine aw_istore [(14, .int (jd12392 q)), (13, .int r2395), (12, .int (nI (((y0 / 1) % 10) - 1))), (11, .int 1), (10, .int (nI q)), (9, .int (nI fr)), (8, .int dv), (7, .int sv), (4, .int v), (3, .int (nI y0)), (0, .ref (G.1 + 88))] dX9_chain_210 (by decide) rfl ?_
                            refine aw_iload 0 dX9_chain_212 rfl ?_
                            refine aw_if_lt 256 dX9_chain_214 (by decide) (fun c214 => ?_) (fun c214 => ?_)
                            · have d214 := (j_lt (a := (jd12392 q).toInt) (b := (0)) (rfl) (rfl)).mp c214
                              refine aw_iload 0 dX9_chain_256 rfl ?_
                              refine aw_istore [(10, .int (jd12392 q)), (14, .int (jd12392 q)), (13, .int r2395), (12, .int (nI (((y0 / 1) % 10) - 1))), (11, .int 1), (9, .int (nI fr)), (8, .int dv), (7, .int sv), (4, .int v), (3, .int (nI y0)), (0, .ref (G.1 + 88))] dX9_chain_258 (by decide) rfl ?_
                              refine aw_iload 3 dX9_chain_260 rfl ?_
                              refine aw_istore [(9, .int (nI (((y0 / 1) % 10) - 1))), (10, .int (jd12392 q)), (14, .int (jd12392 q)), (13, .int r2395), (12, .int (nI (((y0 / 1) % 10) - 1))), (11, .int 1), (8, .int dv), (7, .int sv), (4, .int v), (3, .int (nI y0)), (0, .ref (G.1 + 88))] dX9_chain_262 (by decide) rfl ?_
                              refine aw_iload 5 dX9_chain_264 rfl ?_
                              refine aw_bipush (10) dX9_chain_266 (by decide) ?_
                              refine aw_idiv dX9_chain_268 (by decide) ?_
                              refine aw_toe 0 (by decide) ?_
                              refine aw_istore [(11, .int 0), (9, .int (nI (((y0 / 1) % 10) - 1))), (10, .int (jd12392 q)), (14, .int (jd12392 q)), (13, .int r2395), (12, .int (nI (((y0 / 1) % 10) - 1))), (8, .int dv), (7, .int sv), (4, .int v), (3, .int (nI y0)), (0, .ref (G.1 + 88))] dX9_chain_269 (by decide) rfl ?_
                              refine aw_goto 170 dX9_chain_271 (by decide) ?_
                              refine aw_lv [(11, .int 0), (10, .int (jd12392 q)), (9, .int (nI (((y0 / 1) % 10) - 1))), (8, .int dv), (7, .int sv), (4, .int v), (3, .int (nI y0)), (0, .ref (G.1 + 88))] [0, 2, 1, 6, 7, 8, 9, 10] rfl ?_
                              exact ih2389 0 (jd12392 q) (((y0 / 1) % 10) - 1) dv sv lk12390 su12391 jd12392 wy12393 _ (by omega) (by decide) (p2402 q bq) (by omega) (p2402) f2404 f2405 f2406 f2407 f2408 f2409 f2410 f2411 f2412 f2413 f2414 f2397 f2398 f2399 f2400 (rg2_tr (k2388) (rg2_w k2401 (by decide)))
                            · have d214 := mt (j_lt (a := (jd12392 q).toInt) (b := (0)) (rfl) (rfl)).mpr c214
                              obtain ⟨q2, bq2, eq2⟩ := pB_g p2402 (show q < 10 by omega) d214
                              rw [eq2]
                              refine aw_iinc (j := 7) (sv + 1) [(7, .int (sv + 1)), (14, .int (nI q2)), (13, .int r2395), (12, .int (nI (((y0 / 1) % 10) - 1))), (11, .int 1), (10, .int (nI q)), (9, .int (nI fr)), (8, .int dv), (4, .int v), (3, .int (nI y0)), (0, .ref (G.1 + 88))] dX9_chain_217 rfl (by rfl) (by decide) rfl ?_
                              refine aw_iload 7 dX9_chain_220 rfl ?_
                              refine aw_iconst (0) dX9_chain_222 (by decide) ?_
                              refine aw_bipush (100) dX9_chain_223 (by decide) ?_
                              refine aw_aload_n 10 dX9_chain_225 rfl rfl ?_
                              refine aw_iload 6 dX9_chain_226 rfl ?_
                              refine aw_iload 5 dX9_chain_228 rfl ?_
                              refine aw_iload 3 dX9_chain_230 rfl ?_
                              refine aw_iload 1 dX9_chain_232 rfl ?_
                              refine aw_uV [.int (nI fr), .int (nI q), .int (nI (((y0 / 1) % 10) - 1)), .int (nI q2)] [.int 100, .int 0, .int dv] lX9_166 vX9_likeOf mX9_likeOf dX9_chain_234 (bX9_likeOf (sp := sp) (fa := fa) (nb := nb) (ns := ns) (nm := nm) (nv := nv) (sh := sh) (ho := ho) (ow := ow) (sl := sl) (m := m) (ye := ye) (b1 := b1) (b2 := b2) (W := W) (Z := Z) (Ro := Ro) (Co := Co) (a := fr) (i := q) (b := ((y0 / 1) % 10) - 1) (k := q2) f2404 f2406 f2407 f2408 f2409 f2410 f2411 f2412 f2413 hm hye (by omega) bb1 bb2 (by omega) (by omega) (by omega) (by omega)) f2404 rfl rfl rfl (Nat.le_of_ble_eq_true rfl) (by decide) (by decide) rfl (fun r2416 h2417 q2415 => ?_)
                              obtain ⟨rfl, u2418⟩ := q2415
                              refine aw_isub dX9_chain_237 ?_
                              refine aw_mmax lX9_162 dX9_chain_238 (Nat.le_of_ble_eq_true rfl) (by decide) (by decide) ?_
                              refine aw_iload 2 dX9_chain_241 rfl ?_
                              refine aw_if_eq 250 dX9_chain_243 (by decide) (fun c243 => ?_) (fun c243 => ?_)
                              · have d243 := (j_eq (a := r2395.toInt) (b := (0)) (rfl) (rfl)).mp c243
                                refine aw_bipush (50) dX9_chain_250 (by decide) ?_
                                refine aw_iadd dX9_chain_252 ?_
                                refine aw_iadd dX9_chain_253 ?_
                                refine aw_istore [(8, .int (dv + ((if 0 < (100 - r2416) then (100 - r2416) else 0) + 50))), (7, .int (sv + 1)), (14, .int (nI q2)), (13, .int r2395), (12, .int (nI (((y0 / 1) % 10) - 1))), (11, .int 1), (10, .int (nI q)), (9, .int (nI fr)), (4, .int v), (3, .int (nI y0)), (0, .ref (G.1 + 88))] dX9_chain_254 (by decide) rfl ?_
                                refine aw_iload 2 dX9_chain_256 rfl ?_
                                refine aw_istore [(10, .int (nI q2)), (8, .int (dv + ((if 0 < (100 - r2416) then (100 - r2416) else 0) + 50))), (7, .int (sv + 1)), (14, .int (nI q2)), (13, .int r2395), (12, .int (nI (((y0 / 1) % 10) - 1))), (11, .int 1), (9, .int (nI fr)), (4, .int v), (3, .int (nI y0)), (0, .ref (G.1 + 88))] dX9_chain_258 (by decide) rfl ?_
                                refine aw_iload 5 dX9_chain_260 rfl ?_
                                refine aw_istore [(9, .int (nI (((y0 / 1) % 10) - 1))), (10, .int (nI q2)), (8, .int (dv + ((if 0 < (100 - r2416) then (100 - r2416) else 0) + 50))), (7, .int (sv + 1)), (14, .int (nI q2)), (13, .int r2395), (12, .int (nI (((y0 / 1) % 10) - 1))), (11, .int 1), (4, .int v), (3, .int (nI y0)), (0, .ref (G.1 + 88))] dX9_chain_262 (by decide) rfl ?_
                                refine aw_iload 7 dX9_chain_264 rfl ?_
                                refine aw_bipush (10) dX9_chain_266 (by decide) ?_
                                refine aw_idiv dX9_chain_268 (by decide) ?_
                                refine aw_toe 0 (by decide) ?_
                                refine aw_istore [(11, .int 0), (9, .int (nI (((y0 / 1) % 10) - 1))), (10, .int (nI q2)), (8, .int (dv + ((if 0 < (100 - r2416) then (100 - r2416) else 0) + 50))), (7, .int (sv + 1)), (14, .int (nI q2)), (13, .int r2395), (12, .int (nI (((y0 / 1) % 10) - 1))), (4, .int v), (3, .int (nI y0)), (0, .ref (G.1 + 88))] dX9_chain_269 (by decide) rfl ?_
                                refine aw_goto 170 dX9_chain_271 (by decide) ?_
                                refine aw_lv [(11, .int 0), (10, .int (nI q2)), (9, .int (nI (((y0 / 1) % 10) - 1))), (8, .int (dv + ((if 0 < (100 - r2416) then (100 - r2416) else 0) + 50))), (7, .int (sv + 1)), (4, .int v), (3, .int (nI y0)), (0, .ref (G.1 + 88))] [0, 2, 1, 3, 4, 8, 9, 10] rfl ?_
                                exact ih2389 0 (nI q2) (((y0 / 1) % 10) - 1) (dv + ((if 0 < (100 - r2416) then (100 - r2416) else 0) + 50)) (sv + 1) lk12390 su12391 jd12392 wy12393 _ (by omega) (by decide) (Or.inr ⟨_, bq2, rfl⟩) (by omega) (p2402) f2404 f2405 f2406 f2407 f2408 f2409 f2410 f2411 f2412 f2413 f2414 f2397 f2398 f2399 f2400 (rg2_tr (k2388) (rg2_w k2401 (by decide)))
                              · have d243 := mt (j_eq (a := r2395.toInt) (b := (0)) (rfl) (rfl)).mpr c243
                                refine aw_iconst (0) dX9_chain_246 (by decide) ?_
                                refine aw_goto 252 dX9_chain_247 (by decide) ?_
                                refine aw_iadd dX9_chain_252 ?_
                                refine aw_iadd dX9_chain_253 ?_
                                refine aw_istore [(8, .int (dv + ((if 0 < (100 - r2416) then (100 - r2416) else 0) + 0))), (7, .int (sv + 1)), (14, .int (nI q2)), (13, .int r2395), (12, .int (nI (((y0 / 1) % 10) - 1))), (11, .int 1), (10, .int (nI q)), (9, .int (nI fr)), (4, .int v), (3, .int (nI y0)), (0, .ref (G.1 + 88))] dX9_chain_254 (by decide) rfl ?_
                                refine aw_iload 2 dX9_chain_256 rfl ?_
                                refine aw_istore [(10, .int (nI q2)), (8, .int (dv + ((if 0 < (100 - r2416) then (100 - r2416) else 0) + 0))), (7, .int (sv + 1)), (14, .int (nI q2)), (13, .int r2395), (12, .int (nI (((y0 / 1) % 10) - 1))), (11, .int 1), (9, .int (nI fr)), (4, .int v), (3, .int (nI y0)), (0, .ref (G.1 + 88))] dX9_chain_258 (by decide) rfl ?_
                                refine aw_iload 5 dX9_chain_260 rfl ?_
                                refine aw_istore [(9, .int (nI (((y0 / 1) % 10) - 1))), (10, .int (nI q2)), (8, .int (dv + ((if 0 < (100 - r2416) then (100 - r2416) else 0) + 0))), (7, .int (sv + 1)), (14, .int (nI q2)), (13, .int r2395), (12, .int (nI (((y0 / 1) % 10) - 1))), (11, .int 1), (4, .int v), (3, .int (nI y0)), (0, .ref (G.1 + 88))] dX9_chain_262 (by decide) rfl ?_
                                refine aw_iload 7 dX9_chain_264 rfl ?_
                                refine aw_bipush (10) dX9_chain_266 (by decide) ?_
                                refine aw_idiv dX9_chain_268 (by decide) ?_
                                refine aw_toe 0 (by decide) ?_
                                refine aw_istore [(11, .int 0), (9, .int (nI (((y0 / 1) % 10) - 1))), (10, .int (nI q2)), (8, .int (dv + ((if 0 < (100 - r2416) then (100 - r2416) else 0) + 0))), (7, .int (sv + 1)), (14, .int (nI q2)), (13, .int r2395), (12, .int (nI (((y0 / 1) % 10) - 1))), (4, .int v), (3, .int (nI y0)), (0, .ref (G.1 + 88))] dX9_chain_269 (by decide) rfl ?_
                                refine aw_goto 170 dX9_chain_271 (by decide) ?_
                                refine aw_lv [(11, .int 0), (10, .int (nI q2)), (9, .int (nI (((y0 / 1) % 10) - 1))), (8, .int (dv + ((if 0 < (100 - r2416) then (100 - r2416) else 0) + 0))), (7, .int (sv + 1)), (4, .int v), (3, .int (nI y0)), (0, .ref (G.1 + 88))] [0, 2, 1, 3, 4, 8, 9, 10] rfl ?_
                                exact ih2389 0 (nI q2) (((y0 / 1) % 10) - 1) (dv + ((if 0 < (100 - r2416) then (100 - r2416) else 0) + 0)) (sv + 1) lk12390 su12391 jd12392 wy12393 _ (by omega) (by decide) (Or.inr ⟨_, bq2, rfl⟩) (by omega) (p2402) f2404 f2405 f2406 f2407 f2408 f2409 f2410 f2411 f2412 f2413 f2414 f2397 f2398 f2399 f2400 (rg2_tr (k2388) (rg2_w k2401 (by decide)))
                        · refine aw_lv [(11, .int 10), (10, .int ev), (9, .int (nI fr)), (8, .int dv), (7, .int sv), (4, .int v), (3, .int (nI y0)), (0, .ref (G.1 + 88))] [0, 1, 2, 3, 4, 5, 6, 7] rfl ?_
                          refine aw_iload 0 dX9_chain_170 rfl ?_
                          refine aw_if_le 274 dX9_chain_172 (by decide) (fun c172 => absurd c172 (by decide)) (fun c172 => ?_)
                          refine aw_iload 1 dX9_chain_175 rfl ?_
                          refine aw_if_lt 274 dX9_chain_177 (by decide) (fun c177 => ?_) (fun c177 => ?_)
                          · have d177 := (j_lt (a := ev.toInt) (b := (0)) (rfl) (rfl)).mp c177
                            refine aw_iload 5 dX9_chain_274 rfl ?_
                            refine aw_if_ne 284 dX9_chain_276 (by decide) (fun c276 => ?_) (fun c276 => ?_)
                            · have d276 := mt (j_eq (a := v.toInt) (b := (0)) (rfl) (rfl)).mpr c276
                              refine aw_iload 5 dX9_chain_284 rfl ?_
                              refine aw_iconst (1) dX9_chain_286 (by decide) ?_
                              refine aw_icmp_ne 295 dX9_chain_287 (by decide) (fun c287 => ?_) (fun c287 => ?_)
                              · have d287 := mt (j_eq (a := v.toInt) (b := (1)) (rfl) (rfl)).mpr c287
                                refine aw_iload 3 dX9_chain_295 rfl ?_
                                subst hQF
                                exact aw_iret rfl dX9_chain_297 (by decide) (by decide) ⟨_, rfl, _, _, _, _, _, f2384, f2385, f2386, f2387, f2374, k2388, hp, trivial⟩
                              · have d287 := (j_eq (a := v.toInt) (b := (1)) (rfl) (rfl)).mp c287
                                refine aw_iload 4 dX9_chain_290 rfl ?_
                                refine aw_goto 297 dX9_chain_292 (by decide) ?_
                                subst hQF
                                exact aw_iret rfl dX9_chain_297 (by decide) (by decide) ⟨_, rfl, _, _, _, _, _, f2384, f2385, f2386, f2387, f2374, k2388, hp, trivial⟩
                            · have d276 := (j_eq (a := v.toInt) (b := (0)) (rfl) (rfl)).mp c276
                              refine aw_iload 1 dX9_chain_279 rfl ?_
                              refine aw_goto 297 dX9_chain_281 (by decide) ?_
                              subst hQF
                              exact aw_iret rfl dX9_chain_297 (by decide) (by decide) ⟨_, rfl, _, _, _, _, _, f2384, f2385, f2386, f2387, f2374, k2388, hp, trivial⟩
                          · have d177 := mt (j_lt (a := ev.toInt) (b := (0)) (rfl) (rfl)).mpr c177
                            obtain ⟨q, bq, rfl⟩ := he.resolve_left (fun e => by rw [e] at d177; exact d177 (by decide))
                            refine aw_iload_n 6 dX9_chain_180 rfl rfl ?_
                            refine aw_iload 0 dX9_chain_181 rfl ?_
                            refine aw_idiv dX9_chain_183 (by decide) ?_
                            refine aw_toe (nI (y0 / 10)) (nv_div (rfl) (rfl) (by omega) (by decide) (by decide)) ?_
                            refine aw_bipush (10) dX9_chain_184 (by decide) ?_
                            refine aw_irem dX9_chain_186 (by decide) ?_
                            refine aw_toe (nI ((y0 / 10) % 10)) (nv_rem (rfl) (rfl) (by omega) (by decide) (by decide)) ?_
                            refine aw_iconst (1) dX9_chain_187 (by decide) ?_
                            refine aw_isub dX9_chain_188 ?_
                            refine aw_toe (nI (((y0 / 10) % 10) - 1)) (nv_sub (rfl) (rfl) (by omega)) ?_
                            refine aw_istore [(12, .int (nI (((y0 / 10) % 10) - 1))), (11, .int 10), (10, .int (nI q)), (9, .int (nI fr)), (8, .int dv), (7, .int sv), (4, .int v), (3, .int (nI y0)), (0, .ref (G.1 + 88))] dX9_chain_189 (by decide) rfl ?_
                            refine aw_aload_n 8 dX9_chain_191 rfl rfl ?_
                            refine aw_iload 3 dX9_chain_192 rfl ?_
                            refine aw_iload 2 dX9_chain_194 rfl ?_
                            refine aw_iload 0 dX9_chain_196 rfl ?_
                            refine aw_uV [.int (nI fr), .int (nI q), .int (nI (((y0 / 10) % 10) - 1))] [] lX9_190 vX9_isSure mX9_isSure dX9_chain_198 (bX9_isSure (sp := sp) (fa := fa) (nb := nb) (ns := ns) (nm := nm) (nv := nv) (sh := sh) (ho := ho) (ow := ow) (sl := sl) (m := m) (ye := ye) (b1 := b1) (b2 := b2) (W := W) (Z := Z) (Ro := Ro) (Co := Co) (fi := fi) (lk := lk1) (su := su1) (jd := jd1) (wy := wy1) (a := fr) (b := ((y0 / 10) % 10) - 1) (i := q) f2373 f2375 f2376 f2377 f2378 f2379 f2380 f2381 f2382 f2383 f2384 f2385 f2386 f2387 hm hye (by omega) bb1 bb2 hfi (by omega) (by omega) (by omega) (by omega)) f2373 rfl rfl rfl (Nat.le_of_ble_eq_true rfl) (by decide) (by decide) rfl (fun r2424 h2425 q2423 => ?_)
                            obtain ⟨lk12419, su12420, jd12421, wy12422, f2426, f2427, f2428, f2429, k2430, p2431, u2432⟩ := q2423
                            have f2433 := rng_at k2430 (by decide) f2373
                            have f2434 := rng_at k2430 (by decide) f2374
                            have f2435 := rng_at k2430 (by decide) f2375
                            have f2436 := rng_at k2430 (by decide) f2376
                            have f2437 := rng_at k2430 (by decide) f2377
                            have f2438 := rng_at k2430 (by decide) f2378
                            have f2439 := rng_at k2430 (by decide) f2379
                            have f2440 := rng_at k2430 (by decide) f2380
                            have f2441 := rng_at k2430 (by decide) f2381
                            have f2442 := rng_at k2430 (by decide) f2382
                            have f2443 := rng_at k2430 (by decide) f2383
                            refine aw_istore [(13, .int r2424), (12, .int (nI (((y0 / 10) % 10) - 1))), (11, .int 10), (10, .int (nI q)), (9, .int (nI fr)), (8, .int dv), (7, .int sv), (4, .int v), (3, .int (nI y0)), (0, .ref (G.1 + 88))] dX9_chain_201 (by decide) rfl ?_
                            refine aw_aload_n 9 dX9_chain_203 rfl rfl ?_
                            refine aw_get fX9_53 dX9_chain_204 f2433 rfl ?_
                            refine aw_iload 3 dX9_chain_207 rfl ?_
                            refine aw_iald q (rfl) (by omega) (by decide) dX9_chain_209 f2428 ?_
                            refine aw_istore [(14, .int (jd12421 q)), (13, .int r2424), (12, .int (nI (((y0 / 10) % 10) - 1))), (11, .int 10), (10, .int (nI q)), (9, .int (nI fr)), (8, .int dv), (7, .int sv), (4, .int v), (3, .int (nI y0)), (0, .ref (G.1 + 88))] dX9_chain_210 (by decide) rfl ?_
                            refine aw_iload 0 dX9_chain_212 rfl ?_
                            refine aw_if_lt 256 dX9_chain_214 (by decide) (fun c214 => ?_) (fun c214 => ?_)
                            · have d214 := (j_lt (a := (jd12421 q).toInt) (b := (0)) (rfl) (rfl)).mp c214
                              refine aw_iload 0 dX9_chain_256 rfl ?_
                              refine aw_istore [(10, .int (jd12421 q)), (14, .int (jd12421 q)), (13, .int r2424), (12, .int (nI (((y0 / 10) % 10) - 1))), (11, .int 10), (9, .int (nI fr)), (8, .int dv), (7, .int sv), (4, .int v), (3, .int (nI y0)), (0, .ref (G.1 + 88))] dX9_chain_258 (by decide) rfl ?_
                              refine aw_iload 3 dX9_chain_260 rfl ?_
                              refine aw_istore [(9, .int (nI (((y0 / 10) % 10) - 1))), (10, .int (jd12421 q)), (14, .int (jd12421 q)), (13, .int r2424), (12, .int (nI (((y0 / 10) % 10) - 1))), (11, .int 10), (8, .int dv), (7, .int sv), (4, .int v), (3, .int (nI y0)), (0, .ref (G.1 + 88))] dX9_chain_262 (by decide) rfl ?_
                              refine aw_iload 5 dX9_chain_264 rfl ?_
                              refine aw_bipush (10) dX9_chain_266 (by decide) ?_
                              refine aw_idiv dX9_chain_268 (by decide) ?_
                              refine aw_toe 1 (by decide) ?_
                              refine aw_istore [(11, .int 1), (9, .int (nI (((y0 / 10) % 10) - 1))), (10, .int (jd12421 q)), (14, .int (jd12421 q)), (13, .int r2424), (12, .int (nI (((y0 / 10) % 10) - 1))), (8, .int dv), (7, .int sv), (4, .int v), (3, .int (nI y0)), (0, .ref (G.1 + 88))] dX9_chain_269 (by decide) rfl ?_
                              refine aw_goto 170 dX9_chain_271 (by decide) ?_
                              refine aw_lv [(11, .int 1), (10, .int (jd12421 q)), (9, .int (nI (((y0 / 10) % 10) - 1))), (8, .int dv), (7, .int sv), (4, .int v), (3, .int (nI y0)), (0, .ref (G.1 + 88))] [0, 2, 1, 6, 7, 8, 9, 10] rfl ?_
                              exact ih2389 1 (jd12421 q) (((y0 / 10) % 10) - 1) dv sv lk12419 su12420 jd12421 wy12422 _ (by omega) (by decide) (p2431 q bq) (by omega) (p2431) f2433 f2434 f2435 f2436 f2437 f2438 f2439 f2440 f2441 f2442 f2443 f2426 f2427 f2428 f2429 (rg2_tr (k2388) (rg2_w k2430 (by decide)))
                            · have d214 := mt (j_lt (a := (jd12421 q).toInt) (b := (0)) (rfl) (rfl)).mpr c214
                              obtain ⟨q2, bq2, eq2⟩ := pB_g p2431 (show q < 10 by omega) d214
                              rw [eq2]
                              refine aw_iinc (j := 7) (sv + 1) [(7, .int (sv + 1)), (14, .int (nI q2)), (13, .int r2424), (12, .int (nI (((y0 / 10) % 10) - 1))), (11, .int 10), (10, .int (nI q)), (9, .int (nI fr)), (8, .int dv), (4, .int v), (3, .int (nI y0)), (0, .ref (G.1 + 88))] dX9_chain_217 rfl (by rfl) (by decide) rfl ?_
                              refine aw_iload 7 dX9_chain_220 rfl ?_
                              refine aw_iconst (0) dX9_chain_222 (by decide) ?_
                              refine aw_bipush (100) dX9_chain_223 (by decide) ?_
                              refine aw_aload_n 10 dX9_chain_225 rfl rfl ?_
                              refine aw_iload 6 dX9_chain_226 rfl ?_
                              refine aw_iload 5 dX9_chain_228 rfl ?_
                              refine aw_iload 3 dX9_chain_230 rfl ?_
                              refine aw_iload 1 dX9_chain_232 rfl ?_
                              refine aw_uV [.int (nI fr), .int (nI q), .int (nI (((y0 / 10) % 10) - 1)), .int (nI q2)] [.int 100, .int 0, .int dv] lX9_166 vX9_likeOf mX9_likeOf dX9_chain_234 (bX9_likeOf (sp := sp) (fa := fa) (nb := nb) (ns := ns) (nm := nm) (nv := nv) (sh := sh) (ho := ho) (ow := ow) (sl := sl) (m := m) (ye := ye) (b1 := b1) (b2 := b2) (W := W) (Z := Z) (Ro := Ro) (Co := Co) (a := fr) (i := q) (b := ((y0 / 10) % 10) - 1) (k := q2) f2433 f2435 f2436 f2437 f2438 f2439 f2440 f2441 f2442 hm hye (by omega) bb1 bb2 (by omega) (by omega) (by omega) (by omega)) f2433 rfl rfl rfl (Nat.le_of_ble_eq_true rfl) (by decide) (by decide) rfl (fun r2445 h2446 q2444 => ?_)
                              obtain ⟨rfl, u2447⟩ := q2444
                              refine aw_isub dX9_chain_237 ?_
                              refine aw_mmax lX9_162 dX9_chain_238 (Nat.le_of_ble_eq_true rfl) (by decide) (by decide) ?_
                              refine aw_iload 2 dX9_chain_241 rfl ?_
                              refine aw_if_eq 250 dX9_chain_243 (by decide) (fun c243 => ?_) (fun c243 => ?_)
                              · have d243 := (j_eq (a := r2424.toInt) (b := (0)) (rfl) (rfl)).mp c243
                                refine aw_bipush (50) dX9_chain_250 (by decide) ?_
                                refine aw_iadd dX9_chain_252 ?_
                                refine aw_iadd dX9_chain_253 ?_
                                refine aw_istore [(8, .int (dv + ((if 0 < (100 - r2445) then (100 - r2445) else 0) + 50))), (7, .int (sv + 1)), (14, .int (nI q2)), (13, .int r2424), (12, .int (nI (((y0 / 10) % 10) - 1))), (11, .int 10), (10, .int (nI q)), (9, .int (nI fr)), (4, .int v), (3, .int (nI y0)), (0, .ref (G.1 + 88))] dX9_chain_254 (by decide) rfl ?_
                                refine aw_iload 2 dX9_chain_256 rfl ?_
                                refine aw_istore [(10, .int (nI q2)), (8, .int (dv + ((if 0 < (100 - r2445) then (100 - r2445) else 0) + 50))), (7, .int (sv + 1)), (14, .int (nI q2)), (13, .int r2424), (12, .int (nI (((y0 / 10) % 10) - 1))), (11, .int 10), (9, .int (nI fr)), (4, .int v), (3, .int (nI y0)), (0, .ref (G.1 + 88))] dX9_chain_258 (by decide) rfl ?_
                                refine aw_iload 5 dX9_chain_260 rfl ?_
                                refine aw_istore [(9, .int (nI (((y0 / 10) % 10) - 1))), (10, .int (nI q2)), (8, .int (dv + ((if 0 < (100 - r2445) then (100 - r2445) else 0) + 50))), (7, .int (sv + 1)), (14, .int (nI q2)), (13, .int r2424), (12, .int (nI (((y0 / 10) % 10) - 1))), (11, .int 10), (4, .int v), (3, .int (nI y0)), (0, .ref (G.1 + 88))] dX9_chain_262 (by decide) rfl ?_
                                refine aw_iload 7 dX9_chain_264 rfl ?_
                                refine aw_bipush (10) dX9_chain_266 (by decide) ?_
                                refine aw_idiv dX9_chain_268 (by decide) ?_
                                refine aw_toe 1 (by decide) ?_
                                refine aw_istore [(11, .int 1), (9, .int (nI (((y0 / 10) % 10) - 1))), (10, .int (nI q2)), (8, .int (dv + ((if 0 < (100 - r2445) then (100 - r2445) else 0) + 50))), (7, .int (sv + 1)), (14, .int (nI q2)), (13, .int r2424), (12, .int (nI (((y0 / 10) % 10) - 1))), (4, .int v), (3, .int (nI y0)), (0, .ref (G.1 + 88))] dX9_chain_269 (by decide) rfl ?_
                                refine aw_goto 170 dX9_chain_271 (by decide) ?_
                                refine aw_lv [(11, .int 1), (10, .int (nI q2)), (9, .int (nI (((y0 / 10) % 10) - 1))), (8, .int (dv + ((if 0 < (100 - r2445) then (100 - r2445) else 0) + 50))), (7, .int (sv + 1)), (4, .int v), (3, .int (nI y0)), (0, .ref (G.1 + 88))] [0, 2, 1, 3, 4, 8, 9, 10] rfl ?_
                                exact ih2389 1 (nI q2) (((y0 / 10) % 10) - 1) (dv + ((if 0 < (100 - r2445) then (100 - r2445) else 0) + 50)) (sv + 1) lk12419 su12420 jd12421 wy12422 _ (by omega) (by decide) (Or.inr ⟨_, bq2, rfl⟩) (by omega) (p2431) f2433 f2434 f2435 f2436 f2437 f2438 f2439 f2440 f2441 f2442 f2443 f2426 f2427 f2428 f2429 (rg2_tr (k2388) (rg2_w k2430 (by decide)))
                              · have d243 := mt (j_eq (a := r2424.toInt) (b := (0)) (rfl) (rfl)).mpr c243
                                refine aw_iconst (0) dX9_chain_246 (by decide) ?_
                                refine aw_goto 252 dX9_chain_247 (by decide) ?_
                                refine aw_iadd dX9_chain_252 ?_
                                refine aw_iadd dX9_chain_253 ?_
                                refine aw_istore [(8, .int (dv + ((if 0 < (100 - r2445) then (100 - r2445) else 0) + 0))), (7, .int (sv + 1)), (14, .int (nI q2)), (13, .int r2424), (12, .int (nI (((y0 / 10) % 10) - 1))), (11, .int 10), (10, .int (nI q)), (9, .int (nI fr)), (4, .int v), (3, .int (nI y0)), (0, .ref (G.1 + 88))] dX9_chain_254 (by decide) rfl ?_
                                refine aw_iload 2 dX9_chain_256 rfl ?_
                                refine aw_istore [(10, .int (nI q2)), (8, .int (dv + ((if 0 < (100 - r2445) then (100 - r2445) else 0) + 0))), (7, .int (sv + 1)), (14, .int (nI q2)), (13, .int r2424), (12, .int (nI (((y0 / 10) % 10) - 1))), (11, .int 10), (9, .int (nI fr)), (4, .int v), (3, .int (nI y0)), (0, .ref (G.1 + 88))] dX9_chain_258 (by decide) rfl ?_
                                refine aw_iload 5 dX9_chain_260 rfl ?_
                                refine aw_istore [(9, .int (nI (((y0 / 10) % 10) - 1))), (10, .int (nI q2)), (8, .int (dv + ((if 0 < (100 - r2445) then (100 - r2445) else 0) + 0))), (7, .int (sv + 1)), (14, .int (nI q2)), (13, .int r2424), (12, .int (nI (((y0 / 10) % 10) - 1))), (11, .int 10), (4, .int v), (3, .int (nI y0)), (0, .ref (G.1 + 88))] dX9_chain_262 (by decide) rfl ?_
                                refine aw_iload 7 dX9_chain_264 rfl ?_
                                refine aw_bipush (10) dX9_chain_266 (by decide) ?_
                                refine aw_idiv dX9_chain_268 (by decide) ?_
                                refine aw_toe 1 (by decide) ?_
                                refine aw_istore [(11, .int 1), (9, .int (nI (((y0 / 10) % 10) - 1))), (10, .int (nI q2)), (8, .int (dv + ((if 0 < (100 - r2445) then (100 - r2445) else 0) + 0))), (7, .int (sv + 1)), (14, .int (nI q2)), (13, .int r2424), (12, .int (nI (((y0 / 10) % 10) - 1))), (4, .int v), (3, .int (nI y0)), (0, .ref (G.1 + 88))] dX9_chain_269 (by decide) rfl ?_
                                refine aw_goto 170 dX9_chain_271 (by decide) ?_
                                refine aw_lv [(11, .int 1), (10, .int (nI q2)), (9, .int (nI (((y0 / 10) % 10) - 1))), (8, .int (dv + ((if 0 < (100 - r2445) then (100 - r2445) else 0) + 0))), (7, .int (sv + 1)), (4, .int v), (3, .int (nI y0)), (0, .ref (G.1 + 88))] [0, 2, 1, 3, 4, 8, 9, 10] rfl ?_
                                exact ih2389 1 (nI q2) (((y0 / 10) % 10) - 1) (dv + ((if 0 < (100 - r2445) then (100 - r2445) else 0) + 0)) (sv + 1) lk12419 su12420 jd12421 wy12422 _ (by omega) (by decide) (Or.inr ⟨_, bq2, rfl⟩) (by omega) (p2431) f2433 f2434 f2435 f2436 f2437 f2438 f2439 f2440 f2441 f2442 f2443 f2426 f2427 f2428 f2429 (rg2_tr (k2388) (rg2_w k2430 (by decide)))
                    · have t123 := ite_0 c123
                      refine aw_aload_n 4 dX9_chain_126 rfl rfl ?_
                      refine aw_bipush (-2) dX9_chain_127 (by decide) ?_
                      refine aw_eV [.int (-2)] [] lX9_130 vX9_refuse mX9_refuse dX9_chain_129 (bX9_refuse (sp := sp) (fa := fa) (nb := nb) (ns := ns) (nm := nm) (nv := nv) (sh := sh) (ho := ho) (ow := ow) (sl := sl) (rg := rg) (x := (-2)) (q := 2) h88 h89 (by decide) (by decide)) h88 rfl rfl rfl (Nat.le_of_ble_eq_true rfl) (by decide) (by decide) rfl (fun h2450 q2449 => ?_)
                      obtain ⟨rg12448, f2451, k2452⟩ := q2449
                      have f2453 := rng_at k2452 (by decide) h88
                      have f2454 := rng_at k2452 (by decide) h90
                      have f2455 := rng_at k2452 (by decide) h91
                      have f2456 := rng_at k2452 (by decide) h93
                      have f2457 := rng_at k2452 (by decide) h94
                      have f2458 := rng_at k2452 (by decide) h95
                      have f2459 := rng_at k2452 (by decide) h96
                      have f2460 := rng_at k2452 (by decide) h97
                      have f2461 := rng_at k2452 (by decide) h98
                      have f2462 := rng_at k2452 (by decide) h92
                      have f2463 := rng_at k2452 (by decide) h99
                      have f2464 := rng_at k2452 (by decide) h100
                      have f2465 := rng_at k2452 (by decide) h101
                      have f2466 := rng_at k2452 (by decide) h102
                      subst hQF
                      exact aw_iret rfl dX9_chain_132 (by decide) (by decide) ⟨_, rfl, _, _, _, _, _, f2463, f2464, f2465, f2466, f2451, rg2_tr (rg2_rf 89 89 99 102 h) (rg2_w k2452 (by decide)), hjd, trivial⟩
                  · have t89 := ite_1e c89
                    refine aw_aload_n 4 dX9_chain_92 rfl rfl ?_
                    refine aw_iconst (-1) dX9_chain_93 (by decide) ?_
                    refine aw_eV [.int (-1)] [] lX9_130 vX9_refuse mX9_refuse dX9_chain_94 (bX9_refuse (sp := sp) (fa := fa) (nb := nb) (ns := ns) (nm := nm) (nv := nv) (sh := sh) (ho := ho) (ow := ow) (sl := sl) (rg := rg) (x := (-1)) (q := 1) h88 h89 (by decide) (by decide)) h88 rfl rfl rfl (Nat.le_of_ble_eq_true rfl) (by decide) (by decide) rfl (fun h2469 q2468 => ?_)
                    obtain ⟨rg12467, f2470, k2471⟩ := q2468
                    have f2472 := rng_at k2471 (by decide) h88
                    have f2473 := rng_at k2471 (by decide) h90
                    have f2474 := rng_at k2471 (by decide) h91
                    have f2475 := rng_at k2471 (by decide) h93
                    have f2476 := rng_at k2471 (by decide) h94
                    have f2477 := rng_at k2471 (by decide) h95
                    have f2478 := rng_at k2471 (by decide) h96
                    have f2479 := rng_at k2471 (by decide) h97
                    have f2480 := rng_at k2471 (by decide) h98
                    have f2481 := rng_at k2471 (by decide) h92
                    have f2482 := rng_at k2471 (by decide) h99
                    have f2483 := rng_at k2471 (by decide) h100
                    have f2484 := rng_at k2471 (by decide) h101
                    have f2485 := rng_at k2471 (by decide) h102
                    subst hQF
                    exact aw_iret rfl dX9_chain_97 (by decide) (by decide) ⟨_, rfl, _, _, _, _, _, f2482, f2483, f2484, f2485, f2470, rg2_tr (rg2_rf 89 89 99 102 h) (rg2_w k2471 (by decide)), hjd, trivial⟩
              · have t89 := ite_1e c89
                refine aw_aload_n 4 dX9_chain_92 rfl rfl ?_
                refine aw_iconst (-1) dX9_chain_93 (by decide) ?_
                refine aw_eV [.int (-1)] [] lX9_130 vX9_refuse mX9_refuse dX9_chain_94 (bX9_refuse (sp := sp) (fa := fa) (nb := nb) (ns := ns) (nm := nm) (nv := nv) (sh := sh) (ho := ho) (ow := ow) (sl := sl) (rg := rg) (x := (-1)) (q := 1) h88 h89 (by decide) (by decide)) h88 rfl rfl rfl (Nat.le_of_ble_eq_true rfl) (by decide) (by decide) rfl (fun h2488 q2487 => ?_)
                obtain ⟨rg12486, f2489, k2490⟩ := q2487
                have f2491 := rng_at k2490 (by decide) h88
                have f2492 := rng_at k2490 (by decide) h90
                have f2493 := rng_at k2490 (by decide) h91
                have f2494 := rng_at k2490 (by decide) h93
                have f2495 := rng_at k2490 (by decide) h94
                have f2496 := rng_at k2490 (by decide) h95
                have f2497 := rng_at k2490 (by decide) h96
                have f2498 := rng_at k2490 (by decide) h97
                have f2499 := rng_at k2490 (by decide) h98
                have f2500 := rng_at k2490 (by decide) h92
                have f2501 := rng_at k2490 (by decide) h99
                have f2502 := rng_at k2490 (by decide) h100
                have f2503 := rng_at k2490 (by decide) h101
                have f2504 := rng_at k2490 (by decide) h102
                subst hQF
                exact aw_iret rfl dX9_chain_97 (by decide) (by decide) ⟨_, rfl, _, _, _, _, _, f2501, f2502, f2503, f2504, f2489, rg2_tr (rg2_rf 89 89 99 102 h) (rg2_w k2490 (by decide)), hjd, trivial⟩
        · have d35 := mt (nv_le (a := y0) (b := 99) (rfl) (rfl) (by omega) (by omega)).mpr c35
          refine aw_iconst (3) dX9_chain_38 (by decide) ?_
          refine aw_goto 53 dX9_chain_39 (by decide) ?_
          refine aw_istore [(6, .int 3), (5, .int (nI (2 ^ a0))), (0, .ref (G.1 + 88)), (1, .int (nI a0)), (2, .int (nI i0)), (3, .int (nI y0)), (4, .int v)] dX9_chain_53 (by decide) rfl ?_
          refine aw_iload_n 5 dX9_chain_55 rfl rfl ?_
          refine aw_istore [(7, .int (nI y0)), (6, .int 3), (5, .int (nI (2 ^ a0))), (0, .ref (G.1 + 88)), (1, .int (nI a0)), (2, .int (nI i0)), (3, .int (nI y0)), (4, .int v)] dX9_chain_56 (by decide) rfl ?_
          refine aw_iload 0 dX9_chain_58 rfl ?_
          refine aw_if_le 117 dX9_chain_60 (by decide) (fun c60 => absurd c60 (by simp only [i_le, (nI_toInt (n := y0) (by omega)), (show (0 : Int32).toInt = 0 from rfl)] <;> omega)) (fun c60 => ?_)
          refine aw_iload 0 dX9_chain_63 rfl ?_
          refine aw_bipush (10) dX9_chain_65 (by decide) ?_
          refine aw_irem dX9_chain_67 (by decide) ?_
          refine aw_toe (nI (y0 % 10)) (nv_rem (rfl) (rfl) (by omega) (by decide) (by decide)) ?_
          refine aw_iconst (1) dX9_chain_68 (by decide) ?_
          refine aw_isub dX9_chain_69 ?_
          refine aw_istore [(8, .int ((nI (y0 % 10)) - 1)), (7, .int (nI y0)), (6, .int 3), (5, .int (nI (2 ^ a0))), (0, .ref (G.1 + 88)), (1, .int (nI a0)), (2, .int (nI i0)), (3, .int (nI y0)), (4, .int v)] dX9_chain_70 (by decide) rfl ?_
          refine aw_iload 0 dX9_chain_72 rfl ?_
          refine aw_iconst (4) dX9_chain_74 (by decide) ?_
          refine aw_dS [.int ((nI (y0 % 10)) - 1), .int 4] [] lX9_126 sX9_isIn mX9_isIn dX9_chain_75 (bX9_isIn (x := (nI (y0 % 10)) - 1) (n := 4) (by omega)) rfl (Nat.le_of_ble_eq_true rfl) (by decide) (by decide) rfl ?_
          refine aw_if_eq 92 dX9_chain_78 (by decide) (fun c78 => ?_) (fun c78 => ?_)
          · have t78 := ite_0 c78
            refine aw_aload_n 4 dX9_chain_92 rfl rfl ?_
            refine aw_iconst (-1) dX9_chain_93 (by decide) ?_
            refine aw_eV [.int (-1)] [] lX9_130 vX9_refuse mX9_refuse dX9_chain_94 (bX9_refuse (sp := sp) (fa := fa) (nb := nb) (ns := ns) (nm := nm) (nv := nv) (sh := sh) (ho := ho) (ow := ow) (sl := sl) (rg := rg) (x := (-1)) (q := 1) h88 h89 (by decide) (by decide)) h88 rfl rfl rfl (Nat.le_of_ble_eq_true rfl) (by decide) (by decide) rfl (fun h2507 q2506 => ?_)
            obtain ⟨rg12505, f2508, k2509⟩ := q2506
            have f2510 := rng_at k2509 (by decide) h88
            have f2511 := rng_at k2509 (by decide) h90
            have f2512 := rng_at k2509 (by decide) h91
            have f2513 := rng_at k2509 (by decide) h93
            have f2514 := rng_at k2509 (by decide) h94
            have f2515 := rng_at k2509 (by decide) h95
            have f2516 := rng_at k2509 (by decide) h96
            have f2517 := rng_at k2509 (by decide) h97
            have f2518 := rng_at k2509 (by decide) h98
            have f2519 := rng_at k2509 (by decide) h92
            have f2520 := rng_at k2509 (by decide) h99
            have f2521 := rng_at k2509 (by decide) h100
            have f2522 := rng_at k2509 (by decide) h101
            have f2523 := rng_at k2509 (by decide) h102
            subst hQF
            exact aw_iret rfl dX9_chain_97 (by decide) (by decide) ⟨_, rfl, _, _, _, _, _, f2520, f2521, f2522, f2523, f2508, rg2_tr (rg2_rf 89 89 99 102 h) (rg2_w k2509 (by decide)), hjd, trivial⟩
          · have t78 := ite_1 c78
            have g0 : 1 ≤ y0 % 10 ∧ y0 % 10 ≤ 4 := by rw [dig_i (by omega)] at t78; omega
            rw [dig_e g0.1]
            refine aw_iload 3 dX9_chain_81 rfl ?_
            refine aw_iload 0 dX9_chain_83 rfl ?_
            refine aw_ishr dX9_chain_85 ?_
            refine aw_iconst (1) dX9_chain_86 (by decide) ?_
            refine aw_iand dX9_chain_87 ?_
            refine aw_toe (if (2 ^ a0).testBit (y0 % 10 - 1) = true then 1 else 0) (nv_bit (rfl) (rfl) (by omega) (by omega)) ?_
            refine aw_iconst (1) dX9_chain_88 (by decide) ?_
            refine aw_icmp_ne 98 dX9_chain_89 (by decide) (fun c89 => ?_) (fun c89 => ?_)
            · have t89 := ite_0e c89
              have w1 := or_16 (a := 2 ^ a0) (b := y0 % 10 - 1) (by omega) (by omega)
              refine aw_iload 3 dX9_chain_98 rfl ?_
              refine aw_iconst (1) dX9_chain_100 (by decide) ?_
              refine aw_iload 0 dX9_chain_101 rfl ?_
              refine aw_ishl dX9_chain_103 ?_
              refine aw_toe (nI (2 ^ (y0 % 10 - 1))) (nv_shl1 (rfl) (by omega)) ?_
              refine aw_ior dX9_chain_104 ?_
              refine aw_toe (nI ((2 ^ a0) ||| (2 ^ (y0 % 10 - 1)))) (nv_or (rfl) (rfl)) ?_
              refine aw_istore [(5, .int (nI ((2 ^ a0) ||| (2 ^ (y0 % 10 - 1))))), (8, .int (nI (y0 % 10 - 1))), (7, .int (nI y0)), (6, .int 3), (0, .ref (G.1 + 88)), (1, .int (nI a0)), (2, .int (nI i0)), (3, .int (nI y0)), (4, .int v)] dX9_chain_105 (by decide) rfl ?_
              refine aw_iload 2 dX9_chain_107 rfl ?_
              refine aw_bipush (10) dX9_chain_109 (by decide) ?_
              refine aw_idiv dX9_chain_111 (by decide) ?_
              refine aw_toe (nI (y0 / 10)) (nv_div (rfl) (rfl) (by omega) (by decide) (by decide)) ?_
              refine aw_istore [(7, .int (nI (y0 / 10))), (5, .int (nI ((2 ^ a0) ||| (2 ^ (y0 % 10 - 1))))), (8, .int (nI (y0 % 10 - 1))), (6, .int 3), (0, .ref (G.1 + 88)), (1, .int (nI a0)), (2, .int (nI i0)), (3, .int (nI y0)), (4, .int v)] dX9_chain_112 (by decide) rfl ?_
              refine aw_goto 58 dX9_chain_114 (by decide) ?_
              refine aw_iload 0 dX9_chain_58 rfl ?_
              refine aw_if_le 117 dX9_chain_60 (by decide) (fun c60 => absurd c60 (by simp only [i_le, (nI_toInt (n := y0 / 10) (by omega)), (show (0 : Int32).toInt = 0 from rfl)] <;> omega)) (fun c60 => ?_)
              refine aw_iload 0 dX9_chain_63 rfl ?_
              refine aw_bipush (10) dX9_chain_65 (by decide) ?_
              refine aw_irem dX9_chain_67 (by decide) ?_
              refine aw_toe (nI ((y0 / 10) % 10)) (nv_rem (rfl) (rfl) (by omega) (by decide) (by decide)) ?_
              refine aw_iconst (1) dX9_chain_68 (by decide) ?_
              refine aw_isub dX9_chain_69 ?_
              refine aw_istore [(8, .int ((nI ((y0 / 10) % 10)) - 1)), (7, .int (nI (y0 / 10))), (5, .int (nI ((2 ^ a0) ||| (2 ^ (y0 % 10 - 1))))), (6, .int 3), (0, .ref (G.1 + 88)), (1, .int (nI a0)), (2, .int (nI i0)), (3, .int (nI y0)), (4, .int v)] dX9_chain_70 (by decide) rfl ?_
              refine aw_iload 0 dX9_chain_72 rfl ?_
              refine aw_iconst (4) dX9_chain_74 (by decide) ?_
              refine aw_dS [.int ((nI ((y0 / 10) % 10)) - 1), .int 4] [] lX9_126 sX9_isIn mX9_isIn dX9_chain_75 (bX9_isIn (x := (nI ((y0 / 10) % 10)) - 1) (n := 4) (by omega)) rfl (Nat.le_of_ble_eq_true rfl) (by decide) (by decide) rfl ?_
              refine aw_if_eq 92 dX9_chain_78 (by decide) (fun c78 => ?_) (fun c78 => ?_)
              · have t78 := ite_0 c78
                refine aw_aload_n 4 dX9_chain_92 rfl rfl ?_
                refine aw_iconst (-1) dX9_chain_93 (by decide) ?_
                refine aw_eV [.int (-1)] [] lX9_130 vX9_refuse mX9_refuse dX9_chain_94 (bX9_refuse (sp := sp) (fa := fa) (nb := nb) (ns := ns) (nm := nm) (nv := nv) (sh := sh) (ho := ho) (ow := ow) (sl := sl) (rg := rg) (x := (-1)) (q := 1) h88 h89 (by decide) (by decide)) h88 rfl rfl rfl (Nat.le_of_ble_eq_true rfl) (by decide) (by decide) rfl (fun h2526 q2525 => ?_)
                obtain ⟨rg12524, f2527, k2528⟩ := q2525
                have f2529 := rng_at k2528 (by decide) h88
                have f2530 := rng_at k2528 (by decide) h90
                have f2531 := rng_at k2528 (by decide) h91
                have f2532 := rng_at k2528 (by decide) h93
                have f2533 := rng_at k2528 (by decide) h94
                have f2534 := rng_at k2528 (by decide) h95
                have f2535 := rng_at k2528 (by decide) h96
                have f2536 := rng_at k2528 (by decide) h97
                have f2537 := rng_at k2528 (by decide) h98
                have f2538 := rng_at k2528 (by decide) h92
                have f2539 := rng_at k2528 (by decide) h99
                have f2540 := rng_at k2528 (by decide) h100
                have f2541 := rng_at k2528 (by decide) h101
                have f2542 := rng_at k2528 (by decide) h102
                subst hQF
                exact aw_iret rfl dX9_chain_97 (by decide) (by decide) ⟨_, rfl, _, _, _, _, _, f2539, f2540, f2541, f2542, f2527, rg2_tr (rg2_rf 89 89 99 102 h) (rg2_w k2528 (by decide)), hjd, trivial⟩
              · have t78 := ite_1 c78
                have g1 : 1 ≤ (y0 / 10) % 10 ∧ (y0 / 10) % 10 ≤ 4 := by rw [dig_i (by omega)] at t78; omega
                rw [dig_e g1.1]
                refine aw_iload 2 dX9_chain_81 rfl ?_
                refine aw_iload 0 dX9_chain_83 rfl ?_
                refine aw_ishr dX9_chain_85 ?_
                refine aw_iconst (1) dX9_chain_86 (by decide) ?_
                refine aw_iand dX9_chain_87 ?_
                refine aw_toe (if ((2 ^ a0) ||| (2 ^ (y0 % 10 - 1))).testBit ((y0 / 10) % 10 - 1) = true then 1 else 0) (nv_bit (rfl) (rfl) (by omega) (by omega)) ?_
                refine aw_iconst (1) dX9_chain_88 (by decide) ?_
                refine aw_icmp_ne 98 dX9_chain_89 (by decide) (fun c89 => ?_) (fun c89 => ?_)
                · have t89 := ite_0e c89
                  have w2 := or_16 (a := (2 ^ a0) ||| (2 ^ (y0 % 10 - 1))) (b := (y0 / 10) % 10 - 1) (by omega) (by omega)
                  refine aw_iload 2 dX9_chain_98 rfl ?_
                  refine aw_iconst (1) dX9_chain_100 (by decide) ?_
                  refine aw_iload 0 dX9_chain_101 rfl ?_
                  refine aw_ishl dX9_chain_103 ?_
                  refine aw_toe (nI (2 ^ ((y0 / 10) % 10 - 1))) (nv_shl1 (rfl) (by omega)) ?_
                  refine aw_ior dX9_chain_104 ?_
                  refine aw_toe (nI (((2 ^ a0) ||| (2 ^ (y0 % 10 - 1))) ||| (2 ^ ((y0 / 10) % 10 - 1)))) (nv_or (rfl) (rfl)) ?_
                  refine aw_istore [(5, .int (nI (((2 ^ a0) ||| (2 ^ (y0 % 10 - 1))) ||| (2 ^ ((y0 / 10) % 10 - 1))))), (8, .int (nI ((y0 / 10) % 10 - 1))), (7, .int (nI (y0 / 10))), (6, .int 3), (0, .ref (G.1 + 88)), (1, .int (nI a0)), (2, .int (nI i0)), (3, .int (nI y0)), (4, .int v)] dX9_chain_105 (by decide) rfl ?_
                  refine aw_iload 2 dX9_chain_107 rfl ?_
                  refine aw_bipush (10) dX9_chain_109 (by decide) ?_
                  refine aw_idiv dX9_chain_111 (by decide) ?_
                  refine aw_toe (nI ((y0 / 10) / 10)) (nv_div (rfl) (rfl) (by omega) (by decide) (by decide)) ?_
                  refine aw_istore [(7, .int (nI ((y0 / 10) / 10))), (5, .int (nI (((2 ^ a0) ||| (2 ^ (y0 % 10 - 1))) ||| (2 ^ ((y0 / 10) % 10 - 1))))), (8, .int (nI ((y0 / 10) % 10 - 1))), (6, .int 3), (0, .ref (G.1 + 88)), (1, .int (nI a0)), (2, .int (nI i0)), (3, .int (nI y0)), (4, .int v)] dX9_chain_112 (by decide) rfl ?_
                  refine aw_goto 58 dX9_chain_114 (by decide) ?_
                  refine aw_iload 0 dX9_chain_58 rfl ?_
                  refine aw_if_le 117 dX9_chain_60 (by decide) (fun c60 => absurd c60 (by simp only [i_le, (nI_toInt (n := (y0 / 10) / 10) (by omega)), (show (0 : Int32).toInt = 0 from rfl)] <;> omega)) (fun c60 => ?_)
                  refine aw_iload 0 dX9_chain_63 rfl ?_
                  refine aw_bipush (10) dX9_chain_65 (by decide) ?_
                  refine aw_irem dX9_chain_67 (by decide) ?_
                  refine aw_toe (nI (((y0 / 10) / 10) % 10)) (nv_rem (rfl) (rfl) (by omega) (by decide) (by decide)) ?_
                  refine aw_iconst (1) dX9_chain_68 (by decide) ?_
                  refine aw_isub dX9_chain_69 ?_
                  refine aw_istore [(8, .int ((nI (((y0 / 10) / 10) % 10)) - 1)), (7, .int (nI ((y0 / 10) / 10))), (5, .int (nI (((2 ^ a0) ||| (2 ^ (y0 % 10 - 1))) ||| (2 ^ ((y0 / 10) % 10 - 1))))), (6, .int 3), (0, .ref (G.1 + 88)), (1, .int (nI a0)), (2, .int (nI i0)), (3, .int (nI y0)), (4, .int v)] dX9_chain_70 (by decide) rfl ?_
                  refine aw_iload 0 dX9_chain_72 rfl ?_
                  refine aw_iconst (4) dX9_chain_74 (by decide) ?_
                  refine aw_dS [.int ((nI (((y0 / 10) / 10) % 10)) - 1), .int 4] [] lX9_126 sX9_isIn mX9_isIn dX9_chain_75 (bX9_isIn (x := (nI (((y0 / 10) / 10) % 10)) - 1) (n := 4) (by omega)) rfl (Nat.le_of_ble_eq_true rfl) (by decide) (by decide) rfl ?_
                  refine aw_if_eq 92 dX9_chain_78 (by decide) (fun c78 => ?_) (fun c78 => ?_)
                  · have t78 := ite_0 c78
                    refine aw_aload_n 4 dX9_chain_92 rfl rfl ?_
                    refine aw_iconst (-1) dX9_chain_93 (by decide) ?_
                    refine aw_eV [.int (-1)] [] lX9_130 vX9_refuse mX9_refuse dX9_chain_94 (bX9_refuse (sp := sp) (fa := fa) (nb := nb) (ns := ns) (nm := nm) (nv := nv) (sh := sh) (ho := ho) (ow := ow) (sl := sl) (rg := rg) (x := (-1)) (q := 1) h88 h89 (by decide) (by decide)) h88 rfl rfl rfl (Nat.le_of_ble_eq_true rfl) (by decide) (by decide) rfl (fun h2545 q2544 => ?_)
                    obtain ⟨rg12543, f2546, k2547⟩ := q2544
                    have f2548 := rng_at k2547 (by decide) h88
                    have f2549 := rng_at k2547 (by decide) h90
                    have f2550 := rng_at k2547 (by decide) h91
                    have f2551 := rng_at k2547 (by decide) h93
                    have f2552 := rng_at k2547 (by decide) h94
                    have f2553 := rng_at k2547 (by decide) h95
                    have f2554 := rng_at k2547 (by decide) h96
                    have f2555 := rng_at k2547 (by decide) h97
                    have f2556 := rng_at k2547 (by decide) h98
                    have f2557 := rng_at k2547 (by decide) h92
                    have f2558 := rng_at k2547 (by decide) h99
                    have f2559 := rng_at k2547 (by decide) h100
                    have f2560 := rng_at k2547 (by decide) h101
                    have f2561 := rng_at k2547 (by decide) h102
                    subst hQF
                    exact aw_iret rfl dX9_chain_97 (by decide) (by decide) ⟨_, rfl, _, _, _, _, _, f2558, f2559, f2560, f2561, f2546, rg2_tr (rg2_rf 89 89 99 102 h) (rg2_w k2547 (by decide)), hjd, trivial⟩
                  · have t78 := ite_1 c78
                    have g2 : 1 ≤ ((y0 / 10) / 10) % 10 ∧ ((y0 / 10) / 10) % 10 ≤ 4 := by rw [dig_i (by omega)] at t78; omega
                    rw [dig_e g2.1]
                    refine aw_iload 2 dX9_chain_81 rfl ?_
                    refine aw_iload 0 dX9_chain_83 rfl ?_
                    refine aw_ishr dX9_chain_85 ?_
                    refine aw_iconst (1) dX9_chain_86 (by decide) ?_
                    refine aw_iand dX9_chain_87 ?_
                    refine aw_toe (if (((2 ^ a0) ||| (2 ^ (y0 % 10 - 1))) ||| (2 ^ ((y0 / 10) % 10 - 1))).testBit (((y0 / 10) / 10) % 10 - 1) = true then 1 else 0) (nv_bit (rfl) (rfl) (by omega) (by omega)) ?_
                    refine aw_iconst (1) dX9_chain_88 (by decide) ?_
                    refine aw_icmp_ne 98 dX9_chain_89 (by decide) (fun c89 => ?_) (fun c89 => ?_)
                    · have t89 := ite_0e c89
                      have w3 := or_16 (a := ((2 ^ a0) ||| (2 ^ (y0 % 10 - 1))) ||| (2 ^ ((y0 / 10) % 10 - 1))) (b := ((y0 / 10) / 10) % 10 - 1) (by omega) (by omega)
                      refine aw_iload 2 dX9_chain_98 rfl ?_
                      refine aw_iconst (1) dX9_chain_100 (by decide) ?_
                      refine aw_iload 0 dX9_chain_101 rfl ?_
                      refine aw_ishl dX9_chain_103 ?_
                      refine aw_toe (nI (2 ^ (((y0 / 10) / 10) % 10 - 1))) (nv_shl1 (rfl) (by omega)) ?_
                      refine aw_ior dX9_chain_104 ?_
                      refine aw_toe (nI ((((2 ^ a0) ||| (2 ^ (y0 % 10 - 1))) ||| (2 ^ ((y0 / 10) % 10 - 1))) ||| (2 ^ (((y0 / 10) / 10) % 10 - 1)))) (nv_or (rfl) (rfl)) ?_
                      refine aw_istore [(5, .int (nI ((((2 ^ a0) ||| (2 ^ (y0 % 10 - 1))) ||| (2 ^ ((y0 / 10) % 10 - 1))) ||| (2 ^ (((y0 / 10) / 10) % 10 - 1))))), (8, .int (nI (((y0 / 10) / 10) % 10 - 1))), (7, .int (nI ((y0 / 10) / 10))), (6, .int 3), (0, .ref (G.1 + 88)), (1, .int (nI a0)), (2, .int (nI i0)), (3, .int (nI y0)), (4, .int v)] dX9_chain_105 (by decide) rfl ?_
                      refine aw_iload 2 dX9_chain_107 rfl ?_
                      refine aw_bipush (10) dX9_chain_109 (by decide) ?_
                      refine aw_idiv dX9_chain_111 (by decide) ?_
                      refine aw_toe (nI (((y0 / 10) / 10) / 10)) (nv_div (rfl) (rfl) (by omega) (by decide) (by decide)) ?_
                      refine aw_istore [(7, .int (nI (((y0 / 10) / 10) / 10))), (5, .int (nI ((((2 ^ a0) ||| (2 ^ (y0 % 10 - 1))) ||| (2 ^ ((y0 / 10) % 10 - 1))) ||| (2 ^ (((y0 / 10) / 10) % 10 - 1))))), (8, .int (nI (((y0 / 10) / 10) % 10 - 1))), (6, .int 3), (0, .ref (G.1 + 88)), (1, .int (nI a0)), (2, .int (nI i0)), (3, .int (nI y0)), (4, .int v)] dX9_chain_112 (by decide) rfl ?_
                      refine aw_goto 58 dX9_chain_114 (by decide) ?_
                      refine aw_iload 0 dX9_chain_58 rfl ?_
                      refine aw_if_le 117 dX9_chain_60 (by decide) (fun c60 => ?_) (fun c60 => absurd (by simp only [i_le, (nI_toInt (n := ((y0 / 10) / 10) / 10) (by omega)), (show (0 : Int32).toInt = 0 from rfl)] <;> omega) c60)
                      refine aw_iload 8 dX9_chain_117 rfl ?_
                      refine aw_iconst (3) dX9_chain_119 (by decide) ?_
                      refine aw_dS [.int v, .int 3] [] lX9_126 sX9_isIn mX9_isIn dX9_chain_120 (bX9_isIn (x := v) (n := 3) (by omega)) rfl (Nat.le_of_ble_eq_true rfl) (by decide) (by decide) rfl ?_
                      refine aw_if_ne 133 dX9_chain_123 (by decide) (fun c123 => ?_) (fun c123 => ?_)
                      · have t123 := ite_1 c123
                        refine aw_iconst (0) dX9_chain_133 (by decide) ?_
                        refine aw_istore [(7, .int 0), (5, .int (nI ((((2 ^ a0) ||| (2 ^ (y0 % 10 - 1))) ||| (2 ^ ((y0 / 10) % 10 - 1))) ||| (2 ^ (((y0 / 10) / 10) % 10 - 1))))), (8, .int (nI (((y0 / 10) / 10) % 10 - 1))), (6, .int 3), (0, .ref (G.1 + 88)), (1, .int (nI a0)), (2, .int (nI i0)), (3, .int (nI y0)), (4, .int v)] dX9_chain_134 (by decide) rfl ?_
                        refine aw_iconst (0) dX9_chain_136 (by decide) ?_
                        refine aw_istore [(8, .int 0), (7, .int 0), (5, .int (nI ((((2 ^ a0) ||| (2 ^ (y0 % 10 - 1))) ||| (2 ^ ((y0 / 10) % 10 - 1))) ||| (2 ^ (((y0 / 10) / 10) % 10 - 1))))), (6, .int 3), (0, .ref (G.1 + 88)), (1, .int (nI a0)), (2, .int (nI i0)), (3, .int (nI y0)), (4, .int v)] dX9_chain_137 (by decide) rfl ?_
                        refine aw_iload_n 5 dX9_chain_139 rfl rfl ?_
                        refine aw_istore [(9, .int (nI a0)), (8, .int 0), (7, .int 0), (5, .int (nI ((((2 ^ a0) ||| (2 ^ (y0 % 10 - 1))) ||| (2 ^ ((y0 / 10) % 10 - 1))) ||| (2 ^ (((y0 / 10) / 10) % 10 - 1))))), (6, .int 3), (0, .ref (G.1 + 88)), (1, .int (nI a0)), (2, .int (nI i0)), (3, .int (nI y0)), (4, .int v)] dX9_chain_140 (by decide) rfl ?_
                        refine aw_iload_n 7 dX9_chain_142 rfl rfl ?_
                        refine aw_istore [(10, .int (nI i0)), (9, .int (nI a0)), (8, .int 0), (7, .int 0), (5, .int (nI ((((2 ^ a0) ||| (2 ^ (y0 % 10 - 1))) ||| (2 ^ ((y0 / 10) % 10 - 1))) ||| (2 ^ (((y0 / 10) / 10) % 10 - 1))))), (6, .int 3), (0, .ref (G.1 + 88)), (1, .int (nI a0)), (2, .int (nI i0)), (3, .int (nI y0)), (4, .int v)] dX9_chain_143 (by decide) rfl ?_
                        refine aw_iload 5 dX9_chain_145 rfl ?_
                        refine aw_iconst (3) dX9_chain_147 (by decide) ?_
                        refine aw_icmp_ne 156 dX9_chain_148 (by decide) (fun c148 => absurd (by decide) c148) (fun c148 => ?_)
                        refine aw_bipush (100) dX9_chain_151 (by decide) ?_
                        refine aw_goto 168 dX9_chain_153 (by decide) ?_
                        refine aw_istore [(11, .int 100), (10, .int (nI i0)), (9, .int (nI a0)), (8, .int 0), (7, .int 0), (5, .int (nI ((((2 ^ a0) ||| (2 ^ (y0 % 10 - 1))) ||| (2 ^ ((y0 / 10) % 10 - 1))) ||| (2 ^ (((y0 / 10) / 10) % 10 - 1))))), (6, .int 3), (0, .ref (G.1 + 88)), (1, .int (nI a0)), (2, .int (nI i0)), (3, .int (nI y0)), (4, .int v)] dX9_chain_168 (by decide) rfl ?_
                        refine aw_lv [(11, .int 100), (10, .int (nI i0)), (9, .int (nI a0)), (8, .int 0), (7, .int 0), (4, .int v), (3, .int (nI y0)), (0, .ref (G.1 + 88))] [0, 1, 2, 3, 4, 11, 10, 7] rfl ?_
                        suffices L2579 : ∀ (mm : Nat) (x : Nat) (ev : Int32) (fr : Nat) (dv : Int32) (sv : Int32) (lk1 : Nat → Int32) (su1 : Nat → Int32) (jd1 : Nat → Int32) (wy1 : Nat → Int32) (h2562 : List va_E), x < mm → (x = 0 ∨ x = 1 ∨ x = 2 ∨ x = 3) → (ev = -9 ∨ ∃ q, q < 10 ∧ ev = nI q) → (fr < 4) → (pB jd1) → h2562[88]? = some (oB 9 (lM G (nI sp) (nI fa) (nI nb) (nI ns) (nI nm) ho ow sl (nI nv) (nI sh))) → h2562[89]? = some (aI 7 rg) → h2562[90]? = some (aI 20 (nA m)) → h2562[91]? = some (aI 4 (nA ye)) → h2562[93]? = some (aI 40 W) → h2562[94]? = some (aI 40 Z) → h2562[95]? = some (aI 40 Ro) → h2562[96]? = some (aI 40 Co) → h2562[97]? = some (aI 30 (nA b1)) → h2562[98]? = some (aI 30 (nA b2)) → h2562[92]? = some (aI 4 (nA fi)) → h2562[99]? = some (aI 100 lk1) → h2562[100]? = some (aI 11264 su1) → h2562[101]? = some (aI 10 jd1) → h2562[102]? = some (aI 11264 wy1) → rg2 89 89 99 102 h h2562 → AW l G yX9_chain cX9_chain 15 (some .int) (xR 6 0 0) (fun _ _ => True) QF 0 0 170 [(11, .int (nI (p10 x))), (10, .int ev), (9, .int (nI fr)), (8, .int dv), (7, .int sv), (4, .int v), (3, .int (nI y0)), (0, .ref (G.1 + 88))] [] h2562 from L2579 (3 + 1) 3 (nI i0) a0 0 0 lk su jd wy _ (Nat.lt_succ_self _) (by decide) (Or.inr ⟨_, by omega, rfl⟩) (by omega) (hjd) h88 h89 h90 h91 h93 h94 h95 h96 h97 h98 h92 h99 h100 h101 h102 (rg2_rf 89 89 99 102 h)
                        intro mm
                        induction mm with
                        | zero =>
                          intro x ev fr dv sv lk1 su1 jd1 wy1 h2562 hmm hx he bfr hp f2563 f2564 f2565 f2566 f2567 f2568 f2569 f2570 f2571 f2572 f2573 f2574 f2575 f2576 f2577 k2578
                          exact absurd hmm (Nat.not_lt_zero _)
                        | succ mm ih2579 =>
                          intro x ev fr dv sv lk1 su1 jd1 wy1 h2562 hmm hx he bfr hp f2563 f2564 f2565 f2566 f2567 f2568 f2569 f2570 f2571 f2572 f2573 f2574 f2575 f2576 f2577 k2578
                          rcases hx with rfl | rfl | rfl | rfl
                          · refine aw_lv [(11, .int 0), (10, .int ev), (9, .int (nI fr)), (8, .int dv), (7, .int sv), (4, .int v), (3, .int (nI y0)), (0, .ref (G.1 + 88))] [0, 1, 2, 3, 4, 5, 6, 7] rfl ?_
                            refine aw_iload 0 dX9_chain_170 rfl ?_
                            refine aw_if_le 274 dX9_chain_172 (by decide) (fun c172 => ?_) (fun c172 => absurd (by decide) c172)
                            refine aw_iload 5 dX9_chain_274 rfl ?_
                            refine aw_if_ne 284 dX9_chain_276 (by decide) (fun c276 => ?_) (fun c276 => ?_)
                            · have d276 := mt (j_eq (a := v.toInt) (b := (0)) (rfl) (rfl)).mpr c276
                              refine aw_iload 5 dX9_chain_284 rfl ?_
                              refine aw_iconst (1) dX9_chain_286 (by decide) ?_
                              refine aw_icmp_ne 295 dX9_chain_287 (by decide) (fun c287 => ?_) (fun c287 => ?_)
                              · have d287 := mt (j_eq (a := v.toInt) (b := (1)) (rfl) (rfl)).mpr c287
                                refine aw_iload 3 dX9_chain_295 rfl ?_
                                subst hQF
                                exact aw_iret rfl dX9_chain_297 (by decide) (by decide) ⟨_, rfl, _, _, _, _, _, f2574, f2575, f2576, f2577, f2564, k2578, hp, trivial⟩
                              · have d287 := (j_eq (a := v.toInt) (b := (1)) (rfl) (rfl)).mp c287
                                refine aw_iload 4 dX9_chain_290 rfl ?_
                                refine aw_goto 297 dX9_chain_292 (by decide) ?_
                                subst hQF
                                exact aw_iret rfl dX9_chain_297 (by decide) (by decide) ⟨_, rfl, _, _, _, _, _, f2574, f2575, f2576, f2577, f2564, k2578, hp, trivial⟩
                            · have d276 := (j_eq (a := v.toInt) (b := (0)) (rfl) (rfl)).mp c276
                              refine aw_iload 1 dX9_chain_279 rfl ?_
                              refine aw_goto 297 dX9_chain_281 (by decide) ?_
                              subst hQF
                              exact aw_iret rfl dX9_chain_297 (by decide) (by decide) ⟨_, rfl, _, _, _, _, _, f2574, f2575, f2576, f2577, f2564, k2578, hp, trivial⟩
                          · refine aw_lv [(11, .int 1), (10, .int ev), (9, .int (nI fr)), (8, .int dv), (7, .int sv), (4, .int v), (3, .int (nI y0)), (0, .ref (G.1 + 88))] [0, 1, 2, 3, 4, 5, 6, 7] rfl ?_
                            refine aw_iload 0 dX9_chain_170 rfl ?_
                            refine aw_if_le 274 dX9_chain_172 (by decide) (fun c172 => absurd c172 (by decide)) (fun c172 => ?_)
                            refine aw_iload 1 dX9_chain_175 rfl ?_
                            refine aw_if_lt 274 dX9_chain_177 (by decide) (fun c177 => ?_) (fun c177 => ?_)
                            · have d177 := (j_lt (a := ev.toInt) (b := (0)) (rfl) (rfl)).mp c177
                              refine aw_iload 5 dX9_chain_274 rfl ?_
                              refine aw_if_ne 284 dX9_chain_276 (by decide) (fun c276 => ?_) (fun c276 => ?_)
                              · have d276 := mt (j_eq (a := v.toInt) (b := (0)) (rfl) (rfl)).mpr c276
                                refine aw_iload 5 dX9_chain_284 rfl ?_
                                refine aw_iconst (1) dX9_chain_286 (by decide) ?_
                                refine aw_icmp_ne 295 dX9_chain_287 (by decide) (fun c287 => ?_) (fun c287 => ?_)
                                · have d287 := mt (j_eq (a := v.toInt) (b := (1)) (rfl) (rfl)).mpr c287
                                  refine aw_iload 3 dX9_chain_295 rfl ?_
                                  subst hQF
                                  exact aw_iret rfl dX9_chain_297 (by decide) (by decide) ⟨_, rfl, _, _, _, _, _, f2574, f2575, f2576, f2577, f2564, k2578, hp, trivial⟩
                                · have d287 := (j_eq (a := v.toInt) (b := (1)) (rfl) (rfl)).mp c287
                                  refine aw_iload 4 dX9_chain_290 rfl ?_
                                  refine aw_goto 297 dX9_chain_292 (by decide) ?_
                                  subst hQF
                                  exact aw_iret rfl dX9_chain_297 (by decide) (by decide) ⟨_, rfl, _, _, _, _, _, f2574, f2575, f2576, f2577, f2564, k2578, hp, trivial⟩
                              · have d276 := (j_eq (a := v.toInt) (b := (0)) (rfl) (rfl)).mp c276
                                refine aw_iload 1 dX9_chain_279 rfl ?_
                                refine aw_goto 297 dX9_chain_281 (by decide) ?_
                                subst hQF
                                exact aw_iret rfl dX9_chain_297 (by decide) (by decide) ⟨_, rfl, _, _, _, _, _, f2574, f2575, f2576, f2577, f2564, k2578, hp, trivial⟩
                            · have d177 := mt (j_lt (a := ev.toInt) (b := (0)) (rfl) (rfl)).mpr c177
                              obtain ⟨q, bq, rfl⟩ := he.resolve_left (fun e => by rw [e] at d177; exact d177 (by decide))
                              refine aw_iload_n 6 dX9_chain_180 rfl rfl ?_
                              refine aw_iload 0 dX9_chain_181 rfl ?_
                              refine aw_idiv dX9_chain_183 (by decide) ?_
                              refine aw_toe (nI (y0 / 1)) (nv_div (rfl) (rfl) (by omega) (by decide) (by decide)) ?_
                              refine aw_bipush (10) dX9_chain_184 (by decide) ?_
                              refine aw_irem dX9_chain_186 (by decide) ?_
                              refine aw_toe (nI ((y0 / 1) % 10)) (nv_rem (rfl) (rfl) (by omega) (by decide) (by decide)) ?_
                              refine aw_iconst (1) dX9_chain_187 (by decide) ?_
                              refine aw_isub dX9_chain_188 ?_
                              refine aw_toe (nI (((y0 / 1) % 10) - 1)) (nv_sub (rfl) (rfl) (by omega)) ?_
                              refine aw_istore [(12, .int (nI (((y0 / 1) % 10) - 1))), (11, .int 1), (10, .int (nI q)), (9, .int (nI fr)), (8, .int dv), (7, .int sv), (4, .int v), (3, .int (nI y0)), (0, .ref (G.1 + 88))] dX9_chain_189 (by decide) rfl ?_
                              refine aw_aload_n 8 dX9_chain_191 rfl rfl ?_
                              refine aw_iload 3 dX9_chain_192 rfl ?_
                              refine aw_iload 2 dX9_chain_194 rfl ?_
                              refine aw_iload 0 dX9_chain_196 rfl ?_
                              refine aw_uV [.int (nI fr), .int (nI q), .int (nI (((y0 / 1) % 10) - 1))] [] lX9_190 vX9_isSure mX9_isSure dX9_chain_198 (bX9_isSure (sp := sp) (fa := fa) (nb := nb) (ns := ns) (nm := nm) (nv := nv) (sh := sh) (ho := ho) (ow := ow) (sl := sl) (m := m) (ye := ye) (b1 := b1) (b2 := b2) (W := W) (Z := Z) (Ro := Ro) (Co := Co) (fi := fi) (lk := lk1) (su := su1) (jd := jd1) (wy := wy1) (a := fr) (b := ((y0 / 1) % 10) - 1) (i := q) f2563 f2565 f2566 f2567 f2568 f2569 f2570 f2571 f2572 f2573 f2574 f2575 f2576 f2577 hm hye (by omega) bb1 bb2 hfi (by omega) (by omega) (by omega) (by omega)) f2563 rfl rfl rfl (Nat.le_of_ble_eq_true rfl) (by decide) (by decide) rfl (fun r2585 h2586 q2584 => ?_)
                              obtain ⟨lk12580, su12581, jd12582, wy12583, f2587, f2588, f2589, f2590, k2591, p2592, u2593⟩ := q2584
                              have f2594 := rng_at k2591 (by decide) f2563
                              have f2595 := rng_at k2591 (by decide) f2564
                              have f2596 := rng_at k2591 (by decide) f2565
                              have f2597 := rng_at k2591 (by decide) f2566
                              have f2598 := rng_at k2591 (by decide) f2567
                              have f2599 := rng_at k2591 (by decide) f2568
                              have f2600 := rng_at k2591 (by decide) f2569
                              have f2601 := rng_at k2591 (by decide) f2570
                              have f2602 := rng_at k2591 (by decide) f2571
                              have f2603 := rng_at k2591 (by decide) f2572
                              have f2604 := rng_at k2591 (by decide) f2573
                              refine aw_istore [(13, .int r2585), (12, .int (nI (((y0 / 1) % 10) - 1))), (11, .int 1), (10, .int (nI q)), (9, .int (nI fr)), (8, .int dv), (7, .int sv), (4, .int v), (3, .int (nI y0)), (0, .ref (G.1 + 88))] dX9_chain_201 (by decide) rfl ?_
                              refine aw_aload_n 9 dX9_chain_203 rfl rfl ?_
                              refine aw_get fX9_53 dX9_chain_204 f2594 rfl ?_
                              refine aw_iload 3 dX9_chain_207 rfl ?_
                              refine aw_iald q (rfl) (by omega) (by decide) dX9_chain_209 f2589 ?_
                              refine aw_istore [(14, .int (jd12582 q)), (13, .int r2585), (12, .int (nI (((y0 / 1) % 10) - 1))), (11, .int 1), (10, .int (nI q)), (9, .int (nI fr)), (8, .int dv), (7, .int sv), (4, .int v), (3, .int (nI y0)), (0, .ref (G.1 + 88))] dX9_chain_210 (by decide) rfl ?_
                              refine aw_iload 0 dX9_chain_212 rfl ?_
                              refine aw_if_lt 256 dX9_chain_214 (by decide) (fun c214 => ?_) (fun c214 => ?_)
                              · have d214 := (j_lt (a := (jd12582 q).toInt) (b := (0)) (rfl) (rfl)).mp c214
                                refine aw_iload 0 dX9_chain_256 rfl ?_
                                refine aw_istore [(10, .int (jd12582 q)), (14, .int (jd12582 q)), (13, .int r2585), (12, .int (nI (((y0 / 1) % 10) - 1))), (11, .int 1), (9, .int (nI fr)), (8, .int dv), (7, .int sv), (4, .int v), (3, .int (nI y0)), (0, .ref (G.1 + 88))] dX9_chain_258 (by decide) rfl ?_
                                refine aw_iload 3 dX9_chain_260 rfl ?_
                                refine aw_istore [(9, .int (nI (((y0 / 1) % 10) - 1))), (10, .int (jd12582 q)), (14, .int (jd12582 q)), (13, .int r2585), (12, .int (nI (((y0 / 1) % 10) - 1))), (11, .int 1), (8, .int dv), (7, .int sv), (4, .int v), (3, .int (nI y0)), (0, .ref (G.1 + 88))] dX9_chain_262 (by decide) rfl ?_
                                refine aw_iload 5 dX9_chain_264 rfl ?_
                                refine aw_bipush (10) dX9_chain_266 (by decide) ?_
                                refine aw_idiv dX9_chain_268 (by decide) ?_
                                refine aw_toe 0 (by decide) ?_
                                refine aw_istore [(11, .int 0), (9, .int (nI (((y0 / 1) % 10) - 1))), (10, .int (jd12582 q)), (14, .int (jd12582 q)), (13, .int r2585), (12, .int (nI (((y0 / 1) % 10) - 1))), (8, .int dv), (7, .int sv), (4, .int v), (3, .int (nI y0)), (0, .ref (G.1 + 88))] dX9_chain_269 (by decide) rfl ?_
                                refine aw_goto 170 dX9_chain_271 (by decide) ?_
                                refine aw_lv [(11, .int 0), (10, .int (jd12582 q)), (9, .int (nI (((y0 / 1) % 10) - 1))), (8, .int dv), (7, .int sv), (4, .int v), (3, .int (nI y0)), (0, .ref (G.1 + 88))] [0, 2, 1, 6, 7, 8, 9, 10] rfl ?_
                                exact ih2579 0 (jd12582 q) (((y0 / 1) % 10) - 1) dv sv lk12580 su12581 jd12582 wy12583 _ (by omega) (by decide) (p2592 q bq) (by omega) (p2592) f2594 f2595 f2596 f2597 f2598 f2599 f2600 f2601 f2602 f2603 f2604 f2587 f2588 f2589 f2590 (rg2_tr (k2578) (rg2_w k2591 (by decide)))
                              · have d214 := mt (j_lt (a := (jd12582 q).toInt) (b := (0)) (rfl) (rfl)).mpr c214
                                obtain ⟨q2, bq2, eq2⟩ := pB_g p2592 (show q < 10 by omega) d214
                                rw [eq2]
                                refine aw_iinc (j := 7) (sv + 1) [(7, .int (sv + 1)), (14, .int (nI q2)), (13, .int r2585), (12, .int (nI (((y0 / 1) % 10) - 1))), (11, .int 1), (10, .int (nI q)), (9, .int (nI fr)), (8, .int dv), (4, .int v), (3, .int (nI y0)), (0, .ref (G.1 + 88))] dX9_chain_217 rfl (by rfl) (by decide) rfl ?_
                                refine aw_iload 7 dX9_chain_220 rfl ?_
                                refine aw_iconst (0) dX9_chain_222 (by decide) ?_
                                refine aw_bipush (100) dX9_chain_223 (by decide) ?_
                                refine aw_aload_n 10 dX9_chain_225 rfl rfl ?_
                                refine aw_iload 6 dX9_chain_226 rfl ?_
                                refine aw_iload 5 dX9_chain_228 rfl ?_
                                refine aw_iload 3 dX9_chain_230 rfl ?_
                                refine aw_iload 1 dX9_chain_232 rfl ?_
                                refine aw_uV [.int (nI fr), .int (nI q), .int (nI (((y0 / 1) % 10) - 1)), .int (nI q2)] [.int 100, .int 0, .int dv] lX9_166 vX9_likeOf mX9_likeOf dX9_chain_234 (bX9_likeOf (sp := sp) (fa := fa) (nb := nb) (ns := ns) (nm := nm) (nv := nv) (sh := sh) (ho := ho) (ow := ow) (sl := sl) (m := m) (ye := ye) (b1 := b1) (b2 := b2) (W := W) (Z := Z) (Ro := Ro) (Co := Co) (a := fr) (i := q) (b := ((y0 / 1) % 10) - 1) (k := q2) f2594 f2596 f2597 f2598 f2599 f2600 f2601 f2602 f2603 hm hye (by omega) bb1 bb2 (by omega) (by omega) (by omega) (by omega)) f2594 rfl rfl rfl (Nat.le_of_ble_eq_true rfl) (by decide) (by decide) rfl (fun r2606 h2607 q2605 => ?_)
                                obtain ⟨rfl, u2608⟩ := q2605
                                refine aw_isub dX9_chain_237 ?_
                                refine aw_mmax lX9_162 dX9_chain_238 (Nat.le_of_ble_eq_true rfl) (by decide) (by decide) ?_
                                refine aw_iload 2 dX9_chain_241 rfl ?_
                                refine aw_if_eq 250 dX9_chain_243 (by decide) (fun c243 => ?_) (fun c243 => ?_)
                                · have d243 := (j_eq (a := r2585.toInt) (b := (0)) (rfl) (rfl)).mp c243
                                  refine aw_bipush (50) dX9_chain_250 (by decide) ?_
                                  refine aw_iadd dX9_chain_252 ?_
                                  refine aw_iadd dX9_chain_253 ?_
                                  refine aw_istore [(8, .int (dv + ((if 0 < (100 - r2606) then (100 - r2606) else 0) + 50))), (7, .int (sv + 1)), (14, .int (nI q2)), (13, .int r2585), (12, .int (nI (((y0 / 1) % 10) - 1))), (11, .int 1), (10, .int (nI q)), (9, .int (nI fr)), (4, .int v), (3, .int (nI y0)), (0, .ref (G.1 + 88))] dX9_chain_254 (by decide) rfl ?_
                                  refine aw_iload 2 dX9_chain_256 rfl ?_
                                  refine aw_istore [(10, .int (nI q2)), (8, .int (dv + ((if 0 < (100 - r2606) then (100 - r2606) else 0) + 50))), (7, .int (sv + 1)), (14, .int (nI q2)), (13, .int r2585), (12, .int (nI (((y0 / 1) % 10) - 1))), (11, .int 1), (9, .int (nI fr)), (4, .int v), (3, .int (nI y0)), (0, .ref (G.1 + 88))] dX9_chain_258 (by decide) rfl ?_
                                  refine aw_iload 5 dX9_chain_260 rfl ?_
                                  refine aw_istore [(9, .int (nI (((y0 / 1) % 10) - 1))), (10, .int (nI q2)), (8, .int (dv + ((if 0 < (100 - r2606) then (100 - r2606) else 0) + 50))), (7, .int (sv + 1)), (14, .int (nI q2)), (13, .int r2585), (12, .int (nI (((y0 / 1) % 10) - 1))), (11, .int 1), (4, .int v), (3, .int (nI y0)), (0, .ref (G.1 + 88))] dX9_chain_262 (by decide) rfl ?_
                                  refine aw_iload 7 dX9_chain_264 rfl ?_
                                  refine aw_bipush (10) dX9_chain_266 (by decide) ?_
                                  refine aw_idiv dX9_chain_268 (by decide) ?_
                                  refine aw_toe 0 (by decide) ?_
                                  refine aw_istore [(11, .int 0), (9, .int (nI (((y0 / 1) % 10) - 1))), (10, .int (nI q2)), (8, .int (dv + ((if 0 < (100 - r2606) then (100 - r2606) else 0) + 50))), (7, .int (sv + 1)), (14, .int (nI q2)), (13, .int r2585), (12, .int (nI (((y0 / 1) % 10) - 1))), (4, .int v), (3, .int (nI y0)), (0, .ref (G.1 + 88))] dX9_chain_269 (by decide) rfl ?_
                                  refine aw_goto 170 dX9_chain_271 (by decide) ?_
                                  refine aw_lv [(11, .int 0), (10, .int (nI q2)), (9, .int (nI (((y0 / 1) % 10) - 1))), (8, .int (dv + ((if 0 < (100 - r2606) then (100 - r2606) else 0) + 50))), (7, .int (sv + 1)), (4, .int v), (3, .int (nI y0)), (0, .ref (G.1 + 88))] [0, 2, 1, 3, 4, 8, 9, 10] rfl ?_
                                  exact ih2579 0 (nI q2) (((y0 / 1) % 10) - 1) (dv + ((if 0 < (100 - r2606) then (100 - r2606) else 0) + 50)) (sv + 1) lk12580 su12581 jd12582 wy12583 _ (by omega) (by decide) (Or.inr ⟨_, bq2, rfl⟩) (by omega) (p2592) f2594 f2595 f2596 f2597 f2598 f2599 f2600 f2601 f2602 f2603 f2604 f2587 f2588 f2589 f2590 (rg2_tr (k2578) (rg2_w k2591 (by decide)))
                                · have d243 := mt (j_eq (a := r2585.toInt) (b := (0)) (rfl) (rfl)).mpr c243
                                  refine aw_iconst (0) dX9_chain_246 (by decide) ?_
                                  refine aw_goto 252 dX9_chain_247 (by decide) ?_
                                  refine aw_iadd dX9_chain_252 ?_
                                  refine aw_iadd dX9_chain_253 ?_
                                  refine aw_istore [(8, .int (dv + ((if 0 < (100 - r2606) then (100 - r2606) else 0) + 0))), (7, .int (sv + 1)), (14, .int (nI q2)), (13, .int r2585), (12, .int (nI (((y0 / 1) % 10) - 1))), (11, .int 1), (10, .int (nI q)), (9, .int (nI fr)), (4, .int v), (3, .int (nI y0)), (0, .ref (G.1 + 88))] dX9_chain_254 (by decide) rfl ?_
                                  refine aw_iload 2 dX9_chain_256 rfl ?_
                                  refine aw_istore [(10, .int (nI q2)), (8, .int (dv + ((if 0 < (100 - r2606) then (100 - r2606) else 0) + 0))), (7, .int (sv + 1)), (14, .int (nI q2)), (13, .int r2585), (12, .int (nI (((y0 / 1) % 10) - 1))), (11, .int 1), (9, .int (nI fr)), (4, .int v), (3, .int (nI y0)), (0, .ref (G.1 + 88))] dX9_chain_258 (by decide) rfl ?_
                                  refine aw_iload 5 dX9_chain_260 rfl ?_
                                  refine aw_istore [(9, .int (nI (((y0 / 1) % 10) - 1))), (10, .int (nI q2)), (8, .int (dv + ((if 0 < (100 - r2606) then (100 - r2606) else 0) + 0))), (7, .int (sv + 1)), (14, .int (nI q2)), (13, .int r2585), (12, .int (nI (((y0 / 1) % 10) - 1))), (11, .int 1), (4, .int v), (3, .int (nI y0)), (0, .ref (G.1 + 88))] dX9_chain_262 (by decide) rfl ?_
                                  refine aw_iload 7 dX9_chain_264 rfl ?_
                                  refine aw_bipush (10) dX9_chain_266 (by decide) ?_
                                  refine aw_idiv dX9_chain_268 (by decide) ?_
                                  refine aw_toe 0 (by decide) ?_
                                  refine aw_istore [(11, .int 0), (9, .int (nI (((y0 / 1) % 10) - 1))), (10, .int (nI q2)), (8, .int (dv + ((if 0 < (100 - r2606) then (100 - r2606) else 0) + 0))), (7, .int (sv + 1)), (14, .int (nI q2)), (13, .int r2585), (12, .int (nI (((y0 / 1) % 10) - 1))), (4, .int v), (3, .int (nI y0)), (0, .ref (G.1 + 88))] dX9_chain_269 (by decide) rfl ?_
                                  refine aw_goto 170 dX9_chain_271 (by decide) ?_
                                  refine aw_lv [(11, .int 0), (10, .int (nI q2)), (9, .int (nI (((y0 / 1) % 10) - 1))), (8, .int (dv + ((if 0 < (100 - r2606) then (100 - r2606) else 0) + 0))), (7, .int (sv + 1)), (4, .int v), (3, .int (nI y0)), (0, .ref (G.1 + 88))] [0, 2, 1, 3, 4, 8, 9, 10] rfl ?_
                                  exact ih2579 0 (nI q2) (((y0 / 1) % 10) - 1) (dv + ((if 0 < (100 - r2606) then (100 - r2606) else 0) + 0)) (sv + 1) lk12580 su12581 jd12582 wy12583 _ (by omega) (by decide) (Or.inr ⟨_, bq2, rfl⟩) (by omega) (p2592) f2594 f2595 f2596 f2597 f2598 f2599 f2600 f2601 f2602 f2603 f2604 f2587 f2588 f2589 f2590 (rg2_tr (k2578) (rg2_w k2591 (by decide)))
                          · refine aw_lv [(11, .int 10), (10, .int ev), (9, .int (nI fr)), (8, .int dv), (7, .int sv), (4, .int v), (3, .int (nI y0)), (0, .ref (G.1 + 88))] [0, 1, 2, 3, 4, 5, 6, 7] rfl ?_
                            refine aw_iload 0 dX9_chain_170 rfl ?_
                            refine aw_if_le 274 dX9_chain_172 (by decide) (fun c172 => absurd c172 (by decide)) (fun c172 => ?_)
                            refine aw_iload 1 dX9_chain_175 rfl ?_
                            refine aw_if_lt 274 dX9_chain_177 (by decide) (fun c177 => ?_) (fun c177 => ?_)
                            · have d177 := (j_lt (a := ev.toInt) (b := (0)) (rfl) (rfl)).mp c177
                              refine aw_iload 5 dX9_chain_274 rfl ?_
                              refine aw_if_ne 284 dX9_chain_276 (by decide) (fun c276 => ?_) (fun c276 => ?_)
                              · have d276 := mt (j_eq (a := v.toInt) (b := (0)) (rfl) (rfl)).mpr c276
                                refine aw_iload 5 dX9_chain_284 rfl ?_
                                refine aw_iconst (1) dX9_chain_286 (by decide) ?_
                                refine aw_icmp_ne 295 dX9_chain_287 (by decide) (fun c287 => ?_) (fun c287 => ?_)
                                · have d287 := mt (j_eq (a := v.toInt) (b := (1)) (rfl) (rfl)).mpr c287
                                  refine aw_iload 3 dX9_chain_295 rfl ?_
                                  subst hQF
                                  exact aw_iret rfl dX9_chain_297 (by decide) (by decide) ⟨_, rfl, _, _, _, _, _, f2574, f2575, f2576, f2577, f2564, k2578, hp, trivial⟩
                                · have d287 := (j_eq (a := v.toInt) (b := (1)) (rfl) (rfl)).mp c287
                                  refine aw_iload 4 dX9_chain_290 rfl ?_
                                  refine aw_goto 297 dX9_chain_292 (by decide) ?_
                                  subst hQF
                                  exact aw_iret rfl dX9_chain_297 (by decide) (by decide) ⟨_, rfl, _, _, _, _, _, f2574, f2575, f2576, f2577, f2564, k2578, hp, trivial⟩
                              · have d276 := (j_eq (a := v.toInt) (b := (0)) (rfl) (rfl)).mp c276
                                refine aw_iload 1 dX9_chain_279 rfl ?_
                                refine aw_goto 297 dX9_chain_281 (by decide) ?_
                                subst hQF
                                exact aw_iret rfl dX9_chain_297 (by decide) (by decide) ⟨_, rfl, _, _, _, _, _, f2574, f2575, f2576, f2577, f2564, k2578, hp, trivial⟩
                            · have d177 := mt (j_lt (a := ev.toInt) (b := (0)) (rfl) (rfl)).mpr c177
                              obtain ⟨q, bq, rfl⟩ := he.resolve_left (fun e => by rw [e] at d177; exact d177 (by decide))
                              refine aw_iload_n 6 dX9_chain_180 rfl rfl ?_
                              refine aw_iload 0 dX9_chain_181 rfl ?_
                              refine aw_idiv dX9_chain_183 (by decide) ?_
                              refine aw_toe (nI (y0 / 10)) (nv_div (rfl) (rfl) (by omega) (by decide) (by decide)) ?_
                              refine aw_bipush (10) dX9_chain_184 (by decide) ?_
                              refine aw_irem dX9_chain_186 (by decide) ?_
                              refine aw_toe (nI ((y0 / 10) % 10)) (nv_rem (rfl) (rfl) (by omega) (by decide) (by decide)) ?_
                              refine aw_iconst (1) dX9_chain_187 (by decide) ?_
                              refine aw_isub dX9_chain_188 ?_
                              refine aw_toe (nI (((y0 / 10) % 10) - 1)) (nv_sub (rfl) (rfl) (by omega)) ?_
                              refine aw_istore [(12, .int (nI (((y0 / 10) % 10) - 1))), (11, .int 10), (10, .int (nI q)), (9, .int (nI fr)), (8, .int dv), (7, .int sv), (4, .int v), (3, .int (nI y0)), (0, .ref (G.1 + 88))] dX9_chain_189 (by decide) rfl ?_
                              refine aw_aload_n 8 dX9_chain_191 rfl rfl ?_
                              refine aw_iload 3 dX9_chain_192 rfl ?_
                              refine aw_iload 2 dX9_chain_194 rfl ?_
                              refine aw_iload 0 dX9_chain_196 rfl ?_
                              refine aw_uV [.int (nI fr), .int (nI q), .int (nI (((y0 / 10) % 10) - 1))] [] lX9_190 vX9_isSure mX9_isSure dX9_chain_198 (bX9_isSure (sp := sp) (fa := fa) (nb := nb) (ns := ns) (nm := nm) (nv := nv) (sh := sh) (ho := ho) (ow := ow) (sl := sl) (m := m) (ye := ye) (b1 := b1) (b2 := b2) (W := W) (Z := Z) (Ro := Ro) (Co := Co) (fi := fi) (lk := lk1) (su := su1) (jd := jd1) (wy := wy1) (a := fr) (b := ((y0 / 10) % 10) - 1) (i := q) f2563 f2565 f2566 f2567 f2568 f2569 f2570 f2571 f2572 f2573 f2574 f2575 f2576 f2577 hm hye (by omega) bb1 bb2 hfi (by omega) (by omega) (by omega) (by omega)) f2563 rfl rfl rfl (Nat.le_of_ble_eq_true rfl) (by decide) (by decide) rfl (fun r2614 h2615 q2613 => ?_)
                              obtain ⟨lk12609, su12610, jd12611, wy12612, f2616, f2617, f2618, f2619, k2620, p2621, u2622⟩ := q2613
                              have f2623 := rng_at k2620 (by decide) f2563
                              have f2624 := rng_at k2620 (by decide) f2564
                              have f2625 := rng_at k2620 (by decide) f2565
                              have f2626 := rng_at k2620 (by decide) f2566
                              have f2627 := rng_at k2620 (by decide) f2567
                              have f2628 := rng_at k2620 (by decide) f2568
                              have f2629 := rng_at k2620 (by decide) f2569
                              have f2630 := rng_at k2620 (by decide) f2570
                              have f2631 := rng_at k2620 (by decide) f2571
                              have f2632 := rng_at k2620 (by decide) f2572
                              have f2633 := rng_at k2620 (by decide) f2573
                              refine aw_istore [(13, .int r2614), (12, .int (nI (((y0 / 10) % 10) - 1))), (11, .int 10), (10, .int (nI q)), (9, .int (nI fr)), (8, .int dv), (7, .int sv), (4, .int v), (3, .int (nI y0)), (0, .ref (G.1 + 88))] dX9_chain_201 (by decide) rfl ?_
                              refine aw_aload_n 9 dX9_chain_203 rfl rfl ?_
                              refine aw_get fX9_53 dX9_chain_204 f2623 rfl ?_
                              refine aw_iload 3 dX9_chain_207 rfl ?_
                              refine aw_iald q (rfl) (by omega) (by decide) dX9_chain_209 f2618 ?_
                              refine aw_istore [(14, .int (jd12611 q)), (13, .int r2614), (12, .int (nI (((y0 / 10) % 10) - 1))), (11, .int 10), (10, .int (nI q)), (9, .int (nI fr)), (8, .int dv), (7, .int sv), (4, .int v), (3, .int (nI y0)), (0, .ref (G.1 + 88))] dX9_chain_210 (by decide) rfl ?_
                              refine aw_iload 0 dX9_chain_212 rfl ?_
                              refine aw_if_lt 256 dX9_chain_214 (by decide) (fun c214 => ?_) (fun c214 => ?_)
                              · have d214 := (j_lt (a := (jd12611 q).toInt) (b := (0)) (rfl) (rfl)).mp c214
                                refine aw_iload 0 dX9_chain_256 rfl ?_
                                refine aw_istore [(10, .int (jd12611 q)), (14, .int (jd12611 q)), (13, .int r2614), (12, .int (nI (((y0 / 10) % 10) - 1))), (11, .int 10), (9, .int (nI fr)), (8, .int dv), (7, .int sv), (4, .int v), (3, .int (nI y0)), (0, .ref (G.1 + 88))] dX9_chain_258 (by decide) rfl ?_
                                refine aw_iload 3 dX9_chain_260 rfl ?_
                                refine aw_istore [(9, .int (nI (((y0 / 10) % 10) - 1))), (10, .int (jd12611 q)), (14, .int (jd12611 q)), (13, .int r2614), (12, .int (nI (((y0 / 10) % 10) - 1))), (11, .int 10), (8, .int dv), (7, .int sv), (4, .int v), (3, .int (nI y0)), (0, .ref (G.1 + 88))] dX9_chain_262 (by decide) rfl ?_
                                refine aw_iload 5 dX9_chain_264 rfl ?_
                                refine aw_bipush (10) dX9_chain_266 (by decide) ?_
                                refine aw_idiv dX9_chain_268 (by decide) ?_
                                refine aw_toe 1 (by decide) ?_
                                refine aw_istore [(11, .int 1), (9, .int (nI (((y0 / 10) % 10) - 1))), (10, .int (jd12611 q)), (14, .int (jd12611 q)), (13, .int r2614), (12, .int (nI (((y0 / 10) % 10) - 1))), (8, .int dv), (7, .int sv), (4, .int v), (3, .int (nI y0)), (0, .ref (G.1 + 88))] dX9_chain_269 (by decide) rfl ?_
                                refine aw_goto 170 dX9_chain_271 (by decide) ?_
                                refine aw_lv [(11, .int 1), (10, .int (jd12611 q)), (9, .int (nI (((y0 / 10) % 10) - 1))), (8, .int dv), (7, .int sv), (4, .int v), (3, .int (nI y0)), (0, .ref (G.1 + 88))] [0, 2, 1, 6, 7, 8, 9, 10] rfl ?_
                                exact ih2579 1 (jd12611 q) (((y0 / 10) % 10) - 1) dv sv lk12609 su12610 jd12611 wy12612 _ (by omega) (by decide) (p2621 q bq) (by omega) (p2621) f2623 f2624 f2625 f2626 f2627 f2628 f2629 f2630 f2631 f2632 f2633 f2616 f2617 f2618 f2619 (rg2_tr (k2578) (rg2_w k2620 (by decide)))
                              · have d214 := mt (j_lt (a := (jd12611 q).toInt) (b := (0)) (rfl) (rfl)).mpr c214
                                obtain ⟨q2, bq2, eq2⟩ := pB_g p2621 (show q < 10 by omega) d214
                                rw [eq2]
                                refine aw_iinc (j := 7) (sv + 1) [(7, .int (sv + 1)), (14, .int (nI q2)), (13, .int r2614), (12, .int (nI (((y0 / 10) % 10) - 1))), (11, .int 10), (10, .int (nI q)), (9, .int (nI fr)), (8, .int dv), (4, .int v), (3, .int (nI y0)), (0, .ref (G.1 + 88))] dX9_chain_217 rfl (by rfl) (by decide) rfl ?_
                                refine aw_iload 7 dX9_chain_220 rfl ?_
                                refine aw_iconst (0) dX9_chain_222 (by decide) ?_
                                refine aw_bipush (100) dX9_chain_223 (by decide) ?_
                                refine aw_aload_n 10 dX9_chain_225 rfl rfl ?_
                                refine aw_iload 6 dX9_chain_226 rfl ?_
                                refine aw_iload 5 dX9_chain_228 rfl ?_
                                refine aw_iload 3 dX9_chain_230 rfl ?_
                                refine aw_iload 1 dX9_chain_232 rfl ?_
                                refine aw_uV [.int (nI fr), .int (nI q), .int (nI (((y0 / 10) % 10) - 1)), .int (nI q2)] [.int 100, .int 0, .int dv] lX9_166 vX9_likeOf mX9_likeOf dX9_chain_234 (bX9_likeOf (sp := sp) (fa := fa) (nb := nb) (ns := ns) (nm := nm) (nv := nv) (sh := sh) (ho := ho) (ow := ow) (sl := sl) (m := m) (ye := ye) (b1 := b1) (b2 := b2) (W := W) (Z := Z) (Ro := Ro) (Co := Co) (a := fr) (i := q) (b := ((y0 / 10) % 10) - 1) (k := q2) f2623 f2625 f2626 f2627 f2628 f2629 f2630 f2631 f2632 hm hye (by omega) bb1 bb2 (by omega) (by omega) (by omega) (by omega)) f2623 rfl rfl rfl (Nat.le_of_ble_eq_true rfl) (by decide) (by decide) rfl (fun r2635 h2636 q2634 => ?_)
                                obtain ⟨rfl, u2637⟩ := q2634
                                refine aw_isub dX9_chain_237 ?_
                                refine aw_mmax lX9_162 dX9_chain_238 (Nat.le_of_ble_eq_true rfl) (by decide) (by decide) ?_
                                refine aw_iload 2 dX9_chain_241 rfl ?_
                                refine aw_if_eq 250 dX9_chain_243 (by decide) (fun c243 => ?_) (fun c243 => ?_)
                                · have d243 := (j_eq (a := r2614.toInt) (b := (0)) (rfl) (rfl)).mp c243
                                  refine aw_bipush (50) dX9_chain_250 (by decide) ?_
                                  refine aw_iadd dX9_chain_252 ?_
                                  refine aw_iadd dX9_chain_253 ?_
                                  refine aw_istore [(8, .int (dv + ((if 0 < (100 - r2635) then (100 - r2635) else 0) + 50))), (7, .int (sv + 1)), (14, .int (nI q2)), (13, .int r2614), (12, .int (nI (((y0 / 10) % 10) - 1))), (11, .int 10), (10, .int (nI q)), (9, .int (nI fr)), (4, .int v), (3, .int (nI y0)), (0, .ref (G.1 + 88))] dX9_chain_254 (by decide) rfl ?_
                                  refine aw_iload 2 dX9_chain_256 rfl ?_
                                  refine aw_istore [(10, .int (nI q2)), (8, .int (dv + ((if 0 < (100 - r2635) then (100 - r2635) else 0) + 50))), (7, .int (sv + 1)), (14, .int (nI q2)), (13, .int r2614), (12, .int (nI (((y0 / 10) % 10) - 1))), (11, .int 10), (9, .int (nI fr)), (4, .int v), (3, .int (nI y0)), (0, .ref (G.1 + 88))] dX9_chain_258 (by decide) rfl ?_
                                  refine aw_iload 5 dX9_chain_260 rfl ?_
                                  refine aw_istore [(9, .int (nI (((y0 / 10) % 10) - 1))), (10, .int (nI q2)), (8, .int (dv + ((if 0 < (100 - r2635) then (100 - r2635) else 0) + 50))), (7, .int (sv + 1)), (14, .int (nI q2)), (13, .int r2614), (12, .int (nI (((y0 / 10) % 10) - 1))), (11, .int 10), (4, .int v), (3, .int (nI y0)), (0, .ref (G.1 + 88))] dX9_chain_262 (by decide) rfl ?_
                                  refine aw_iload 7 dX9_chain_264 rfl ?_
                                  refine aw_bipush (10) dX9_chain_266 (by decide) ?_
                                  refine aw_idiv dX9_chain_268 (by decide) ?_
                                  refine aw_toe 1 (by decide) ?_
                                  refine aw_istore [(11, .int 1), (9, .int (nI (((y0 / 10) % 10) - 1))), (10, .int (nI q2)), (8, .int (dv + ((if 0 < (100 - r2635) then (100 - r2635) else 0) + 50))), (7, .int (sv + 1)), (14, .int (nI q2)), (13, .int r2614), (12, .int (nI (((y0 / 10) % 10) - 1))), (4, .int v), (3, .int (nI y0)), (0, .ref (G.1 + 88))] dX9_chain_269 (by decide) rfl ?_
                                  refine aw_goto 170 dX9_chain_271 (by decide) ?_
                                  refine aw_lv [(11, .int 1), (10, .int (nI q2)), (9, .int (nI (((y0 / 10) % 10) - 1))), (8, .int (dv + ((if 0 < (100 - r2635) then (100 - r2635) else 0) + 50))), (7, .int (sv + 1)), (4, .int v), (3, .int (nI y0)), (0, .ref (G.1 + 88))] [0, 2, 1, 3, 4, 8, 9, 10] rfl ?_
                                  exact ih2579 1 (nI q2) (((y0 / 10) % 10) - 1) (dv + ((if 0 < (100 - r2635) then (100 - r2635) else 0) + 50)) (sv + 1) lk12609 su12610 jd12611 wy12612 _ (by omega) (by decide) (Or.inr ⟨_, bq2, rfl⟩) (by omega) (p2621) f2623 f2624 f2625 f2626 f2627 f2628 f2629 f2630 f2631 f2632 f2633 f2616 f2617 f2618 f2619 (rg2_tr (k2578) (rg2_w k2620 (by decide)))
                                · have d243 := mt (j_eq (a := r2614.toInt) (b := (0)) (rfl) (rfl)).mpr c243
                                  refine aw_iconst (0) dX9_chain_246 (by decide) ?_
                                  refine aw_goto 252 dX9_chain_247 (by decide) ?_
                                  refine aw_iadd dX9_chain_252 ?_
                                  refine aw_iadd dX9_chain_253 ?_
                                  refine aw_istore [(8, .int (dv + ((if 0 < (100 - r2635) then (100 - r2635) else 0) + 0))), (7, .int (sv + 1)), (14, .int (nI q2)), (13, .int r2614), (12, .int (nI (((y0 / 10) % 10) - 1))), (11, .int 10), (10, .int (nI q)), (9, .int (nI fr)), (4, .int v), (3, .int (nI y0)), (0, .ref (G.1 + 88))] dX9_chain_254 (by decide) rfl ?_
                                  refine aw_iload 2 dX9_chain_256 rfl ?_
                                  refine aw_istore [(10, .int (nI q2)), (8, .int (dv + ((if 0 < (100 - r2635) then (100 - r2635) else 0) + 0))), (7, .int (sv + 1)), (14, .int (nI q2)), (13, .int r2614), (12, .int (nI (((y0 / 10) % 10) - 1))), (11, .int 10), (9, .int (nI fr)), (4, .int v), (3, .int (nI y0)), (0, .ref (G.1 + 88))] dX9_chain_258 (by decide) rfl ?_
                                  refine aw_iload 5 dX9_chain_260 rfl ?_
                                  refine aw_istore [(9, .int (nI (((y0 / 10) % 10) - 1))), (10, .int (nI q2)), (8, .int (dv + ((if 0 < (100 - r2635) then (100 - r2635) else 0) + 0))), (7, .int (sv + 1)), (14, .int (nI q2)), (13, .int r2614), (12, .int (nI (((y0 / 10) % 10) - 1))), (11, .int 10), (4, .int v), (3, .int (nI y0)), (0, .ref (G.1 + 88))] dX9_chain_262 (by decide) rfl ?_
                                  refine aw_iload 7 dX9_chain_264 rfl ?_
                                  refine aw_bipush (10) dX9_chain_266 (by decide) ?_
                                  refine aw_idiv dX9_chain_268 (by decide) ?_
                                  refine aw_toe 1 (by decide) ?_
                                  refine aw_istore [(11, .int 1), (9, .int (nI (((y0 / 10) % 10) - 1))), (10, .int (nI q2)), (8, .int (dv + ((if 0 < (100 - r2635) then (100 - r2635) else 0) + 0))), (7, .int (sv + 1)), (14, .int (nI q2)), (13, .int r2614), (12, .int (nI (((y0 / 10) % 10) - 1))), (4, .int v), (3, .int (nI y0)), (0, .ref (G.1 + 88))] dX9_chain_269 (by decide) rfl ?_
                                  refine aw_goto 170 dX9_chain_271 (by decide) ?_
                                  refine aw_lv [(11, .int 1), (10, .int (nI q2)), (9, .int (nI (((y0 / 10) % 10) - 1))), (8, .int (dv + ((if 0 < (100 - r2635) then (100 - r2635) else 0) + 0))), (7, .int (sv + 1)), (4, .int v), (3, .int (nI y0)), (0, .ref (G.1 + 88))] [0, 2, 1, 3, 4, 8, 9, 10] rfl ?_
                                  exact ih2579 1 (nI q2) (((y0 / 10) % 10) - 1) (dv + ((if 0 < (100 - r2635) then (100 - r2635) else 0) + 0)) (sv + 1) lk12609 su12610 jd12611 wy12612 _ (by omega) (by decide) (Or.inr ⟨_, bq2, rfl⟩) (by omega) (p2621) f2623 f2624 f2625 f2626 f2627 f2628 f2629 f2630 f2631 f2632 f2633 f2616 f2617 f2618 f2619 (rg2_tr (k2578) (rg2_w k2620 (by decide)))
                          · refine aw_lv [(11, .int 100), (10, .int ev), (9, .int (nI fr)), (8, .int dv), (7, .int sv), (4, .int v), (3, .int (nI y0)), (0, .ref (G.1 + 88))] [0, 1, 2, 3, 4, 5, 6, 7] rfl ?_
                            refine aw_iload 0 dX9_chain_170 rfl ?_
                            refine aw_if_le 274 dX9_chain_172 (by decide) (fun c172 => absurd c172 (by decide)) (fun c172 => ?_)
                            refine aw_iload 1 dX9_chain_175 rfl ?_
                            refine aw_if_lt 274 dX9_chain_177 (by decide) (fun c177 => ?_) (fun c177 => ?_)
                            · have d177 := (j_lt (a := ev.toInt) (b := (0)) (rfl) (rfl)).mp c177
                              refine aw_iload 5 dX9_chain_274 rfl ?_
                              refine aw_if_ne 284 dX9_chain_276 (by decide) (fun c276 => ?_) (fun c276 => ?_)
                              · have d276 := mt (j_eq (a := v.toInt) (b := (0)) (rfl) (rfl)).mpr c276
                                refine aw_iload 5 dX9_chain_284 rfl ?_
                                refine aw_iconst (1) dX9_chain_286 (by decide) ?_
                                refine aw_icmp_ne 295 dX9_chain_287 (by decide) (fun c287 => ?_) (fun c287 => ?_)
                                · have d287 := mt (j_eq (a := v.toInt) (b := (1)) (rfl) (rfl)).mpr c287
                                  refine aw_iload 3 dX9_chain_295 rfl ?_
                                  subst hQF
                                  exact aw_iret rfl dX9_chain_297 (by decide) (by decide) ⟨_, rfl, _, _, _, _, _, f2574, f2575, f2576, f2577, f2564, k2578, hp, trivial⟩
                                · have d287 := (j_eq (a := v.toInt) (b := (1)) (rfl) (rfl)).mp c287
                                  refine aw_iload 4 dX9_chain_290 rfl ?_
                                  refine aw_goto 297 dX9_chain_292 (by decide) ?_
                                  subst hQF
                                  exact aw_iret rfl dX9_chain_297 (by decide) (by decide) ⟨_, rfl, _, _, _, _, _, f2574, f2575, f2576, f2577, f2564, k2578, hp, trivial⟩
                              · have d276 := (j_eq (a := v.toInt) (b := (0)) (rfl) (rfl)).mp c276
                                refine aw_iload 1 dX9_chain_279 rfl ?_
                                refine aw_goto 297 dX9_chain_281 (by decide) ?_
                                subst hQF
                                exact aw_iret rfl dX9_chain_297 (by decide) (by decide) ⟨_, rfl, _, _, _, _, _, f2574, f2575, f2576, f2577, f2564, k2578, hp, trivial⟩
                            · have d177 := mt (j_lt (a := ev.toInt) (b := (0)) (rfl) (rfl)).mpr c177
                              obtain ⟨q, bq, rfl⟩ := he.resolve_left (fun e => by rw [e] at d177; exact d177 (by decide))
                              refine aw_iload_n 6 dX9_chain_180 rfl rfl ?_
                              refine aw_iload 0 dX9_chain_181 rfl ?_
                              refine aw_idiv dX9_chain_183 (by decide) ?_
                              refine aw_toe (nI (y0 / 100)) (nv_div (rfl) (rfl) (by omega) (by decide) (by decide)) ?_
                              refine aw_bipush (10) dX9_chain_184 (by decide) ?_
                              refine aw_irem dX9_chain_186 (by decide) ?_
                              refine aw_toe (nI ((y0 / 100) % 10)) (nv_rem (rfl) (rfl) (by omega) (by decide) (by decide)) ?_
                              refine aw_iconst (1) dX9_chain_187 (by decide) ?_
                              refine aw_isub dX9_chain_188 ?_
                              refine aw_toe (nI (((y0 / 100) % 10) - 1)) (nv_sub (rfl) (rfl) (by omega)) ?_
                              refine aw_istore [(12, .int (nI (((y0 / 100) % 10) - 1))), (11, .int 100), (10, .int (nI q)), (9, .int (nI fr)), (8, .int dv), (7, .int sv), (4, .int v), (3, .int (nI y0)), (0, .ref (G.1 + 88))] dX9_chain_189 (by decide) rfl ?_
                              refine aw_aload_n 8 dX9_chain_191 rfl rfl ?_
                              refine aw_iload 3 dX9_chain_192 rfl ?_
                              refine aw_iload 2 dX9_chain_194 rfl ?_
                              refine aw_iload 0 dX9_chain_196 rfl ?_
                              refine aw_uV [.int (nI fr), .int (nI q), .int (nI (((y0 / 100) % 10) - 1))] [] lX9_190 vX9_isSure mX9_isSure dX9_chain_198 (bX9_isSure (sp := sp) (fa := fa) (nb := nb) (ns := ns) (nm := nm) (nv := nv) (sh := sh) (ho := ho) (ow := ow) (sl := sl) (m := m) (ye := ye) (b1 := b1) (b2 := b2) (W := W) (Z := Z) (Ro := Ro) (Co := Co) (fi := fi) (lk := lk1) (su := su1) (jd := jd1) (wy := wy1) (a := fr) (b := ((y0 / 100) % 10) - 1) (i := q) f2563 f2565 f2566 f2567 f2568 f2569 f2570 f2571 f2572 f2573 f2574 f2575 f2576 f2577 hm hye (by omega) bb1 bb2 hfi (by omega) (by omega) (by omega) (by omega)) f2563 rfl rfl rfl (Nat.le_of_ble_eq_true rfl) (by decide) (by decide) rfl (fun r2643 h2644 q2642 => ?_)
                              obtain ⟨lk12638, su12639, jd12640, wy12641, f2645, f2646, f2647, f2648, k2649, p2650, u2651⟩ := q2642
                              have f2652 := rng_at k2649 (by decide) f2563
                              have f2653 := rng_at k2649 (by decide) f2564
                              have f2654 := rng_at k2649 (by decide) f2565
                              have f2655 := rng_at k2649 (by decide) f2566
                              have f2656 := rng_at k2649 (by decide) f2567
                              have f2657 := rng_at k2649 (by decide) f2568
                              have f2658 := rng_at k2649 (by decide) f2569
                              have f2659 := rng_at k2649 (by decide) f2570
                              have f2660 := rng_at k2649 (by decide) f2571
                              have f2661 := rng_at k2649 (by decide) f2572
                              have f2662 := rng_at k2649 (by decide) f2573
                              refine aw_istore [(13, .int r2643), (12, .int (nI (((y0 / 100) % 10) - 1))), (11, .int 100), (10, .int (nI q)), (9, .int (nI fr)), (8, .int dv), (7, .int sv), (4, .int v), (3, .int (nI y0)), (0, .ref (G.1 + 88))] dX9_chain_201 (by decide) rfl ?_
                              refine aw_aload_n 9 dX9_chain_203 rfl rfl ?_
                              refine aw_get fX9_53 dX9_chain_204 f2652 rfl ?_
                              refine aw_iload 3 dX9_chain_207 rfl ?_
                              refine aw_iald q (rfl) (by omega) (by decide) dX9_chain_209 f2647 ?_
                              refine aw_istore [(14, .int (jd12640 q)), (13, .int r2643), (12, .int (nI (((y0 / 100) % 10) - 1))), (11, .int 100), (10, .int (nI q)), (9, .int (nI fr)), (8, .int dv), (7, .int sv), (4, .int v), (3, .int (nI y0)), (0, .ref (G.1 + 88))] dX9_chain_210 (by decide) rfl ?_
                              refine aw_iload 0 dX9_chain_212 rfl ?_
                              refine aw_if_lt 256 dX9_chain_214 (by decide) (fun c214 => ?_) (fun c214 => ?_)
                              · have d214 := (j_lt (a := (jd12640 q).toInt) (b := (0)) (rfl) (rfl)).mp c214
                                refine aw_iload 0 dX9_chain_256 rfl ?_
                                refine aw_istore [(10, .int (jd12640 q)), (14, .int (jd12640 q)), (13, .int r2643), (12, .int (nI (((y0 / 100) % 10) - 1))), (11, .int 100), (9, .int (nI fr)), (8, .int dv), (7, .int sv), (4, .int v), (3, .int (nI y0)), (0, .ref (G.1 + 88))] dX9_chain_258 (by decide) rfl ?_
                                refine aw_iload 3 dX9_chain_260 rfl ?_
                                refine aw_istore [(9, .int (nI (((y0 / 100) % 10) - 1))), (10, .int (jd12640 q)), (14, .int (jd12640 q)), (13, .int r2643), (12, .int (nI (((y0 / 100) % 10) - 1))), (11, .int 100), (8, .int dv), (7, .int sv), (4, .int v), (3, .int (nI y0)), (0, .ref (G.1 + 88))] dX9_chain_262 (by decide) rfl ?_
                                refine aw_iload 5 dX9_chain_264 rfl ?_
                                refine aw_bipush (10) dX9_chain_266 (by decide) ?_
                                refine aw_idiv dX9_chain_268 (by decide) ?_
                                refine aw_toe 10 (by decide) ?_
                                refine aw_istore [(11, .int 10), (9, .int (nI (((y0 / 100) % 10) - 1))), (10, .int (jd12640 q)), (14, .int (jd12640 q)), (13, .int r2643), (12, .int (nI (((y0 / 100) % 10) - 1))), (8, .int dv), (7, .int sv), (4, .int v), (3, .int (nI y0)), (0, .ref (G.1 + 88))] dX9_chain_269 (by decide) rfl ?_
                                refine aw_goto 170 dX9_chain_271 (by decide) ?_
                                refine aw_lv [(11, .int 10), (10, .int (jd12640 q)), (9, .int (nI (((y0 / 100) % 10) - 1))), (8, .int dv), (7, .int sv), (4, .int v), (3, .int (nI y0)), (0, .ref (G.1 + 88))] [0, 2, 1, 6, 7, 8, 9, 10] rfl ?_
                                exact ih2579 2 (jd12640 q) (((y0 / 100) % 10) - 1) dv sv lk12638 su12639 jd12640 wy12641 _ (by omega) (by decide) (p2650 q bq) (by omega) (p2650) f2652 f2653 f2654 f2655 f2656 f2657 f2658 f2659 f2660 f2661 f2662 f2645 f2646 f2647 f2648 (rg2_tr (k2578) (rg2_w k2649 (by decide)))
                              · have d214 := mt (j_lt (a := (jd12640 q).toInt) (b := (0)) (rfl) (rfl)).mpr c214
                                obtain ⟨q2, bq2, eq2⟩ := pB_g p2650 (show q < 10 by omega) d214
                                rw [eq2]
                                refine aw_iinc (j := 7) (sv + 1) [(7, .int (sv + 1)), (14, .int (nI q2)), (13, .int r2643), (12, .int (nI (((y0 / 100) % 10) - 1))), (11, .int 100), (10, .int (nI q)), (9, .int (nI fr)), (8, .int dv), (4, .int v), (3, .int (nI y0)), (0, .ref (G.1 + 88))] dX9_chain_217 rfl (by rfl) (by decide) rfl ?_
                                refine aw_iload 7 dX9_chain_220 rfl ?_
                                refine aw_iconst (0) dX9_chain_222 (by decide) ?_
                                refine aw_bipush (100) dX9_chain_223 (by decide) ?_
                                refine aw_aload_n 10 dX9_chain_225 rfl rfl ?_
                                refine aw_iload 6 dX9_chain_226 rfl ?_
                                refine aw_iload 5 dX9_chain_228 rfl ?_
                                refine aw_iload 3 dX9_chain_230 rfl ?_
                                refine aw_iload 1 dX9_chain_232 rfl ?_
                                refine aw_uV [.int (nI fr), .int (nI q), .int (nI (((y0 / 100) % 10) - 1)), .int (nI q2)] [.int 100, .int 0, .int dv] lX9_166 vX9_likeOf mX9_likeOf dX9_chain_234 (bX9_likeOf (sp := sp) (fa := fa) (nb := nb) (ns := ns) (nm := nm) (nv := nv) (sh := sh) (ho := ho) (ow := ow) (sl := sl) (m := m) (ye := ye) (b1 := b1) (b2 := b2) (W := W) (Z := Z) (Ro := Ro) (Co := Co) (a := fr) (i := q) (b := ((y0 / 100) % 10) - 1) (k := q2) f2652 f2654 f2655 f2656 f2657 f2658 f2659 f2660 f2661 hm hye (by omega) bb1 bb2 (by omega) (by omega) (by omega) (by omega)) f2652 rfl rfl rfl (Nat.le_of_ble_eq_true rfl) (by decide) (by decide) rfl (fun r2664 h2665 q2663 => ?_)
                                obtain ⟨rfl, u2666⟩ := q2663
                                refine aw_isub dX9_chain_237 ?_
                                refine aw_mmax lX9_162 dX9_chain_238 (Nat.le_of_ble_eq_true rfl) (by decide) (by decide) ?_
                                refine aw_iload 2 dX9_chain_241 rfl ?_
                                refine aw_if_eq 250 dX9_chain_243 (by decide) (fun c243 => ?_) (fun c243 => ?_)
                                · have d243 := (j_eq (a := r2643.toInt) (b := (0)) (rfl) (rfl)).mp c243
                                  refine aw_bipush (50) dX9_chain_250 (by decide) ?_
                                  refine aw_iadd dX9_chain_252 ?_
                                  refine aw_iadd dX9_chain_253 ?_
                                  refine aw_istore [(8, .int (dv + ((if 0 < (100 - r2664) then (100 - r2664) else 0) + 50))), (7, .int (sv + 1)), (14, .int (nI q2)), (13, .int r2643), (12, .int (nI (((y0 / 100) % 10) - 1))), (11, .int 100), (10, .int (nI q)), (9, .int (nI fr)), (4, .int v), (3, .int (nI y0)), (0, .ref (G.1 + 88))] dX9_chain_254 (by decide) rfl ?_
                                  refine aw_iload 2 dX9_chain_256 rfl ?_
                                  refine aw_istore [(10, .int (nI q2)), (8, .int (dv + ((if 0 < (100 - r2664) then (100 - r2664) else 0) + 50))), (7, .int (sv + 1)), (14, .int (nI q2)), (13, .int r2643), (12, .int (nI (((y0 / 100) % 10) - 1))), (11, .int 100), (9, .int (nI fr)), (4, .int v), (3, .int (nI y0)), (0, .ref (G.1 + 88))] dX9_chain_258 (by decide) rfl ?_
                                  refine aw_iload 5 dX9_chain_260 rfl ?_
                                  refine aw_istore [(9, .int (nI (((y0 / 100) % 10) - 1))), (10, .int (nI q2)), (8, .int (dv + ((if 0 < (100 - r2664) then (100 - r2664) else 0) + 50))), (7, .int (sv + 1)), (14, .int (nI q2)), (13, .int r2643), (12, .int (nI (((y0 / 100) % 10) - 1))), (11, .int 100), (4, .int v), (3, .int (nI y0)), (0, .ref (G.1 + 88))] dX9_chain_262 (by decide) rfl ?_
                                  refine aw_iload 7 dX9_chain_264 rfl ?_
                                  refine aw_bipush (10) dX9_chain_266 (by decide) ?_
                                  refine aw_idiv dX9_chain_268 (by decide) ?_
                                  refine aw_toe 10 (by decide) ?_
                                  refine aw_istore [(11, .int 10), (9, .int (nI (((y0 / 100) % 10) - 1))), (10, .int (nI q2)), (8, .int (dv + ((if 0 < (100 - r2664) then (100 - r2664) else 0) + 50))), (7, .int (sv + 1)), (14, .int (nI q2)), (13, .int r2643), (12, .int (nI (((y0 / 100) % 10) - 1))), (4, .int v), (3, .int (nI y0)), (0, .ref (G.1 + 88))] dX9_chain_269 (by decide) rfl ?_
                                  refine aw_goto 170 dX9_chain_271 (by decide) ?_
                                  refine aw_lv [(11, .int 10), (10, .int (nI q2)), (9, .int (nI (((y0 / 100) % 10) - 1))), (8, .int (dv + ((if 0 < (100 - r2664) then (100 - r2664) else 0) + 50))), (7, .int (sv + 1)), (4, .int v), (3, .int (nI y0)), (0, .ref (G.1 + 88))] [0, 2, 1, 3, 4, 8, 9, 10] rfl ?_
                                  exact ih2579 2 (nI q2) (((y0 / 100) % 10) - 1) (dv + ((if 0 < (100 - r2664) then (100 - r2664) else 0) + 50)) (sv + 1) lk12638 su12639 jd12640 wy12641 _ (by omega) (by decide) (Or.inr ⟨_, bq2, rfl⟩) (by omega) (p2650) f2652 f2653 f2654 f2655 f2656 f2657 f2658 f2659 f2660 f2661 f2662 f2645 f2646 f2647 f2648 (rg2_tr (k2578) (rg2_w k2649 (by decide)))
                                · have d243 := mt (j_eq (a := r2643.toInt) (b := (0)) (rfl) (rfl)).mpr c243
                                  refine aw_iconst (0) dX9_chain_246 (by decide) ?_
                                  refine aw_goto 252 dX9_chain_247 (by decide) ?_
                                  refine aw_iadd dX9_chain_252 ?_
                                  refine aw_iadd dX9_chain_253 ?_
                                  refine aw_istore [(8, .int (dv + ((if 0 < (100 - r2664) then (100 - r2664) else 0) + 0))), (7, .int (sv + 1)), (14, .int (nI q2)), (13, .int r2643), (12, .int (nI (((y0 / 100) % 10) - 1))), (11, .int 100), (10, .int (nI q)), (9, .int (nI fr)), (4, .int v), (3, .int (nI y0)), (0, .ref (G.1 + 88))] dX9_chain_254 (by decide) rfl ?_
                                  refine aw_iload 2 dX9_chain_256 rfl ?_
                                  refine aw_istore [(10, .int (nI q2)), (8, .int (dv + ((if 0 < (100 - r2664) then (100 - r2664) else 0) + 0))), (7, .int (sv + 1)), (14, .int (nI q2)), (13, .int r2643), (12, .int (nI (((y0 / 100) % 10) - 1))), (11, .int 100), (9, .int (nI fr)), (4, .int v), (3, .int (nI y0)), (0, .ref (G.1 + 88))] dX9_chain_258 (by decide) rfl ?_
                                  refine aw_iload 5 dX9_chain_260 rfl ?_
                                  refine aw_istore [(9, .int (nI (((y0 / 100) % 10) - 1))), (10, .int (nI q2)), (8, .int (dv + ((if 0 < (100 - r2664) then (100 - r2664) else 0) + 0))), (7, .int (sv + 1)), (14, .int (nI q2)), (13, .int r2643), (12, .int (nI (((y0 / 100) % 10) - 1))), (11, .int 100), (4, .int v), (3, .int (nI y0)), (0, .ref (G.1 + 88))] dX9_chain_262 (by decide) rfl ?_
                                  refine aw_iload 7 dX9_chain_264 rfl ?_
                                  refine aw_bipush (10) dX9_chain_266 (by decide) ?_
                                  refine aw_idiv dX9_chain_268 (by decide) ?_
                                  refine aw_toe 10 (by decide) ?_
                                  refine aw_istore [(11, .int 10), (9, .int (nI (((y0 / 100) % 10) - 1))), (10, .int (nI q2)), (8, .int (dv + ((if 0 < (100 - r2664) then (100 - r2664) else 0) + 0))), (7, .int (sv + 1)), (14, .int (nI q2)), (13, .int r2643), (12, .int (nI (((y0 / 100) % 10) - 1))), (4, .int v), (3, .int (nI y0)), (0, .ref (G.1 + 88))] dX9_chain_269 (by decide) rfl ?_
                                  refine aw_goto 170 dX9_chain_271 (by decide) ?_
                                  refine aw_lv [(11, .int 10), (10, .int (nI q2)), (9, .int (nI (((y0 / 100) % 10) - 1))), (8, .int (dv + ((if 0 < (100 - r2664) then (100 - r2664) else 0) + 0))), (7, .int (sv + 1)), (4, .int v), (3, .int (nI y0)), (0, .ref (G.1 + 88))] [0, 2, 1, 3, 4, 8, 9, 10] rfl ?_
                                  exact ih2579 2 (nI q2) (((y0 / 100) % 10) - 1) (dv + ((if 0 < (100 - r2664) then (100 - r2664) else 0) + 0)) (sv + 1) lk12638 su12639 jd12640 wy12641 _ (by omega) (by decide) (Or.inr ⟨_, bq2, rfl⟩) (by omega) (p2650) f2652 f2653 f2654 f2655 f2656 f2657 f2658 f2659 f2660 f2661 f2662 f2645 f2646 f2647 f2648 (rg2_tr (k2578) (rg2_w k2649 (by decide)))
                      · have t123 := ite_0 c123
                        refine aw_aload_n 4 dX9_chain_126 rfl rfl ?_
                        refine aw_bipush (-2) dX9_chain_127 (by decide) ?_
                        refine aw_eV [.int (-2)] [] lX9_130 vX9_refuse mX9_refuse dX9_chain_129 (bX9_refuse (sp := sp) (fa := fa) (nb := nb) (ns := ns) (nm := nm) (nv := nv) (sh := sh) (ho := ho) (ow := ow) (sl := sl) (rg := rg) (x := (-2)) (q := 2) h88 h89 (by decide) (by decide)) h88 rfl rfl rfl (Nat.le_of_ble_eq_true rfl) (by decide) (by decide) rfl (fun h2669 q2668 => ?_)
                        obtain ⟨rg12667, f2670, k2671⟩ := q2668
                        have f2672 := rng_at k2671 (by decide) h88
                        have f2673 := rng_at k2671 (by decide) h90
                        have f2674 := rng_at k2671 (by decide) h91
                        have f2675 := rng_at k2671 (by decide) h93
                        have f2676 := rng_at k2671 (by decide) h94
                        have f2677 := rng_at k2671 (by decide) h95
                        have f2678 := rng_at k2671 (by decide) h96
                        have f2679 := rng_at k2671 (by decide) h97
                        have f2680 := rng_at k2671 (by decide) h98
                        have f2681 := rng_at k2671 (by decide) h92
                        have f2682 := rng_at k2671 (by decide) h99
                        have f2683 := rng_at k2671 (by decide) h100
                        have f2684 := rng_at k2671 (by decide) h101
                        have f2685 := rng_at k2671 (by decide) h102
                        subst hQF
                        exact aw_iret rfl dX9_chain_132 (by decide) (by decide) ⟨_, rfl, _, _, _, _, _, f2682, f2683, f2684, f2685, f2670, rg2_tr (rg2_rf 89 89 99 102 h) (rg2_w k2671 (by decide)), hjd, trivial⟩
                    · have t89 := ite_1e c89
                      refine aw_aload_n 4 dX9_chain_92 rfl rfl ?_
                      refine aw_iconst (-1) dX9_chain_93 (by decide) ?_
                      refine aw_eV [.int (-1)] [] lX9_130 vX9_refuse mX9_refuse dX9_chain_94 (bX9_refuse (sp := sp) (fa := fa) (nb := nb) (ns := ns) (nm := nm) (nv := nv) (sh := sh) (ho := ho) (ow := ow) (sl := sl) (rg := rg) (x := (-1)) (q := 1) h88 h89 (by decide) (by decide)) h88 rfl rfl rfl (Nat.le_of_ble_eq_true rfl) (by decide) (by decide) rfl (fun h2688 q2687 => ?_)
                      obtain ⟨rg12686, f2689, k2690⟩ := q2687
                      have f2691 := rng_at k2690 (by decide) h88
                      have f2692 := rng_at k2690 (by decide) h90
                      have f2693 := rng_at k2690 (by decide) h91
                      have f2694 := rng_at k2690 (by decide) h93
                      have f2695 := rng_at k2690 (by decide) h94
                      have f2696 := rng_at k2690 (by decide) h95
                      have f2697 := rng_at k2690 (by decide) h96
                      have f2698 := rng_at k2690 (by decide) h97
                      have f2699 := rng_at k2690 (by decide) h98
                      have f2700 := rng_at k2690 (by decide) h92
                      have f2701 := rng_at k2690 (by decide) h99
                      have f2702 := rng_at k2690 (by decide) h100
                      have f2703 := rng_at k2690 (by decide) h101
                      have f2704 := rng_at k2690 (by decide) h102
                      subst hQF
                      exact aw_iret rfl dX9_chain_97 (by decide) (by decide) ⟨_, rfl, _, _, _, _, _, f2701, f2702, f2703, f2704, f2689, rg2_tr (rg2_rf 89 89 99 102 h) (rg2_w k2690 (by decide)), hjd, trivial⟩
                · have t89 := ite_1e c89
                  refine aw_aload_n 4 dX9_chain_92 rfl rfl ?_
                  refine aw_iconst (-1) dX9_chain_93 (by decide) ?_
                  refine aw_eV [.int (-1)] [] lX9_130 vX9_refuse mX9_refuse dX9_chain_94 (bX9_refuse (sp := sp) (fa := fa) (nb := nb) (ns := ns) (nm := nm) (nv := nv) (sh := sh) (ho := ho) (ow := ow) (sl := sl) (rg := rg) (x := (-1)) (q := 1) h88 h89 (by decide) (by decide)) h88 rfl rfl rfl (Nat.le_of_ble_eq_true rfl) (by decide) (by decide) rfl (fun h2707 q2706 => ?_)
                  obtain ⟨rg12705, f2708, k2709⟩ := q2706
                  have f2710 := rng_at k2709 (by decide) h88
                  have f2711 := rng_at k2709 (by decide) h90
                  have f2712 := rng_at k2709 (by decide) h91
                  have f2713 := rng_at k2709 (by decide) h93
                  have f2714 := rng_at k2709 (by decide) h94
                  have f2715 := rng_at k2709 (by decide) h95
                  have f2716 := rng_at k2709 (by decide) h96
                  have f2717 := rng_at k2709 (by decide) h97
                  have f2718 := rng_at k2709 (by decide) h98
                  have f2719 := rng_at k2709 (by decide) h92
                  have f2720 := rng_at k2709 (by decide) h99
                  have f2721 := rng_at k2709 (by decide) h100
                  have f2722 := rng_at k2709 (by decide) h101
                  have f2723 := rng_at k2709 (by decide) h102
                  subst hQF
                  exact aw_iret rfl dX9_chain_97 (by decide) (by decide) ⟨_, rfl, _, _, _, _, _, f2720, f2721, f2722, f2723, f2708, rg2_tr (rg2_rf 89 89 99 102 h) (rg2_w k2709 (by decide)), hjd, trivial⟩
            · have t89 := ite_1e c89
              refine aw_aload_n 4 dX9_chain_92 rfl rfl ?_
              refine aw_iconst (-1) dX9_chain_93 (by decide) ?_
              refine aw_eV [.int (-1)] [] lX9_130 vX9_refuse mX9_refuse dX9_chain_94 (bX9_refuse (sp := sp) (fa := fa) (nb := nb) (ns := ns) (nm := nm) (nv := nv) (sh := sh) (ho := ho) (ow := ow) (sl := sl) (rg := rg) (x := (-1)) (q := 1) h88 h89 (by decide) (by decide)) h88 rfl rfl rfl (Nat.le_of_ble_eq_true rfl) (by decide) (by decide) rfl (fun h2726 q2725 => ?_)
              obtain ⟨rg12724, f2727, k2728⟩ := q2725
              have f2729 := rng_at k2728 (by decide) h88
              have f2730 := rng_at k2728 (by decide) h90
              have f2731 := rng_at k2728 (by decide) h91
              have f2732 := rng_at k2728 (by decide) h93
              have f2733 := rng_at k2728 (by decide) h94
              have f2734 := rng_at k2728 (by decide) h95
              have f2735 := rng_at k2728 (by decide) h96
              have f2736 := rng_at k2728 (by decide) h97
              have f2737 := rng_at k2728 (by decide) h98
              have f2738 := rng_at k2728 (by decide) h92
              have f2739 := rng_at k2728 (by decide) h99
              have f2740 := rng_at k2728 (by decide) h100
              have f2741 := rng_at k2728 (by decide) h101
              have f2742 := rng_at k2728 (by decide) h102
              subst hQF
              exact aw_iret rfl dX9_chain_97 (by decide) (by decide) ⟨_, rfl, _, _, _, _, _, f2739, f2740, f2741, f2742, f2727, rg2_tr (rg2_rf 89 89 99 102 h) (rg2_w k2728 (by decide)), hjd, trivial⟩
      · have d18 := mt (j_le (a := y.toInt) (b := (999)) (rfl) (rfl)).mpr c18
        refine aw_aload_n 0 dX9_chain_21 rfl rfl ?_
        refine aw_iconst (-1) dX9_chain_22 (by decide) ?_
        refine aw_eV [.int (-1)] [] lX9_130 vX9_refuse mX9_refuse dX9_chain_23 (bX9_refuse (sp := sp) (fa := fa) (nb := nb) (ns := ns) (nm := nm) (nv := nv) (sh := sh) (ho := ho) (ow := ow) (sl := sl) (rg := rg) (x := (-1)) (q := 1) h88 h89 (by decide) (by decide)) h88 rfl rfl rfl (Nat.le_of_ble_eq_true rfl) (by decide) (by decide) rfl (fun h2745 q2744 => ?_)
        obtain ⟨rg12743, f2746, k2747⟩ := q2744
        have f2748 := rng_at k2747 (by decide) h88
        have f2749 := rng_at k2747 (by decide) h90
        have f2750 := rng_at k2747 (by decide) h91
        have f2751 := rng_at k2747 (by decide) h93
        have f2752 := rng_at k2747 (by decide) h94
        have f2753 := rng_at k2747 (by decide) h95
        have f2754 := rng_at k2747 (by decide) h96
        have f2755 := rng_at k2747 (by decide) h97
        have f2756 := rng_at k2747 (by decide) h98
        have f2757 := rng_at k2747 (by decide) h92
        have f2758 := rng_at k2747 (by decide) h99
        have f2759 := rng_at k2747 (by decide) h100
        have f2760 := rng_at k2747 (by decide) h101
        have f2761 := rng_at k2747 (by decide) h102
        subst hQF
        exact aw_iret rfl dX9_chain_26 (by decide) (by decide) ⟨_, rfl, _, _, _, _, _, f2758, f2759, f2760, f2761, f2746, rg2_tr (rg2_rf 89 89 99 102 h) (rg2_w k2747 (by decide)), hjd, trivial⟩
