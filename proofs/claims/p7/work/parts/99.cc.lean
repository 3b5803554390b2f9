set_option maxHeartbeats 4000000 in
theorem fc_n {l : Launch} {G : xG} {h : List va_E} {bv : Value} {J : Nat} {m se ye fi : Nat → Nat} {W Sn Z Ro Co : Nat → Int32} {Ba : Nat → Int64} {nb sp fa ve : Nat} {lx : Nat → Nat → Nat → Nat → Nat} {a i y0 : Nat} {w : Int32} (h0 : h[0]? = some (oB 8 (lX G (.null) (bv)))) (h1 : h[1]? = some (oB 1 (lC G (nI nb) (nI sp) (nI fa) (nI ve)))) (h2 : h[2]? = some (aI 20 (nA m))) (h3 : h[3]? = some (aI 20 (nA se))) (h4 : h[4]? = some (aI 4 (nA ye))) (h5 : h[5]? = some (aI 4 (nA fi))) (h6 : h[6]? = some (aI 40 W)) (h7 : h[7]? = some (aI 40 Sn)) (h8 : h[8]? = some (aI 40 Z)) (h9 : h[9]? = some (aI 40 Ro)) (h10 : h[10]? = some (aI 40 Co)) (h11 : h[11]? = some (aL 40 Ba)) (h12 : h[12]? = some (aR 16 (xjo G.1 16))) (hl : h.length = J) (hm : ∀ j, j < 20 → m j ≤ j) (hse : ∀ j, j < 20 → se j < 20) (hfi : ∀ j, j < 4 → fi j < 11) (hye : ∀ j, j < 4 → ye j < 1901) (ba : a < 4) (bi : i < 10) (bia : i < fi a) (qJ : 125 ≤ J) (bve : ve ≤ 600) (hve : 1 ≤ ve) (hJz : iJs G jZ h) (hlx : ∀ a, a < 4 → ∀ b, b < 4 → ∀ i, i < fi a → ∀ k, k < fi b → likeC ye Sn Z Ro Co Ba sp fa (a * 10 + i) (b * 10 + k) = nI (lx a b i k)) (hlx3 : ∀ a b i k, lx a b i k ≤ 300) (g1 : 1 ≤ y0 % 10 ∧ y0 % 10 ≤ 4 ∧ y0 / 10 % 10 ≤ 4 ∧ y0 / 100 % 10 ≤ 4) (by0 : y0 < 1000) : CU l G yX8_followChain cX8_followChain 14 (some .int) 6 6 13430 [.ref (G.1 + 0), .int (nI a), .int (nI i), .int (nI y0), .int w] h (fun r h1 => ∃ u1 : Nat, ∃ v1 : Nat, ∃ ro1 : Nat, ∃ co1 : Nat, ∃ rc1 : Nat → Nat, ∃ lk1 : Nat → Int32, ∃ bs1 : Nat → Int32, ∃ wy1 : Nat → Int32, ∃ nw1 : Nat → Int32, h1[0]? = some (oB 8 (lX G (.ref (G.1 + J)) (bv))) ∧ h1[J]? = some (oB 3 (lJ G J (.ref (G.1 + u1)) (.ref (G.1 + v1)) (nI ro1) (nI co1))) ∧ h1[J + 1]? = some (aI 100 lk1) ∧ h1[J + 2]? = some (aI 11 (nA rc1)) ∧ h1[J + 3]? = some (aI 11264 bs1) ∧ h1[u1]? = some (aI 1024 wy1) ∧ h1[v1]? = some (aI 1024 nw1) ∧ grw 0 0 13 60 h h1 ∧ (J + 4 ≤ u1 ∧ u1 ≤ J + 5) ∧ (J + 4 ≤ v1 ∧ v1 ≤ J + 5) ∧ (u1 ≠ v1 ∧ wZ wy1 nw1) ∧ (∀ j, j < 11 → rc1 j < 1024) ∧ iJs G (jX lx fi ve) h1 ∧ h1.length = J + 6 ∧ r = chR w (chV lx fi y0 3 a (nI i) 0 0)) := by
  refine cm_ofQ rfl (Nat.le_of_ble_eq_true rfl) [(0, .ref (G.1 + 0)), (1, .int (nI a)), (2, .int (nI i)), (3, .int (nI y0)), (4, .int w)] rfl (fun QF hQF => ?_)
  refine aw_iload_n 1 dX8_followChain_0 rfl rfl ?_
  refine aw_istore [(5, .int (nI a)), (0, .ref (G.1 + 0)), (1, .int (nI a)), (2, .int (nI i)), (3, .int (nI y0)), (4, .int w)] dX8_followChain_1 (by decide) rfl ?_
  refine aw_iload_n 3 dX8_followChain_3 rfl rfl ?_
  refine aw_istore [(6, .int (nI i)), (5, .int (nI a)), (0, .ref (G.1 + 0)), (1, .int (nI a)), (2, .int (nI i)), (3, .int (nI y0)), (4, .int w)] dX8_followChain_4 (by decide) rfl ?_
  refine aw_iconst (0) dX8_followChain_6 (by decide) ?_
  refine aw_istore [(7, .int 0), (6, .int (nI i)), (5, .int (nI a)), (0, .ref (G.1 + 0)), (1, .int (nI a)), (2, .int (nI i)), (3, .int (nI y0)), (4, .int w)] dX8_followChain_7 (by decide) rfl ?_
  refine aw_iconst (0) dX8_followChain_9 (by decide) ?_
  refine aw_istore [(8, .int 0), (7, .int 0), (6, .int (nI i)), (5, .int (nI a)), (0, .ref (G.1 + 0)), (1, .int (nI a)), (2, .int (nI i)), (3, .int (nI y0)), (4, .int w)] dX8_followChain_10 (by decide) rfl ?_
  refine aw_bipush (100) dX8_followChain_12 (by decide) ?_
  refine aw_istore [(9, .int 100), (8, .int 0), (7, .int 0), (6, .int (nI i)), (5, .int (nI a)), (0, .ref (G.1 + 0)), (1, .int (nI a)), (2, .int (nI i)), (3, .int (nI y0)), (4, .int w)] dX8_followChain_14 (by decide) rfl ?_
  refine aw_iload 0 dX8_followChain_16 rfl ?_
  refine aw_if_le 149 dX8_followChain_18 (by decide) (fun c18 => absurd c18 (by decide)) (fun c18 => ?_)
  refine aw_iload 3 dX8_followChain_21 rfl ?_
  refine aw_bipush (-9) dX8_followChain_23 (by decide) ?_
  refine aw_icmp_eq 149 dX8_followChain_25 (by decide) (fun c25 => absurd c25 (nI_ne9 bi)) (fun c25 => ?_)
  refine aw_iload_n 8 dX8_followChain_28 rfl rfl ?_
  refine aw_iload 0 dX8_followChain_29 rfl ?_
  refine aw_idiv dX8_followChain_31 (by decide) ?_
  refine aw_toe (nI (y0 / 100)) (nv_div (rfl) (rfl) (by omega) (by decide) (by decide)) ?_
  refine aw_bipush (10) dX8_followChain_32 (by decide) ?_
  refine aw_irem dX8_followChain_34 (by decide) ?_
  refine aw_toe (nI ((y0 / 100) % 10)) (nv_rem (rfl) (rfl) (by omega) (by decide) (by decide)) ?_
  refine aw_iconst (1) dX8_followChain_35 (by decide) ?_
  refine aw_isub dX8_followChain_36 ?_
  refine aw_istore [(10, .int ((nI ((y0 / 100) % 10)) - 1)), (9, .int 100), (8, .int 0), (7, .int 0), (6, .int (nI i)), (5, .int (nI a)), (0, .ref (G.1 + 0)), (1, .int (nI a)), (2, .int (nI i)), (3, .int (nI y0)), (4, .int w)] dX8_followChain_37 (by decide) rfl ?_
  refine aw_iload 0 dX8_followChain_39 rfl ?_
  refine aw_if_lt 139 dX8_followChain_41 (by decide) (fun c41 => ?_) (fun c41 => ?_)
  · have d41 := (j_lt (a := ((nI ((y0 / 100) % 10)) - 1).toInt) (b := (0)) (rfl) (rfl)).mp c41
    have hsk2 : chV lx fi y0 3 a (nI i) 0 0 = chV lx fi y0 2 a (nI i) 0 0 := chV_0 (by omega) (by rw [dig_i (by omega)] at d41; show y0 / 100 % 10 = 0; omega)
    refine aw_iload 1 dX8_followChain_139 rfl ?_
    refine aw_bipush (10) dX8_followChain_141 (by decide) ?_
    refine aw_idiv dX8_followChain_143 (by decide) ?_
    refine aw_toe 10 (by decide) ?_
    refine aw_istore [(9, .int 10), (10, .int ((nI ((y0 / 100) % 10)) - 1)), (8, .int 0), (7, .int 0), (6, .int (nI i)), (5, .int (nI a)), (0, .ref (G.1 + 0)), (1, .int (nI a)), (2, .int (nI i)), (3, .int (nI y0)), (4, .int w)] dX8_followChain_144 (by decide) rfl ?_
    refine aw_goto 16 dX8_followChain_146 (by decide) ?_
    refine aw_iload 0 dX8_followChain_16 rfl ?_
    refine aw_if_le 149 dX8_followChain_18 (by decide) (fun c18 => absurd c18 (by decide)) (fun c18 => ?_)
    refine aw_iload 4 dX8_followChain_21 rfl ?_
    refine aw_bipush (-9) dX8_followChain_23 (by decide) ?_
    refine aw_icmp_eq 149 dX8_followChain_25 (by decide) (fun c25 => absurd c25 (nI_ne9 bi)) (fun c25 => ?_)
    refine aw_iload_n 9 dX8_followChain_28 rfl rfl ?_
    refine aw_iload 0 dX8_followChain_29 rfl ?_
    refine aw_idiv dX8_followChain_31 (by decide) ?_
    refine aw_toe (nI (y0 / 10)) (nv_div (rfl) (rfl) (by omega) (by decide) (by decide)) ?_
    refine aw_bipush (10) dX8_followChain_32 (by decide) ?_
    refine aw_irem dX8_followChain_34 (by decide) ?_
    refine aw_toe (nI ((y0 / 10) % 10)) (nv_rem (rfl) (rfl) (by omega) (by decide) (by decide)) ?_
    refine aw_iconst (1) dX8_followChain_35 (by decide) ?_
    refine aw_isub dX8_followChain_36 ?_
    refine aw_istore [(10, .int ((nI ((y0 / 10) % 10)) - 1)), (9, .int 10), (8, .int 0), (7, .int 0), (6, .int (nI i)), (5, .int (nI a)), (0, .ref (G.1 + 0)), (1, .int (nI a)), (2, .int (nI i)), (3, .int (nI y0)), (4, .int w)] dX8_followChain_37 (by decide) rfl ?_
    refine aw_iload 0 dX8_followChain_39 rfl ?_
    refine aw_if_lt 139 dX8_followChain_41 (by decide) (fun c41 => ?_) (fun c41 => ?_)
    · have d41 := (j_lt (a := ((nI ((y0 / 10) % 10)) - 1).toInt) (b := (0)) (rfl) (rfl)).mp c41
      have hsk1 : chV lx fi y0 3 a (nI i) 0 0 = chV lx fi y0 1 a (nI i) 0 0 := hsk2.trans (chV_0 (by omega) (by rw [dig_i (by omega)] at d41; show y0 / 10 % 10 = 0; omega))
      refine aw_iload 1 dX8_followChain_139 rfl ?_
      refine aw_bipush (10) dX8_followChain_141 (by decide) ?_
      refine aw_idiv dX8_followChain_143 (by decide) ?_
      refine aw_toe 1 (by decide) ?_
      refine aw_istore [(9, .int 1), (10, .int ((nI ((y0 / 10) % 10)) - 1)), (8, .int 0), (7, .int 0), (6, .int (nI i)), (5, .int (nI a)), (0, .ref (G.1 + 0)), (1, .int (nI a)), (2, .int (nI i)), (3, .int (nI y0)), (4, .int w)] dX8_followChain_144 (by decide) rfl ?_
      refine aw_goto 16 dX8_followChain_146 (by decide) ?_
      refine aw_iload 0 dX8_followChain_16 rfl ?_
      refine aw_if_le 149 dX8_followChain_18 (by decide) (fun c18 => absurd c18 (by decide)) (fun c18 => ?_)
      refine aw_iload 4 dX8_followChain_21 rfl ?_
      refine aw_bipush (-9) dX8_followChain_23 (by decide) ?_
      refine aw_icmp_eq 149 dX8_followChain_25 (by decide) (fun c25 => absurd c25 (nI_ne9 bi)) (fun c25 => ?_)
      refine aw_iload_n 9 dX8_followChain_28 rfl rfl ?_
      refine aw_iload 0 dX8_followChain_29 rfl ?_
      refine aw_idiv dX8_followChain_31 (by decide) ?_
      refine aw_toe (nI (y0 / 1)) (nv_div (rfl) (rfl) (by omega) (by decide) (by decide)) ?_
      refine aw_bipush (10) dX8_followChain_32 (by decide) ?_
      refine aw_irem dX8_followChain_34 (by decide) ?_
      refine aw_toe (nI ((y0 / 1) % 10)) (nv_rem (rfl) (rfl) (by omega) (by decide) (by decide)) ?_
      refine aw_iconst (1) dX8_followChain_35 (by decide) ?_
      refine aw_isub dX8_followChain_36 ?_
      refine aw_istore [(10, .int ((nI ((y0 / 1) % 10)) - 1)), (9, .int 1), (8, .int 0), (7, .int 0), (6, .int (nI i)), (5, .int (nI a)), (0, .ref (G.1 + 0)), (1, .int (nI a)), (2, .int (nI i)), (3, .int (nI y0)), (4, .int w)] dX8_followChain_37 (by decide) rfl ?_
      refine aw_iload 0 dX8_followChain_39 rfl ?_
      refine aw_if_lt 139 dX8_followChain_41 (by decide) (fun c41 => ?_) (fun c41 => ?_)
      · have d41 := (j_lt (a := ((nI ((y0 / 1) % 10)) - 1).toInt) (b := (0)) (rfl) (rfl)).mp c41
        exfalso
        rw [dig_i (by omega)] at d41
        omega
      · have d41 := mt (j_lt (a := ((nI ((y0 / 1) % 10)) - 1).toInt) (b := (0)) (rfl) (rfl)).mpr c41
        have g0 : 1 ≤ y0 / 1 % 10 := by rw [dig_i (by omega)] at d41; omega
        rw [dig_e g0]
        obtain ⟨su, wa, pt, ce, pv, gg0, gg1, gg2, hpt, bpv, hfz⟩ := hJz (a * 4 + (y0 / 1 % 10 - 1)) (by omega)
        obtain ⟨P, eP⟩ : ∃ P, P = 13 + 3 * (a * 4 + (y0 / 1 % 10 - 1)) := ⟨_, rfl⟩
        rw [← eP] at gg0 gg1 gg2
        have hvv : ¬ pv = ve := by rw [show pv = 0 from hfz]; omega
        refine aw_aload_n 6 dX8_followChain_44 rfl rfl ?_
        refine aw_iload 5 dX8_followChain_45 rfl ?_
        refine aw_iload 0 dX8_followChain_47 rfl ?_
        refine aw_eV [.int (nI a), .int (nI (y0 / 1 % 10 - 1))] [] lX8_124 vX8_bestJoining mX8_bestJoining dX8_followChain_49 (bJ_n (bv := bv) (P := P) (pv := pv) (su := su) (wa := wa) (pt := pt) (ce := ce) (m := m) (se := se) (ye := ye) (fi := fi) (W := W) (Sn := Sn) (Z := Z) (Ro := Ro) (Co := Co) (Ba := Ba) (nb := nb) (sp := sp) (fa := fa) (ve := ve) (a := a) (b := y0 / 1 % 10 - 1) h0 h1 h2 h3 h4 h5 h6 h7 h8 h9 h10 h11 h12 gg0 gg1 gg2 (by omega) hm hse hfi hye (by omega) (by omega) (by omega) (by omega) (by omega) hpt eP (hlx a (by omega) (y0 / 1 % 10 - 1) (by omega)) (hlx3 a (y0 / 1 % 10 - 1)) (by omega) (by omega) hvv) h0 rfl rfl rfl (Nat.le_of_ble_eq_true rfl) (by decide) (by decide) rfl (fun h5945 q5944 => ?_)
        obtain ⟨u15931, v15932, ro15933, co15934, rc15935, lk15936, bs15937, wy15938, nw15939, su15940, wa15941, pt15942, ce15943, f5946, f5947, f5948, f5949, f5950, f5951, f5952, f5953, f5954, f5955, k5956, p5957, p5958, p5959, p5960, p5961, p5962, p5963⟩ := q5944
        have f5964 := grw_at k5956 (by omega) h1
        have f5965 := grw_at k5956 (by omega) h2
        have f5966 := grw_at k5956 (by omega) h3
        have f5967 := grw_at k5956 (by omega) h4
        have f5968 := grw_at k5956 (by omega) h5
        have f5969 := grw_at k5956 (by omega) h6
        have f5970 := grw_at k5956 (by omega) h7
        have f5971 := grw_at k5956 (by omega) h8
        have f5972 := grw_at k5956 (by omega) h9
        have f5973 := grw_at k5956 (by omega) h10
        have f5974 := grw_at k5956 (by omega) h11
        have f5975 := grw_at k5956 (by omega) h12
        have hJ2 : iJs G (jX lx fi ve) h5945 := iJs_up (iJs_w hJz (fun _ _ _ _ _ _ w9 => jX_z hve w9)) (k := a * 4 + (y0 / 1 % 10 - 1)) (by omega) eP (fun j q1 q2 q3 => k5956.2 j (by omega) (by omega)) f5953 f5954 f5955 p5961 bve (jX_at p5962 (by omega))
        have hln := p5963
        refine aw_astore [(11, .ref (G.1 + P)), (10, .int (nI (y0 / 1 % 10 - 1))), (9, .int 1), (8, .int 0), (7, .int 0), (6, .int (nI i)), (5, .int (nI a)), (0, .ref (G.1 + 0)), (1, .int (nI a)), (2, .int (nI i)), (3, .int (nI y0)), (4, .int w)] dX8_followChain_52 (by decide) rfl ?_
        refine aw_aload 0 dX8_followChain_54 rfl ?_
        refine aw_get fX8_131 dX8_followChain_56 f5953 rfl ?_
        refine aw_iload 5 dX8_followChain_59 rfl ?_
        refine aw_iald i (rfl) (by omega) (by decide) dX8_followChain_61 f5954 ?_
        refine aw_istore [(12, .int (pt15942 i)), (11, .ref (G.1 + P)), (10, .int (nI (y0 / 1 % 10 - 1))), (9, .int 1), (8, .int 0), (7, .int 0), (6, .int (nI i)), (5, .int (nI a)), (0, .ref (G.1 + 0)), (1, .int (nI a)), (2, .int (nI i)), (3, .int (nI y0)), (4, .int w)] dX8_followChain_62 (by decide) rfl ?_
        refine aw_iload 0 dX8_followChain_64 rfl ?_
        refine aw_bipush (-9) dX8_followChain_66 (by decide) ?_
        refine aw_icmp_eq 131 dX8_followChain_68 (by decide) (fun c68 => ?_) (fun c68 => ?_)
        · have d68 := (j_eq (a := (pt15942 i).toInt) (b := (-9)) (rfl) (rfl)).mp c68
          refine aw_iload 2 dX8_followChain_131 rfl ?_
          refine aw_istore [(5, .int (nI (y0 / 1 % 10 - 1))), (12, .int (pt15942 i)), (11, .ref (G.1 + P)), (10, .int (nI (y0 / 1 % 10 - 1))), (9, .int 1), (8, .int 0), (7, .int 0), (6, .int (nI i)), (0, .ref (G.1 + 0)), (1, .int (nI a)), (2, .int (nI i)), (3, .int (nI y0)), (4, .int w)] dX8_followChain_133 (by decide) rfl ?_
          refine aw_iload 1 dX8_followChain_135 rfl ?_
          refine aw_istore [(6, .int (pt15942 i)), (5, .int (nI (y0 / 1 % 10 - 1))), (12, .int (pt15942 i)), (11, .ref (G.1 + P)), (10, .int (nI (y0 / 1 % 10 - 1))), (9, .int 1), (8, .int 0), (7, .int 0), (0, .ref (G.1 + 0)), (1, .int (nI a)), (2, .int (nI i)), (3, .int (nI y0)), (4, .int w)] dX8_followChain_137 (by decide) rfl ?_
          refine aw_iload 5 dX8_followChain_139 rfl ?_
          refine aw_bipush (10) dX8_followChain_141 (by decide) ?_
          refine aw_idiv dX8_followChain_143 (by decide) ?_
          refine aw_toe 0 (by decide) ?_
          refine aw_istore [(9, .int 0), (6, .int (pt15942 i)), (5, .int (nI (y0 / 1 % 10 - 1))), (12, .int (pt15942 i)), (11, .ref (G.1 + P)), (10, .int (nI (y0 / 1 % 10 - 1))), (8, .int 0), (7, .int 0), (0, .ref (G.1 + 0)), (1, .int (nI a)), (2, .int (nI i)), (3, .int (nI y0)), (4, .int w)] dX8_followChain_144 (by decide) rfl ?_
          refine aw_goto 16 dX8_followChain_146 (by decide) ?_
          refine aw_lv [(9, .int 0), (8, .int 0), (7, .int 0), (6, .int (pt15942 i)), (5, .int (nI (y0 / 1 % 10 - 1))), (4, .int w), (3, .int (nI y0)), (0, .ref (G.1 + 0))] [0, 6, 7, 1, 2, 12, 11, 8] rfl ?_
          exact fcL (bv := bv) (J := J) (x := 0) (ev := pt15942 i) (fr := y0 / 1 % 10 - 1) (dv := 0) (sv := 0) (u1 := u15931) (v1 := v15932) (ro1 := ro15933) (co1 := co15934) (rc1 := rc15935) (lk1 := lk15936) (bs1 := bs15937) (wy1 := wy15938) (nw1 := nw15939) hl hm hse hfi hye qJ bve hlx hlx3 g1 by0 (by decide) (Or.inl c68) (by omega) p5957 p5958 p5959 p5960 hJ2 hln (by rw [c68]; exact hsk1.trans (chV_n (t := y0 / 1 % 10 - 1) (by omega) (by show ¬ y0 / 1 % 10 = 0; omega) rfl ((p5962.2.1 i (by omega)).symm.trans c68))) f5946 f5964 f5965 f5966 f5967 f5968 f5969 f5970 f5971 f5972 f5973 f5974 f5975 f5947 f5948 f5949 f5950 f5951 f5952 (grw_gg (grw_rf 0 0 13 60 h) k5956 (fun j q1 q2 => by omega)) hQF
        · have d68 := mt (j_eq (a := (pt15942 i).toInt) (b := (-9)) (rfl) (rfl)).mpr c68
          obtain ⟨q2, bq2, eq2⟩ := (p5961 i (by omega)).resolve_left c68
          have fb9 := hfi (y0 / 1 % 10 - 1) (by omega)
          have hP := (p5962.2.1 i (by omega)).symm.trans eq2
          have bq2f := jP_lt (by omega) (by omega) hP
          rw [eq2]
          refine aw_iinc (j := 5) (1) [(7, .int 1), (12, .int (nI q2)), (11, .ref (G.1 + P)), (10, .int (nI (y0 / 1 % 10 - 1))), (9, .int 1), (8, .int 0), (6, .int (nI i)), (5, .int (nI a)), (0, .ref (G.1 + 0)), (1, .int (nI a)), (2, .int (nI i)), (3, .int (nI y0)), (4, .int w)] dX8_followChain_71 rfl (by decide) (by decide) rfl ?_
          refine aw_aload_n 8 dX8_followChain_74 rfl rfl ?_
          refine aw_get fX8_20 dX8_followChain_75 f5946 rfl ?_
          refine aw_iload 7 dX8_followChain_78 rfl ?_
          refine aw_bipush (10) dX8_followChain_80 (by decide) ?_
          refine aw_imul dX8_followChain_82 ?_
          refine aw_toe (nI (a * 10)) (nv_mul (rfl) (rfl)) ?_
          refine aw_iload 6 dX8_followChain_83 rfl ?_
          refine aw_iadd dX8_followChain_85 ?_
          refine aw_toe (nI ((a * 10) + i)) (nv_add (rfl) (rfl)) ?_
          refine aw_iload 3 dX8_followChain_86 rfl ?_
          refine aw_bipush (10) dX8_followChain_88 (by decide) ?_
          refine aw_imul dX8_followChain_90 ?_
          refine aw_toe (nI ((y0 / 1 % 10 - 1) * 10)) (nv_mul (rfl) (rfl)) ?_
          refine aw_iload 1 dX8_followChain_91 rfl ?_
          refine aw_iadd dX8_followChain_93 ?_
          refine aw_toe (nI (((y0 / 1 % 10 - 1) * 10) + q2)) (nv_add (rfl) (rfl)) ?_
          refine aw_dV [.int (nI ((a * 10) + i)), .int (nI (((y0 / 1 % 10 - 1) * 10) + q2))] [] lX8_121 vX1_likeness mX1_likeness dX8_followChain_94 (aX1_likeness (m := m) (se := se) (ye := ye) (fi := fi) (W := W) (Sn := Sn) (Z := Z) (Ro := Ro) (Co := Co) (Ba := Ba) (nb := nb) (sp := sp) (fa := fa) (ve := ve) (e := (a * 10) + i) (f := ((y0 / 1 % 10 - 1) * 10) + q2) f5964 f5965 f5966 f5967 f5968 f5969 f5970 f5971 f5972 f5973 f5974 hm hse hfi hye (by omega) (by omega)) f5964 rfl rfl rfl (Nat.le_of_ble_eq_true rfl) (by decide) (by decide) rfl ?_
          refine aw_toe (nI (lx a (y0 / 1 % 10 - 1) i q2)) (hlx a (by omega) (y0 / 1 % 10 - 1) (by omega) i (by omega) q2 (by omega)) ?_
          refine aw_istore [(13, .int (nI (lx a (y0 / 1 % 10 - 1) i q2))), (7, .int 1), (12, .int (nI q2)), (11, .ref (G.1 + P)), (10, .int (nI (y0 / 1 % 10 - 1))), (9, .int 1), (8, .int 0), (6, .int (nI i)), (5, .int (nI a)), (0, .ref (G.1 + 0)), (1, .int (nI a)), (2, .int (nI i)), (3, .int (nI y0)), (4, .int w)] dX8_followChain_97 (by decide) rfl ?_
          refine aw_iload 6 dX8_followChain_99 rfl ?_
          refine aw_iconst (0) dX8_followChain_101 (by decide) ?_
          refine aw_bipush (100) dX8_followChain_102 (by decide) ?_
          refine aw_iload 0 dX8_followChain_104 rfl ?_
          refine aw_isub dX8_followChain_106 ?_
          refine aw_mmax lX8_251 dX8_followChain_107 (Nat.le_of_ble_eq_true rfl) (by decide) (by decide) ?_
          refine aw_toe (chX (nI (lx a (y0 / 1 % 10 - 1) i q2))) (rfl) ?_
          refine aw_aload 3 dX8_followChain_110 rfl ?_
          refine aw_get fX8_137 dX8_followChain_112 f5953 rfl ?_
          refine aw_iload 7 dX8_followChain_115 rfl ?_
          refine aw_zald i (rfl) (by omega) (by decide) dX8_followChain_117 f5955 ?_
          refine aw_if_eq 125 dX8_followChain_118 (by decide) (fun c118 => ?_) (fun c118 => ?_)
          · have d118 := (j_eq (a := (ce15943 i).toInt) (b := (0)) (rfl) (rfl)).mp c118
            refine aw_bipush (50) dX8_followChain_125 (by decide) ?_
            refine aw_iadd dX8_followChain_127 ?_
            refine aw_iadd dX8_followChain_128 ?_
            refine aw_istore [(8, .int (0 + ((chX (nI (lx a (y0 / 1 % 10 - 1) i q2))) + 50))), (13, .int (nI (lx a (y0 / 1 % 10 - 1) i q2))), (7, .int 1), (12, .int (nI q2)), (11, .ref (G.1 + P)), (10, .int (nI (y0 / 1 % 10 - 1))), (9, .int 1), (6, .int (nI i)), (5, .int (nI a)), (0, .ref (G.1 + 0)), (1, .int (nI a)), (2, .int (nI i)), (3, .int (nI y0)), (4, .int w)] dX8_followChain_129 (by decide) rfl ?_
            refine aw_iload 5 dX8_followChain_131 rfl ?_
            refine aw_istore [(5, .int (nI (y0 / 1 % 10 - 1))), (8, .int (0 + ((chX (nI (lx a (y0 / 1 % 10 - 1) i q2))) + 50))), (13, .int (nI (lx a (y0 / 1 % 10 - 1) i q2))), (7, .int 1), (12, .int (nI q2)), (11, .ref (G.1 + P)), (10, .int (nI (y0 / 1 % 10 - 1))), (9, .int 1), (6, .int (nI i)), (0, .ref (G.1 + 0)), (1, .int (nI a)), (2, .int (nI i)), (3, .int (nI y0)), (4, .int w)] dX8_followChain_133 (by decide) rfl ?_
            refine aw_iload 4 dX8_followChain_135 rfl ?_
            refine aw_istore [(6, .int (nI q2)), (5, .int (nI (y0 / 1 % 10 - 1))), (8, .int (0 + ((chX (nI (lx a (y0 / 1 % 10 - 1) i q2))) + 50))), (13, .int (nI (lx a (y0 / 1 % 10 - 1) i q2))), (7, .int 1), (12, .int (nI q2)), (11, .ref (G.1 + P)), (10, .int (nI (y0 / 1 % 10 - 1))), (9, .int 1), (0, .ref (G.1 + 0)), (1, .int (nI a)), (2, .int (nI i)), (3, .int (nI y0)), (4, .int w)] dX8_followChain_137 (by decide) rfl ?_
            refine aw_iload 8 dX8_followChain_139 rfl ?_
            refine aw_bipush (10) dX8_followChain_141 (by decide) ?_
            refine aw_idiv dX8_followChain_143 (by decide) ?_
            refine aw_toe 0 (by decide) ?_
            refine aw_istore [(9, .int 0), (6, .int (nI q2)), (5, .int (nI (y0 / 1 % 10 - 1))), (8, .int (0 + ((chX (nI (lx a (y0 / 1 % 10 - 1) i q2))) + 50))), (13, .int (nI (lx a (y0 / 1 % 10 - 1) i q2))), (7, .int 1), (12, .int (nI q2)), (11, .ref (G.1 + P)), (10, .int (nI (y0 / 1 % 10 - 1))), (0, .ref (G.1 + 0)), (1, .int (nI a)), (2, .int (nI i)), (3, .int (nI y0)), (4, .int w)] dX8_followChain_144 (by decide) rfl ?_
            refine aw_goto 16 dX8_followChain_146 (by decide) ?_
            refine aw_lv [(9, .int 0), (8, .int (0 + ((chX (nI (lx a (y0 / 1 % 10 - 1) i q2))) + 50))), (7, .int 1), (6, .int (nI q2)), (5, .int (nI (y0 / 1 % 10 - 1))), (4, .int w), (3, .int (nI y0)), (0, .ref (G.1 + 0))] [0, 3, 5, 1, 2, 13, 12, 9] rfl ?_
            exact fcL (bv := bv) (J := J) (x := 0) (ev := (nI q2)) (fr := y0 / 1 % 10 - 1) (dv := 0 + ((chX (nI (lx a (y0 / 1 % 10 - 1) i q2))) + 50)) (sv := 1) (u1 := u15931) (v1 := v15932) (ro1 := ro15933) (co1 := co15934) (rc1 := rc15935) (lk1 := lk15936) (bs1 := bs15937) (wy1 := wy15938) (nw1 := nw15939) hl hm hse hfi hye qJ bve hlx hlx3 g1 by0 (by decide) (Or.inr ⟨_, bq2, bq2f, rfl⟩) (by omega) p5957 p5958 p5959 p5960 hJ2 hln (hsk1.trans (chV_s (t := y0 / 1 % 10 - 1) (by omega) (by omega) (by show ¬ y0 / 1 % 10 = 0; omega) rfl hP (cc_0 (p5962.2.2.2 i (by omega)) c118))) f5946 f5964 f5965 f5966 f5967 f5968 f5969 f5970 f5971 f5972 f5973 f5974 f5975 f5947 f5948 f5949 f5950 f5951 f5952 (grw_gg (grw_rf 0 0 13 60 h) k5956 (fun j q1 q2 => by omega)) hQF
          · have d118 := mt (j_eq (a := (ce15943 i).toInt) (b := (0)) (rfl) (rfl)).mpr c118
            refine aw_iconst (0) dX8_followChain_121 (by decide) ?_
            refine aw_goto 127 dX8_followChain_122 (by decide) ?_
            refine aw_iadd dX8_followChain_127 ?_
            refine aw_iadd dX8_followChain_128 ?_
            refine aw_istore [(8, .int (0 + ((chX (nI (lx a (y0 / 1 % 10 - 1) i q2))) + 0))), (13, .int (nI (lx a (y0 / 1 % 10 - 1) i q2))), (7, .int 1), (12, .int (nI q2)), (11, .ref (G.1 + P)), (10, .int (nI (y0 / 1 % 10 - 1))), (9, .int 1), (6, .int (nI i)), (5, .int (nI a)), (0, .ref (G.1 + 0)), (1, .int (nI a)), (2, .int (nI i)), (3, .int (nI y0)), (4, .int w)] dX8_followChain_129 (by decide) rfl ?_
            refine aw_iload 5 dX8_followChain_131 rfl ?_
            refine aw_istore [(5, .int (nI (y0 / 1 % 10 - 1))), (8, .int (0 + ((chX (nI (lx a (y0 / 1 % 10 - 1) i q2))) + 0))), (13, .int (nI (lx a (y0 / 1 % 10 - 1) i q2))), (7, .int 1), (12, .int (nI q2)), (11, .ref (G.1 + P)), (10, .int (nI (y0 / 1 % 10 - 1))), (9, .int 1), (6, .int (nI i)), (0, .ref (G.1 + 0)), (1, .int (nI a)), (2, .int (nI i)), (3, .int (nI y0)), (4, .int w)] dX8_followChain_133 (by decide) rfl ?_
            refine aw_iload 4 dX8_followChain_135 rfl ?_
            refine aw_istore [(6, .int (nI q2)), (5, .int (nI (y0 / 1 % 10 - 1))), (8, .int (0 + ((chX (nI (lx a (y0 / 1 % 10 - 1) i q2))) + 0))), (13, .int (nI (lx a (y0 / 1 % 10 - 1) i q2))), (7, .int 1), (12, .int (nI q2)), (11, .ref (G.1 + P)), (10, .int (nI (y0 / 1 % 10 - 1))), (9, .int 1), (0, .ref (G.1 + 0)), (1, .int (nI a)), (2, .int (nI i)), (3, .int (nI y0)), (4, .int w)] dX8_followChain_137 (by decide) rfl ?_
            refine aw_iload 8 dX8_followChain_139 rfl ?_
            refine aw_bipush (10) dX8_followChain_141 (by decide) ?_
            refine aw_idiv dX8_followChain_143 (by decide) ?_
            refine aw_toe 0 (by decide) ?_
            refine aw_istore [(9, .int 0), (6, .int (nI q2)), (5, .int (nI (y0 / 1 % 10 - 1))), (8, .int (0 + ((chX (nI (lx a (y0 / 1 % 10 - 1) i q2))) + 0))), (13, .int (nI (lx a (y0 / 1 % 10 - 1) i q2))), (7, .int 1), (12, .int (nI q2)), (11, .ref (G.1 + P)), (10, .int (nI (y0 / 1 % 10 - 1))), (0, .ref (G.1 + 0)), (1, .int (nI a)), (2, .int (nI i)), (3, .int (nI y0)), (4, .int w)] dX8_followChain_144 (by decide) rfl ?_
            refine aw_goto 16 dX8_followChain_146 (by decide) ?_
            refine aw_lv [(9, .int 0), (8, .int (0 + ((chX (nI (lx a (y0 / 1 % 10 - 1) i q2))) + 0))), (7, .int 1), (6, .int (nI q2)), (5, .int (nI (y0 / 1 % 10 - 1))), (4, .int w), (3, .int (nI y0)), (0, .ref (G.1 + 0))] [0, 3, 5, 1, 2, 13, 12, 9] rfl ?_
            exact fcL (bv := bv) (J := J) (x := 0) (ev := (nI q2)) (fr := y0 / 1 % 10 - 1) (dv := 0 + ((chX (nI (lx a (y0 / 1 % 10 - 1) i q2))) + 0)) (sv := 1) (u1 := u15931) (v1 := v15932) (ro1 := ro15933) (co1 := co15934) (rc1 := rc15935) (lk1 := lk15936) (bs1 := bs15937) (wy1 := wy15938) (nw1 := nw15939) hl hm hse hfi hye qJ bve hlx hlx3 g1 by0 (by decide) (Or.inr ⟨_, bq2, bq2f, rfl⟩) (by omega) p5957 p5958 p5959 p5960 hJ2 hln (hsk1.trans (chV_s (t := y0 / 1 % 10 - 1) (by omega) (by omega) (by show ¬ y0 / 1 % 10 = 0; omega) rfl hP (cc_1 (p5962.2.2.2 i (by omega)) c118))) f5946 f5964 f5965 f5966 f5967 f5968 f5969 f5970 f5971 f5972 f5973 f5974 f5975 f5947 f5948 f5949 f5950 f5951 f5952 (grw_gg (grw_rf 0 0 13 60 h) k5956 (fun j q1 q2 => by omega)) hQF
    · have d41 := mt (j_lt (a := ((nI ((y0 / 10) % 10)) - 1).toInt) (b := (0)) (rfl) (rfl)).mpr c41
      have g0 : 1 ≤ y0 / 10 % 10 := by rw [dig_i (by omega)] at d41; omega
      rw [dig_e g0]
      obtain ⟨su, wa, pt, ce, pv, gg0, gg1, gg2, hpt, bpv, hfz⟩ := hJz (a * 4 + (y0 / 10 % 10 - 1)) (by omega)
      obtain ⟨P, eP⟩ : ∃ P, P = 13 + 3 * (a * 4 + (y0 / 10 % 10 - 1)) := ⟨_, rfl⟩
      rw [← eP] at gg0 gg1 gg2
      have hvv : ¬ pv = ve := by rw [show pv = 0 from hfz]; omega
      refine aw_aload_n 6 dX8_followChain_44 rfl rfl ?_
      refine aw_iload 5 dX8_followChain_45 rfl ?_
      refine aw_iload 0 dX8_followChain_47 rfl ?_
      refine aw_eV [.int (nI a), .int (nI (y0 / 10 % 10 - 1))] [] lX8_124 vX8_bestJoining mX8_bestJoining dX8_followChain_49 (bJ_n (bv := bv) (P := P) (pv := pv) (su := su) (wa := wa) (pt := pt) (ce := ce) (m := m) (se := se) (ye := ye) (fi := fi) (W := W) (Sn := Sn) (Z := Z) (Ro := Ro) (Co := Co) (Ba := Ba) (nb := nb) (sp := sp) (fa := fa) (ve := ve) (a := a) (b := y0 / 10 % 10 - 1) h0 h1 h2 h3 h4 h5 h6 h7 h8 h9 h10 h11 h12 gg0 gg1 gg2 (by omega) hm hse hfi hye (by omega) (by omega) (by omega) (by omega) (by omega) hpt eP (hlx a (by omega) (y0 / 10 % 10 - 1) (by omega)) (hlx3 a (y0 / 10 % 10 - 1)) (by omega) (by omega) hvv) h0 rfl rfl rfl (Nat.le_of_ble_eq_true rfl) (by decide) (by decide) rfl (fun h5990 q5989 => ?_)
      obtain ⟨u15976, v15977, ro15978, co15979, rc15980, lk15981, bs15982, wy15983, nw15984, su15985, wa15986, pt15987, ce15988, f5991, f5992, f5993, f5994, f5995, f5996, f5997, f5998, f5999, f6000, k6001, p6002, p6003, p6004, p6005, p6006, p6007, p6008⟩ := q5989
      have f6009 := grw_at k6001 (by omega) h1
      have f6010 := grw_at k6001 (by omega) h2
      have f6011 := grw_at k6001 (by omega) h3
      have f6012 := grw_at k6001 (by omega) h4
      have f6013 := grw_at k6001 (by omega) h5
      have f6014 := grw_at k6001 (by omega) h6
      have f6015 := grw_at k6001 (by omega) h7
      have f6016 := grw_at k6001 (by omega) h8
      have f6017 := grw_at k6001 (by omega) h9
      have f6018 := grw_at k6001 (by omega) h10
      have f6019 := grw_at k6001 (by omega) h11
      have f6020 := grw_at k6001 (by omega) h12
      have hJ2 : iJs G (jX lx fi ve) h5990 := iJs_up (iJs_w hJz (fun _ _ _ _ _ _ w9 => jX_z hve w9)) (k := a * 4 + (y0 / 10 % 10 - 1)) (by omega) eP (fun j q1 q2 q3 => k6001.2 j (by omega) (by omega)) f5998 f5999 f6000 p6006 bve (jX_at p6007 (by omega))
      have hln := p6008
      refine aw_astore [(11, .ref (G.1 + P)), (10, .int (nI (y0 / 10 % 10 - 1))), (9, .int 10), (8, .int 0), (7, .int 0), (6, .int (nI i)), (5, .int (nI a)), (0, .ref (G.1 + 0)), (1, .int (nI a)), (2, .int (nI i)), (3, .int (nI y0)), (4, .int w)] dX8_followChain_52 (by decide) rfl ?_
      refine aw_aload 0 dX8_followChain_54 rfl ?_
      refine aw_get fX8_131 dX8_followChain_56 f5998 rfl ?_
      refine aw_iload 5 dX8_followChain_59 rfl ?_
      refine aw_iald i (rfl) (by omega) (by decide) dX8_followChain_61 f5999 ?_
      refine aw_istore [(12, .int (pt15987 i)), (11, .ref (G.1 + P)), (10, .int (nI (y0 / 10 % 10 - 1))), (9, .int 10), (8, .int 0), (7, .int 0), (6, .int (nI i)), (5, .int (nI a)), (0, .ref (G.1 + 0)), (1, .int (nI a)), (2, .int (nI i)), (3, .int (nI y0)), (4, .int w)] dX8_followChain_62 (by decide) rfl ?_
      refine aw_iload 0 dX8_followChain_64 rfl ?_
      refine aw_bipush (-9) dX8_followChain_66 (by decide) ?_
      refine aw_icmp_eq 131 dX8_followChain_68 (by decide) (fun c68 => ?_) (fun c68 => ?_)
      · have d68 := (j_eq (a := (pt15987 i).toInt) (b := (-9)) (rfl) (rfl)).mp c68
        refine aw_iload 2 dX8_followChain_131 rfl ?_
        refine aw_istore [(5, .int (nI (y0 / 10 % 10 - 1))), (12, .int (pt15987 i)), (11, .ref (G.1 + P)), (10, .int (nI (y0 / 10 % 10 - 1))), (9, .int 10), (8, .int 0), (7, .int 0), (6, .int (nI i)), (0, .ref (G.1 + 0)), (1, .int (nI a)), (2, .int (nI i)), (3, .int (nI y0)), (4, .int w)] dX8_followChain_133 (by decide) rfl ?_
        refine aw_iload 1 dX8_followChain_135 rfl ?_
        refine aw_istore [(6, .int (pt15987 i)), (5, .int (nI (y0 / 10 % 10 - 1))), (12, .int (pt15987 i)), (11, .ref (G.1 + P)), (10, .int (nI (y0 / 10 % 10 - 1))), (9, .int 10), (8, .int 0), (7, .int 0), (0, .ref (G.1 + 0)), (1, .int (nI a)), (2, .int (nI i)), (3, .int (nI y0)), (4, .int w)] dX8_followChain_137 (by decide) rfl ?_
        refine aw_iload 5 dX8_followChain_139 rfl ?_
        refine aw_bipush (10) dX8_followChain_141 (by decide) ?_
        refine aw_idiv dX8_followChain_143 (by decide) ?_
        refine aw_toe 1 (by decide) ?_
        refine aw_istore [(9, .int 1), (6, .int (pt15987 i)), (5, .int (nI (y0 / 10 % 10 - 1))), (12, .int (pt15987 i)), (11, .ref (G.1 + P)), (10, .int (nI (y0 / 10 % 10 - 1))), (8, .int 0), (7, .int 0), (0, .ref (G.1 + 0)), (1, .int (nI a)), (2, .int (nI i)), (3, .int (nI y0)), (4, .int w)] dX8_followChain_144 (by decide) rfl ?_
        refine aw_goto 16 dX8_followChain_146 (by decide) ?_
        refine aw_lv [(9, .int 1), (8, .int 0), (7, .int 0), (6, .int (pt15987 i)), (5, .int (nI (y0 / 10 % 10 - 1))), (4, .int w), (3, .int (nI y0)), (0, .ref (G.1 + 0))] [0, 6, 7, 1, 2, 12, 11, 8] rfl ?_
        exact fcL (bv := bv) (J := J) (x := 1) (ev := pt15987 i) (fr := y0 / 10 % 10 - 1) (dv := 0) (sv := 0) (u1 := u15976) (v1 := v15977) (ro1 := ro15978) (co1 := co15979) (rc1 := rc15980) (lk1 := lk15981) (bs1 := bs15982) (wy1 := wy15983) (nw1 := nw15984) hl hm hse hfi hye qJ bve hlx hlx3 g1 by0 (by decide) (Or.inl c68) (by omega) p6002 p6003 p6004 p6005 hJ2 hln (by rw [c68]; exact hsk2.trans (chV_n (t := y0 / 10 % 10 - 1) (by omega) (by show ¬ y0 / 10 % 10 = 0; omega) rfl ((p6007.2.1 i (by omega)).symm.trans c68))) f5991 f6009 f6010 f6011 f6012 f6013 f6014 f6015 f6016 f6017 f6018 f6019 f6020 f5992 f5993 f5994 f5995 f5996 f5997 (grw_gg (grw_rf 0 0 13 60 h) k6001 (fun j q1 q2 => by omega)) hQF
      · have d68 := mt (j_eq (a := (pt15987 i).toInt) (b := (-9)) (rfl) (rfl)).mpr c68
        obtain ⟨q2, bq2, eq2⟩ := (p6006 i (by omega)).resolve_left c68
        have fb9 := hfi (y0 / 10 % 10 - 1) (by omega)
        have hP := (p6007.2.1 i (by omega)).symm.trans eq2
        have bq2f := jP_lt (by omega) (by omega) hP
        rw [eq2]
        refine aw_iinc (j := 5) (1) [(7, .int 1), (12, .int (nI q2)), (11, .ref (G.1 + P)), (10, .int (nI (y0 / 10 % 10 - 1))), (9, .int 10), (8, .int 0), (6, .int (nI i)), (5, .int (nI a)), (0, .ref (G.1 + 0)), (1, .int (nI a)), (2, .int (nI i)), (3, .int (nI y0)), (4, .int w)] dX8_followChain_71 rfl (by decide) (by decide) rfl ?_
        refine aw_aload_n 8 dX8_followChain_74 rfl rfl ?_
        refine aw_get fX8_20 dX8_followChain_75 f5991 rfl ?_
        refine aw_iload 7 dX8_followChain_78 rfl ?_
        refine aw_bipush (10) dX8_followChain_80 (by decide) ?_
        refine aw_imul dX8_followChain_82 ?_
        refine aw_toe (nI (a * 10)) (nv_mul (rfl) (rfl)) ?_
        refine aw_iload 6 dX8_followChain_83 rfl ?_
        refine aw_iadd dX8_followChain_85 ?_
        refine aw_toe (nI ((a * 10) + i)) (nv_add (rfl) (rfl)) ?_
        refine aw_iload 3 dX8_followChain_86 rfl ?_
        refine aw_bipush (10) dX8_followChain_88 (by decide) ?_
        refine aw_imul dX8_followChain_90 ?_
        refine aw_toe (nI ((y0 / 10 % 10 - 1) * 10)) (nv_mul (rfl) (rfl)) ?_
        refine aw_iload 1 dX8_followChain_91 rfl ?_
        refine aw_iadd dX8_followChain_93 ?_
        refine aw_toe (nI (((y0 / 10 % 10 - 1) * 10) + q2)) (nv_add (rfl) (rfl)) ?_
        refine aw_dV [.int (nI ((a * 10) + i)), .int (nI (((y0 / 10 % 10 - 1) * 10) + q2))] [] lX8_121 vX1_likeness mX1_likeness dX8_followChain_94 (aX1_likeness (m := m) (se := se) (ye := ye) (fi := fi) (W := W) (Sn := Sn) (Z := Z) (Ro := Ro) (Co := Co) (Ba := Ba) (nb := nb) (sp := sp) (fa := fa) (ve := ve) (e := (a * 10) + i) (f := ((y0 / 10 % 10 - 1) * 10) + q2) f6009 f6010 f6011 f6012 f6013 f6014 f6015 f6016 f6017 f6018 f6019 hm hse hfi hye (by omega) (by omega)) f6009 rfl rfl rfl (Nat.le_of_ble_eq_true rfl) (by decide) (by decide) rfl ?_
        refine aw_toe (nI (lx a (y0 / 10 % 10 - 1) i q2)) (hlx a (by omega) (y0 / 10 % 10 - 1) (by omega) i (by omega) q2 (by omega)) ?_
        refine aw_istore [(13, .int (nI (lx a (y0 / 10 % 10 - 1) i q2))), (7, .int 1), (12, .int (nI q2)), (11, .ref (G.1 + P)), (10, .int (nI (y0 / 10 % 10 - 1))), (9, .int 10), (8, .int 0), (6, .int (nI i)), (5, .int (nI a)), (0, .ref (G.1 + 0)), (1, .int (nI a)), (2, .int (nI i)), (3, .int (nI y0)), (4, .int w)] dX8_followChain_97 (by decide) rfl ?_
        refine aw_iload 6 dX8_followChain_99 rfl ?_
        refine aw_iconst (0) dX8_followChain_101 (by decide) ?_
        refine aw_bipush (100) dX8_followChain_102 (by decide) ?_
        refine aw_iload 0 dX8_followChain_104 rfl ?_
        refine aw_isub dX8_followChain_106 ?_
        refine aw_mmax lX8_251 dX8_followChain_107 (Nat.le_of_ble_eq_true rfl) (by decide) (by decide) ?_
        refine aw_toe (chX (nI (lx a (y0 / 10 % 10 - 1) i q2))) (rfl) ?_
        refine aw_aload 3 dX8_followChain_110 rfl ?_
        refine aw_get fX8_137 dX8_followChain_112 f5998 rfl ?_
        refine aw_iload 7 dX8_followChain_115 rfl ?_
        refine aw_zald i (rfl) (by omega) (by decide) dX8_followChain_117 f6000 ?_
        refine aw_if_eq 125 dX8_followChain_118 (by decide) (fun c118 => ?_) (fun c118 => ?_)
        · have d118 := (j_eq (a := (ce15988 i).toInt) (b := (0)) (rfl) (rfl)).mp c118
          refine aw_bipush (50) dX8_followChain_125 (by decide) ?_
          refine aw_iadd dX8_followChain_127 ?_
          refine aw_iadd dX8_followChain_128 ?_
          refine aw_istore [(8, .int (0 + ((chX (nI (lx a (y0 / 10 % 10 - 1) i q2))) + 50))), (13, .int (nI (lx a (y0 / 10 % 10 - 1) i q2))), (7, .int 1), (12, .int (nI q2)), (11, .ref (G.1 + P)), (10, .int (nI (y0 / 10 % 10 - 1))), (9, .int 10), (6, .int (nI i)), (5, .int (nI a)), (0, .ref (G.1 + 0)), (1, .int (nI a)), (2, .int (nI i)), (3, .int (nI y0)), (4, .int w)] dX8_followChain_129 (by decide) rfl ?_
          refine aw_iload 5 dX8_followChain_131 rfl ?_
          refine aw_istore [(5, .int (nI (y0 / 10 % 10 - 1))), (8, .int (0 + ((chX (nI (lx a (y0 / 10 % 10 - 1) i q2))) + 50))), (13, .int (nI (lx a (y0 / 10 % 10 - 1) i q2))), (7, .int 1), (12, .int (nI q2)), (11, .ref (G.1 + P)), (10, .int (nI (y0 / 10 % 10 - 1))), (9, .int 10), (6, .int (nI i)), (0, .ref (G.1 + 0)), (1, .int (nI a)), (2, .int (nI i)), (3, .int (nI y0)), (4, .int w)] dX8_followChain_133 (by decide) rfl ?_
          refine aw_iload 4 dX8_followChain_135 rfl ?_
          refine aw_istore [(6, .int (nI q2)), (5, .int (nI (y0 / 10 % 10 - 1))), (8, .int (0 + ((chX (nI (lx a (y0 / 10 % 10 - 1) i q2))) + 50))), (13, .int (nI (lx a (y0 / 10 % 10 - 1) i q2))), (7, .int 1), (12, .int (nI q2)), (11, .ref (G.1 + P)), (10, .int (nI (y0 / 10 % 10 - 1))), (9, .int 10), (0, .ref (G.1 + 0)), (1, .int (nI a)), (2, .int (nI i)), (3, .int (nI y0)), (4, .int w)] dX8_followChain_137 (by decide) rfl ?_
          refine aw_iload 8 dX8_followChain_139 rfl ?_
          refine aw_bipush (10) dX8_followChain_141 (by decide) ?_
          refine aw_idiv dX8_followChain_143 (by decide) ?_
          refine aw_toe 1 (by decide) ?_
          refine aw_istore [(9, .int 1), (6, .int (nI q2)), (5, .int (nI (y0 / 10 % 10 - 1))), (8, .int (0 + ((chX (nI (lx a (y0 / 10 % 10 - 1) i q2))) + 50))), (13, .int (nI (lx a (y0 / 10 % 10 - 1) i q2))), (7, .int 1), (12, .int (nI q2)), (11, .ref (G.1 + P)), (10, .int (nI (y0 / 10 % 10 - 1))), (0, .ref (G.1 + 0)), (1, .int (nI a)), (2, .int (nI i)), (3, .int (nI y0)), (4, .int w)] dX8_followChain_144 (by decide) rfl ?_
          refine aw_goto 16 dX8_followChain_146 (by decide) ?_
          refine aw_lv [(9, .int 1), (8, .int (0 + ((chX (nI (lx a (y0 / 10 % 10 - 1) i q2))) + 50))), (7, .int 1), (6, .int (nI q2)), (5, .int (nI (y0 / 10 % 10 - 1))), (4, .int w), (3, .int (nI y0)), (0, .ref (G.1 + 0))] [0, 3, 5, 1, 2, 13, 12, 9] rfl ?_
          exact fcL (bv := bv) (J := J) (x := 1) (ev := (nI q2)) (fr := y0 / 10 % 10 - 1) (dv := 0 + ((chX (nI (lx a (y0 / 10 % 10 - 1) i q2))) + 50)) (sv := 1) (u1 := u15976) (v1 := v15977) (ro1 := ro15978) (co1 := co15979) (rc1 := rc15980) (lk1 := lk15981) (bs1 := bs15982) (wy1 := wy15983) (nw1 := nw15984) hl hm hse hfi hye qJ bve hlx hlx3 g1 by0 (by decide) (Or.inr ⟨_, bq2, bq2f, rfl⟩) (by omega) p6002 p6003 p6004 p6005 hJ2 hln (hsk2.trans (chV_s (t := y0 / 10 % 10 - 1) (by omega) (by omega) (by show ¬ y0 / 10 % 10 = 0; omega) rfl hP (cc_0 (p6007.2.2.2 i (by omega)) c118))) f5991 f6009 f6010 f6011 f6012 f6013 f6014 f6015 f6016 f6017 f6018 f6019 f6020 f5992 f5993 f5994 f5995 f5996 f5997 (grw_gg (grw_rf 0 0 13 60 h) k6001 (fun j q1 q2 => by omega)) hQF
        · have d118 := mt (j_eq (a := (ce15988 i).toInt) (b := (0)) (rfl) (rfl)).mpr c118
          refine aw_iconst (0) dX8_followChain_121 (by decide) ?_
          refine aw_goto 127 dX8_followChain_122 (by decide) ?_
          refine aw_iadd dX8_followChain_127 ?_
          refine aw_iadd dX8_followChain_128 ?_
          refine aw_istore [(8, .int (0 + ((chX (nI (lx a (y0 / 10 % 10 - 1) i q2))) + 0))), (13, .int (nI (lx a (y0 / 10 % 10 - 1) i q2))), (7, .int 1), (12, .int (nI q2)), (11, .ref (G.1 + P)), (10, .int (nI (y0 / 10 % 10 - 1))), (9, .int 10), (6, .int (nI i)), (5, .int (nI a)), (0, .ref (G.1 + 0)), (1, .int (nI a)), (2, .int (nI i)), (3, .int (nI y0)), (4, .int w)] dX8_followChain_129 (by decide) rfl ?_
          refine aw_iload 5 dX8_followChain_131 rfl ?_
          refine aw_istore [(5, .int (nI (y0 / 10 % 10 - 1))), (8, .int (0 + ((chX (nI (lx a (y0 / 10 % 10 - 1) i q2))) + 0))), (13, .int (nI (lx a (y0 / 10 % 10 - 1) i q2))), (7, .int 1), (12, .int (nI q2)), (11, .ref (G.1 + P)), (10, .int (nI (y0 / 10 % 10 - 1))), (9, .int 10), (6, .int (nI i)), (0, .ref (G.1 + 0)), (1, .int (nI a)), (2, .int (nI i)), (3, .int (nI y0)), (4, .int w)] dX8_followChain_133 (by decide) rfl ?_
          refine aw_iload 4 dX8_followChain_135 rfl ?_
          refine aw_istore [(6, .int (nI q2)), (5, .int (nI (y0 / 10 % 10 - 1))), (8, .int (0 + ((chX (nI (lx a (y0 / 10 % 10 - 1) i q2))) + 0))), (13, .int (nI (lx a (y0 / 10 % 10 - 1) i q2))), (7, .int 1), (12, .int (nI q2)), (11, .ref (G.1 + P)), (10, .int (nI (y0 / 10 % 10 - 1))), (9, .int 10), (0, .ref (G.1 + 0)), (1, .int (nI a)), (2, .int (nI i)), (3, .int (nI y0)), (4, .int w)] dX8_followChain_137 (by decide) rfl ?_
          refine aw_iload 8 dX8_followChain_139 rfl ?_
          refine aw_bipush (10) dX8_followChain_141 (by decide) ?_
          refine aw_idiv dX8_followChain_143 (by decide) ?_
          refine aw_toe 1 (by decide) ?_
          refine aw_istore [(9, .int 1), (6, .int (nI q2)), (5, .int (nI (y0 / 10 % 10 - 1))), (8, .int (0 + ((chX (nI (lx a (y0 / 10 % 10 - 1) i q2))) + 0))), (13, .int (nI (lx a (y0 / 10 % 10 - 1) i q2))), (7, .int 1), (12, .int (nI q2)), (11, .ref (G.1 + P)), (10, .int (nI (y0 / 10 % 10 - 1))), (0, .ref (G.1 + 0)), (1, .int (nI a)), (2, .int (nI i)), (3, .int (nI y0)), (4, .int w)] dX8_followChain_144 (by decide) rfl ?_
          refine aw_goto 16 dX8_followChain_146 (by decide) ?_
          refine aw_lv [(9, .int 1), (8, .int (0 + ((chX (nI (lx a (y0 / 10 % 10 - 1) i q2))) + 0))), (7, .int 1), (6, .int (nI q2)), (5, .int (nI (y0 / 10 % 10 - 1))), (4, .int w), (3, .int (nI y0)), (0, .ref (G.1 + 0))] [0, 3, 5, 1, 2, 13, 12, 9] rfl ?_
          exact fcL (bv := bv) (J := J) (x := 1) (ev := (nI q2)) (fr := y0 / 10 % 10 - 1) (dv := 0 + ((chX (nI (lx a (y0 / 10 % 10 - 1) i q2))) + 0)) (sv := 1) (u1 := u15976) (v1 := v15977) (ro1 := ro15978) (co1 := co15979) (rc1 := rc15980) (lk1 := lk15981) (bs1 := bs15982) (wy1 := wy15983) (nw1 := nw15984) hl hm hse hfi hye qJ bve hlx hlx3 g1 by0 (by decide) (Or.inr ⟨_, bq2, bq2f, rfl⟩) (by omega) p6002 p6003 p6004 p6005 hJ2 hln (hsk2.trans (chV_s (t := y0 / 10 % 10 - 1) (by omega) (by omega) (by show ¬ y0 / 10 % 10 = 0; omega) rfl hP (cc_1 (p6007.2.2.2 i (by omega)) c118))) f5991 f6009 f6010 f6011 f6012 f6013 f6014 f6015 f6016 f6017 f6018 f6019 f6020 f5992 f5993 f5994 f5995 f5996 f5997 (grw_gg (grw_rf 0 0 13 60 h) k6001 (fun j q1 q2 => by omega)) hQF
  · have d41 := mt (j_lt (a := ((nI ((y0 / 100) % 10)) - 1).toInt) (b := (0)) (rfl) (rfl)).mpr c41
    have g0 : 1 ≤ y0 / 100 % 10 := by rw [dig_i (by omega)] at d41; omega
    rw [dig_e g0]
    obtain ⟨su, wa, pt, ce, pv, gg0, gg1, gg2, hpt, bpv, hfz⟩ := hJz (a * 4 + (y0 / 100 % 10 - 1)) (by omega)
    obtain ⟨P, eP⟩ : ∃ P, P = 13 + 3 * (a * 4 + (y0 / 100 % 10 - 1)) := ⟨_, rfl⟩
    rw [← eP] at gg0 gg1 gg2
    have hvv : ¬ pv = ve := by rw [show pv = 0 from hfz]; omega
    refine aw_aload_n 6 dX8_followChain_44 rfl rfl ?_
    refine aw_iload 5 dX8_followChain_45 rfl ?_
    refine aw_iload 0 dX8_followChain_47 rfl ?_
    refine aw_eV [.int (nI a), .int (nI (y0 / 100 % 10 - 1))] [] lX8_124 vX8_bestJoining mX8_bestJoining dX8_followChain_49 (bJ_n (bv := bv) (P := P) (pv := pv) (su := su) (wa := wa) (pt := pt) (ce := ce) (m := m) (se := se) (ye := ye) (fi := fi) (W := W) (Sn := Sn) (Z := Z) (Ro := Ro) (Co := Co) (Ba := Ba) (nb := nb) (sp := sp) (fa := fa) (ve := ve) (a := a) (b := y0 / 100 % 10 - 1) h0 h1 h2 h3 h4 h5 h6 h7 h8 h9 h10 h11 h12 gg0 gg1 gg2 (by omega) hm hse hfi hye (by omega) (by omega) (by omega) (by omega) (by omega) hpt eP (hlx a (by omega) (y0 / 100 % 10 - 1) (by omega)) (hlx3 a (y0 / 100 % 10 - 1)) (by omega) (by omega) hvv) h0 rfl rfl rfl (Nat.le_of_ble_eq_true rfl) (by decide) (by decide) rfl (fun h6035 q6034 => ?_)
    obtain ⟨u16021, v16022, ro16023, co16024, rc16025, lk16026, bs16027, wy16028, nw16029, su16030, wa16031, pt16032, ce16033, f6036, f6037, f6038, f6039, f6040, f6041, f6042, f6043, f6044, f6045, k6046, p6047, p6048, p6049, p6050, p6051, p6052, p6053⟩ := q6034
    have f6054 := grw_at k6046 (by omega) h1
    have f6055 := grw_at k6046 (by omega) h2
    have f6056 := grw_at k6046 (by omega) h3
    have f6057 := grw_at k6046 (by omega) h4
    have f6058 := grw_at k6046 (by omega) h5
    have f6059 := grw_at k6046 (by omega) h6
    have f6060 := grw_at k6046 (by omega) h7
    have f6061 := grw_at k6046 (by omega) h8
    have f6062 := grw_at k6046 (by omega) h9
    have f6063 := grw_at k6046 (by omega) h10
    have f6064 := grw_at k6046 (by omega) h11
    have f6065 := grw_at k6046 (by omega) h12
    have hJ2 : iJs G (jX lx fi ve) h6035 := iJs_up (iJs_w hJz (fun _ _ _ _ _ _ w9 => jX_z hve w9)) (k := a * 4 + (y0 / 100 % 10 - 1)) (by omega) eP (fun j q1 q2 q3 => k6046.2 j (by omega) (by omega)) f6043 f6044 f6045 p6051 bve (jX_at p6052 (by omega))
    have hln := p6053
    refine aw_astore [(11, .ref (G.1 + P)), (10, .int (nI (y0 / 100 % 10 - 1))), (9, .int 100), (8, .int 0), (7, .int 0), (6, .int (nI i)), (5, .int (nI a)), (0, .ref (G.1 + 0)), (1, .int (nI a)), (2, .int (nI i)), (3, .int (nI y0)), (4, .int w)] dX8_followChain_52 (by decide) rfl ?_
    refine aw_aload 0 dX8_followChain_54 rfl ?_
    refine aw_get fX8_131 dX8_followChain_56 f6043 rfl ?_
    refine aw_iload 5 dX8_followChain_59 rfl ?_
    refine aw_iald i (rfl) (by omega) (by decide) dX8_followChain_61 f6044 ?_
    refine aw_istore [(12, .int (pt16032 i)), (11, .ref (G.1 + P)), (10, .int (nI (y0 / 100 % 10 - 1))), (9, .int 100), (8, .int 0), (7, .int 0), (6, .int (nI i)), (5, .int (nI a)), (0, .ref (G.1 + 0)), (1, .int (nI a)), (2, .int (nI i)), (3, .int (nI y0)), (4, .int w)] dX8_followChain_62 (by decide) rfl ?_
    refine aw_iload 0 dX8_followChain_64 rfl ?_
    refine aw_bipush (-9) dX8_followChain_66 (by decide) ?_
    refine aw_icmp_eq 131 dX8_followChain_68 (by decide) (fun c68 => ?_) (fun c68 => ?_)
    · have d68 := (j_eq (a := (pt16032 i).toInt) (b := (-9)) (rfl) (rfl)).mp c68
      refine aw_iload 2 dX8_followChain_131 rfl ?_
      refine aw_istore [(5, .int (nI (y0 / 100 % 10 - 1))), (12, .int (pt16032 i)), (11, .ref (G.1 + P)), (10, .int (nI (y0 / 100 % 10 - 1))), (9, .int 100), (8, .int 0), (7, .int 0), (6, .int (nI i)), (0, .ref (G.1 + 0)), (1, .int (nI a)), (2, .int (nI i)), (3, .int (nI y0)), (4, .int w)] dX8_followChain_133 (by decide) rfl ?_
      refine aw_iload 1 dX8_followChain_135 rfl ?_
      refine aw_istore [(6, .int (pt16032 i)), (5, .int (nI (y0 / 100 % 10 - 1))), (12, .int (pt16032 i)), (11, .ref (G.1 + P)), (10, .int (nI (y0 / 100 % 10 - 1))), (9, .int 100), (8, .int 0), (7, .int 0), (0, .ref (G.1 + 0)), (1, .int (nI a)), (2, .int (nI i)), (3, .int (nI y0)), (4, .int w)] dX8_followChain_137 (by decide) rfl ?_
      refine aw_iload 5 dX8_followChain_139 rfl ?_
      refine aw_bipush (10) dX8_followChain_141 (by decide) ?_
      refine aw_idiv dX8_followChain_143 (by decide) ?_
      refine aw_toe 10 (by decide) ?_
      refine aw_istore [(9, .int 10), (6, .int (pt16032 i)), (5, .int (nI (y0 / 100 % 10 - 1))), (12, .int (pt16032 i)), (11, .ref (G.1 + P)), (10, .int (nI (y0 / 100 % 10 - 1))), (8, .int 0), (7, .int 0), (0, .ref (G.1 + 0)), (1, .int (nI a)), (2, .int (nI i)), (3, .int (nI y0)), (4, .int w)] dX8_followChain_144 (by decide) rfl ?_
      refine aw_goto 16 dX8_followChain_146 (by decide) ?_
      refine aw_lv [(9, .int 10), (8, .int 0), (7, .int 0), (6, .int (pt16032 i)), (5, .int (nI (y0 / 100 % 10 - 1))), (4, .int w), (3, .int (nI y0)), (0, .ref (G.1 + 0))] [0, 6, 7, 1, 2, 12, 11, 8] rfl ?_
      exact fcL (bv := bv) (J := J) (x := 2) (ev := pt16032 i) (fr := y0 / 100 % 10 - 1) (dv := 0) (sv := 0) (u1 := u16021) (v1 := v16022) (ro1 := ro16023) (co1 := co16024) (rc1 := rc16025) (lk1 := lk16026) (bs1 := bs16027) (wy1 := wy16028) (nw1 := nw16029) hl hm hse hfi hye qJ bve hlx hlx3 g1 by0 (by decide) (Or.inl c68) (by omega) p6047 p6048 p6049 p6050 hJ2 hln (by rw [c68]; exact chV_n (t := y0 / 100 % 10 - 1) (by omega) (by show ¬ y0 / 100 % 10 = 0; omega) rfl ((p6052.2.1 i (by omega)).symm.trans c68)) f6036 f6054 f6055 f6056 f6057 f6058 f6059 f6060 f6061 f6062 f6063 f6064 f6065 f6037 f6038 f6039 f6040 f6041 f6042 (grw_gg (grw_rf 0 0 13 60 h) k6046 (fun j q1 q2 => by omega)) hQF
    · have d68 := mt (j_eq (a := (pt16032 i).toInt) (b := (-9)) (rfl) (rfl)).mpr c68
      obtain ⟨q2, bq2, eq2⟩ := (p6051 i (by omega)).resolve_left c68
      have fb9 := hfi (y0 / 100 % 10 - 1) (by omega)
      have hP := (p6052.2.1 i (by omega)).symm.trans eq2
      have bq2f := jP_lt (by omega) (by omega) hP
      rw [eq2]
      refine aw_iinc (j := 5) (1) [(7, .int 1), (12, .int (nI q2)), (11, .ref (G.1 + P)), (10, .int (nI (y0 / 100 % 10 - 1))), (9, .int 100), (8, .int 0), (6, .int (nI i)), (5, .int (nI a)), (0, .ref (G.1 + 0)), (1, .int (nI a)), (2, .int (nI i)), (3, .int (nI y0)), (4, .int w)] dX8_followChain_71 rfl (by decide) (by decide) rfl ?_
      refine aw_aload_n 8 dX8_followChain_74 rfl rfl ?_
      refine aw_get fX8_20 dX8_followChain_75 f6036 rfl ?_
      refine aw_iload 7 dX8_followChain_78 rfl ?_
      refine aw_bipush (10) dX8_followChain_80 (by decide) ?_
      refine aw_imul dX8_followChain_82 ?_
      refine aw_toe (nI (a * 10)) (nv_mul (rfl) (rfl)) ?_
      refine aw_iload 6 dX8_followChain_83 rfl ?_
      refine aw_iadd dX8_followChain_85 ?_
      refine aw_toe (nI ((a * 10) + i)) (nv_add (rfl) (rfl)) ?_
      refine aw_iload 3 dX8_followChain_86 rfl ?_
      refine aw_bipush (10) dX8_followChain_88 (by decide) ?_
      refine aw_imul dX8_followChain_90 ?_
      refine aw_toe (nI ((y0 / 100 % 10 - 1) * 10)) (nv_mul (rfl) (rfl)) ?_
      refine aw_iload 1 dX8_followChain_91 rfl ?_
      refine aw_iadd dX8_followChain_93 ?_
      refine aw_toe (nI (((y0 / 100 % 10 - 1) * 10) + q2)) (nv_add (rfl) (rfl)) ?_
      refine aw_dV [.int (nI ((a * 10) + i)), .int (nI (((y0 / 100 % 10 - 1) * 10) + q2))] [] lX8_121 vX1_likeness mX1_likeness dX8_followChain_94 (aX1_likeness (m := m) (se := se) (ye := ye) (fi := fi) (W := W) (Sn := Sn) (Z := Z) (Ro := Ro) (Co := Co) (Ba := Ba) (nb := nb) (sp := sp) (fa := fa) (ve := ve) (e := (a * 10) + i) (f := ((y0 / 100 % 10 - 1) * 10) + q2) f6054 f6055 f6056 f6057 f6058 f6059 f6060 f6061 f6062 f6063 f6064 hm hse hfi hye (by omega) (by omega)) f6054 rfl rfl rfl (Nat.le_of_ble_eq_true rfl) (by decide) (by decide) rfl ?_
      refine aw_toe (nI (lx a (y0 / 100 % 10 - 1) i q2)) (hlx a (by omega) (y0 / 100 % 10 - 1) (by omega) i (by omega) q2 (by omega)) ?_
      refine aw_istore [(13, .int (nI (lx a (y0 / 100 % 10 - 1) i q2))), (7, .int 1), (12, .int (nI q2)), (11, .ref (G.1 + P)), (10, .int (nI (y0 / 100 % 10 - 1))), (9, .int 100), (8, .int 0), (6, .int (nI i)), (5, .int (nI a)), (0, .ref (G.1 + 0)), (1, .int (nI a)), (2, .int (nI i)), (3, .int (nI y0)), (4, .int w)] dX8_followChain_97 (by decide) rfl ?_
      refine aw_iload 6 dX8_followChain_99 rfl ?_
      refine aw_iconst (0) dX8_followChain_101 (by decide) ?_
      refine aw_bipush (100) dX8_followChain_102 (by decide) ?_
      refine aw_iload 0 dX8_followChain_104 rfl ?_
      refine aw_isub dX8_followChain_106 ?_
      refine aw_mmax lX8_251 dX8_followChain_107 (Nat.le_of_ble_eq_true rfl) (by decide) (by decide) ?_
      refine aw_toe (chX (nI (lx a (y0 / 100 % 10 - 1) i q2))) (rfl) ?_
      refine aw_aload 3 dX8_followChain_110 rfl ?_
      refine aw_get fX8_137 dX8_followChain_112 f6043 rfl ?_
      refine aw_iload 7 dX8_followChain_115 rfl ?_
      refine aw_zald i (rfl) (by omega) (by decide) dX8_followChain_117 f6045 ?_
      refine aw_if_eq 125 dX8_followChain_118 (by decide) (fun c118 => ?_) (fun c118 => ?_)
      · have d118 := (j_eq (a := (ce16033 i).toInt) (b := (0)) (rfl) (rfl)).mp c118
        refine aw_bipush (50) dX8_followChain_125 (by decide) ?_
        refine aw_iadd dX8_followChain_127 ?_
        refine aw_iadd dX8_followChain_128 ?_
        refine aw_istore [(8, .int (0 + ((chX (nI (lx a (y0 / 100 % 10 - 1) i q2))) + 50))), (13, .int (nI (lx a (y0 / 100 % 10 - 1) i q2))), (7, .int 1), (12, .int (nI q2)), (11, .ref (G.1 + P)), (10, .int (nI (y0 / 100 % 10 - 1))), (9, .int 100), (6, .int (nI i)), (5, .int (nI a)), (0, .ref (G.1 + 0)), (1, .int (nI a)), (2, .int (nI i)), (3, .int (nI y0)), (4, .int w)] dX8_followChain_129 (by decide) rfl ?_
        refine aw_iload 5 dX8_followChain_131 rfl ?_
        refine aw_istore [(5, .int (nI (y0 / 100 % 10 - 1))), (8, .int (0 + ((chX (nI (lx a (y0 / 100 % 10 - 1) i q2))) + 50))), (13, .int (nI (lx a (y0 / 100 % 10 - 1) i q2))), (7, .int 1), (12, .int (nI q2)), (11, .ref (G.1 + P)), (10, .int (nI (y0 / 100 % 10 - 1))), (9, .int 100), (6, .int (nI i)), (0, .ref (G.1 + 0)), (1, .int (nI a)), (2, .int (nI i)), (3, .int (nI y0)), (4, .int w)] dX8_followChain_133 (by decide) rfl ?_
        refine aw_iload 4 dX8_followChain_135 rfl ?_
        refine aw_istore [(6, .int (nI q2)), (5, .int (nI (y0 / 100 % 10 - 1))), (8, .int (0 + ((chX (nI (lx a (y0 / 100 % 10 - 1) i q2))) + 50))), (13, .int (nI (lx a (y0 / 100 % 10 - 1) i q2))), (7, .int 1), (12, .int (nI q2)), (11, .ref (G.1 + P)), (10, .int (nI (y0 / 100 % 10 - 1))), (9, .int 100), (0, .ref (G.1 + 0)), (1, .int (nI a)), (2, .int (nI i)), (3, .int (nI y0)), (4, .int w)] dX8_followChain_137 (by decide) rfl ?_
        refine aw_iload 8 dX8_followChain_139 rfl ?_
        refine aw_bipush (10) dX8_followChain_141 (by decide) ?_
        refine aw_idiv dX8_followChain_143 (by decide) ?_
        refine aw_toe 10 (by decide) ?_
        refine aw_istore [(9, .int 10), (6, .int (nI q2)), (5, .int (nI (y0 / 100 % 10 - 1))), (8, .int (0 + ((chX (nI (lx a (y0 / 100 % 10 - 1) i q2))) + 50))), (13, .int (nI (lx a (y0 / 100 % 10 - 1) i q2))), (7, .int 1), (12, .int (nI q2)), (11, .ref (G.1 + P)), (10, .int (nI (y0 / 100 % 10 - 1))), (0, .ref (G.1 + 0)), (1, .int (nI a)), (2, .int (nI i)), (3, .int (nI y0)), (4, .int w)] dX8_followChain_144 (by decide) rfl ?_
        refine aw_goto 16 dX8_followChain_146 (by decide) ?_
        refine aw_lv [(9, .int 10), (8, .int (0 + ((chX (nI (lx a (y0 / 100 % 10 - 1) i q2))) + 50))), (7, .int 1), (6, .int (nI q2)), (5, .int (nI (y0 / 100 % 10 - 1))), (4, .int w), (3, .int (nI y0)), (0, .ref (G.1 + 0))] [0, 3, 5, 1, 2, 13, 12, 9] rfl ?_
        exact fcL (bv := bv) (J := J) (x := 2) (ev := (nI q2)) (fr := y0 / 100 % 10 - 1) (dv := 0 + ((chX (nI (lx a (y0 / 100 % 10 - 1) i q2))) + 50)) (sv := 1) (u1 := u16021) (v1 := v16022) (ro1 := ro16023) (co1 := co16024) (rc1 := rc16025) (lk1 := lk16026) (bs1 := bs16027) (wy1 := wy16028) (nw1 := nw16029) hl hm hse hfi hye qJ bve hlx hlx3 g1 by0 (by decide) (Or.inr ⟨_, bq2, bq2f, rfl⟩) (by omega) p6047 p6048 p6049 p6050 hJ2 hln (chV_s (t := y0 / 100 % 10 - 1) (by omega) (by omega) (by show ¬ y0 / 100 % 10 = 0; omega) rfl hP (cc_0 (p6052.2.2.2 i (by omega)) c118)) f6036 f6054 f6055 f6056 f6057 f6058 f6059 f6060 f6061 f6062 f6063 f6064 f6065 f6037 f6038 f6039 f6040 f6041 f6042 (grw_gg (grw_rf 0 0 13 60 h) k6046 (fun j q1 q2 => by omega)) hQF
      · have d118 := mt (j_eq (a := (ce16033 i).toInt) (b := (0)) (rfl) (rfl)).mpr c118
        refine aw_iconst (0) dX8_followChain_121 (by decide) ?_
        refine aw_goto 127 dX8_followChain_122 (by decide) ?_
        refine aw_iadd dX8_followChain_127 ?_
        refine aw_iadd dX8_followChain_128 ?_
        refine aw_istore [(8, .int (0 + ((chX (nI (lx a (y0 / 100 % 10 - 1) i q2))) + 0))), (13, .int (nI (lx a (y0 / 100 % 10 - 1) i q2))), (7, .int 1), (12, .int (nI q2)), (11, .ref (G.1 + P)), (10, .int (nI (y0 / 100 % 10 - 1))), (9, .int 100), (6, .int (nI i)), (5, .int (nI a)), (0, .ref (G.1 + 0)), (1, .int (nI a)), (2, .int (nI i)), (3, .int (nI y0)), (4, .int w)] dX8_followChain_129 (by decide) rfl ?_
        refine aw_iload 5 dX8_followChain_131 rfl ?_
        refine aw_istore [(5, .int (nI (y0 / 100 % 10 - 1))), (8, .int (0 + ((chX (nI (lx a (y0 / 100 % 10 - 1) i q2))) + 0))), (13, .int (nI (lx a (y0 / 100 % 10 - 1) i q2))), (7, .int 1), (12, .int (nI q2)), (11, .ref (G.1 + P)), (10, .int (nI (y0 / 100 % 10 - 1))), (9, .int 100), (6, .int (nI i)), (0, .ref (G.1 + 0)), (1, .int (nI a)), (2, .int (nI i)), (3, .int (nI y0)), (4, .int w)] dX8_followChain_133 (by decide) rfl ?_
        refine aw_iload 4 dX8_followChain_135 rfl ?_
        refine aw_istore [(6, .int (nI q2)), (5, .int (nI (y0 / 100 % 10 - 1))), (8, .int (0 + ((chX (nI (lx a (y0 / 100 % 10 - 1) i q2))) + 0))), (13, .int (nI (lx a (y0 / 100 % 10 - 1) i q2))), (7, .int 1), (12, .int (nI q2)), (11, .ref (G.1 + P)), (10, .int (nI (y0 / 100 % 10 - 1))), (9, .int 100), (0, .ref (G.1 + 0)), (1, .int (nI a)), (2, .int (nI i)), (3, .int (nI y0)), (4, .int w)] dX8_followChain_137 (by decide) rfl ?_
        refine aw_iload 8 dX8_followChain_139 rfl ?_
        refine aw_bipush (10) dX8_followChain_141 (by decide) ?_
        refine aw_idiv dX8_followChain_143 (by decide) ?_
        refine aw_toe 10 (by decide) ?_
        refine aw_istore [(9, .int 10), (6, .int (nI q2)), (5, .int (nI (y0 / 100 % 10 - 1))), (8, .int (0 + ((chX (nI (lx a (y0 / 100 % 10 - 1) i q2))) + 0))), (13, .int (nI (lx a (y0 / 100 % 10 - 1) i q2))), (7, .int 1), (12, .int (nI q2)), (11, .ref (G.1 + P)), (10, .int (nI (y0 / 100 % 10 - 1))), (0, .ref (G.1 + 0)), (1, .int (nI a)), (2, .int (nI i)), (3, .int (nI y0)), (4, .int w)] dX8_followChain_144 (by decide) rfl ?_
        refine aw_goto 16 dX8_followChain_146 (by decide) ?_
        refine aw_lv [(9, .int 10), (8, .int (0 + ((chX (nI (lx a (y0 / 100 % 10 - 1) i q2))) + 0))), (7, .int 1), (6, .int (nI q2)), (5, .int (nI (y0 / 100 % 10 - 1))), (4, .int w), (3, .int (nI y0)), (0, .ref (G.1 + 0))] [0, 3, 5, 1, 2, 13, 12, 9] rfl ?_
        exact fcL (bv := bv) (J := J) (x := 2) (ev := (nI q2)) (fr := y0 / 100 % 10 - 1) (dv := 0 + ((chX (nI (lx a (y0 / 100 % 10 - 1) i q2))) + 0)) (sv := 1) (u1 := u16021) (v1 := v16022) (ro1 := ro16023) (co1 := co16024) (rc1 := rc16025) (lk1 := lk16026) (bs1 := bs16027) (wy1 := wy16028) (nw1 := nw16029) hl hm hse hfi hye qJ bve hlx hlx3 g1 by0 (by decide) (Or.inr ⟨_, bq2, bq2f, rfl⟩) (by omega) p6047 p6048 p6049 p6050 hJ2 hln (chV_s (t := y0 / 100 % 10 - 1) (by omega) (by omega) (by show ¬ y0 / 100 % 10 = 0; omega) rfl hP (cc_1 (p6052.2.2.2 i (by omega)) c118)) f6036 f6054 f6055 f6056 f6057 f6058 f6059 f6060 f6061 f6062 f6063 f6064 f6065 f6037 f6038 f6039 f6040 f6041 f6042 (grw_gg (grw_rf 0 0 13 60 h) k6046 (fun j q1 q2 => by omega)) hQF
