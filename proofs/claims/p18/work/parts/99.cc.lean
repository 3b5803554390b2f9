set_option maxHeartbeats 4000000 in
theorem fc_n {l : Launch} {G : xG} {h : List va_E} {bv : Value} {J : Nat} {m se ye fi : Nat → Nat} {W Sn Z Ro Co : Nat → Int32} {Ba : Nat → Int64} {nb sp fa ve : Nat} {a i y0 : Nat} {w : Int32} (h0 : h[0]? = some (oB 8 (lX G (.null) (bv)))) (h1 : h[1]? = some (oB 1 (lC G (nI nb) (nI sp) (nI fa) (nI ve)))) (h2 : h[2]? = some (aI 20 (nA m))) (h3 : h[3]? = some (aI 20 (nA se))) (h4 : h[4]? = some (aI 4 (nA ye))) (h5 : h[5]? = some (aI 4 (nA fi))) (h6 : h[6]? = some (aI 40 W)) (h7 : h[7]? = some (aI 40 Sn)) (h8 : h[8]? = some (aI 40 Z)) (h9 : h[9]? = some (aI 40 Ro)) (h10 : h[10]? = some (aI 40 Co)) (h11 : h[11]? = some (aL 40 Ba)) (h12 : h[12]? = some (aR 16 (xjo G.1 16))) (hl : h.length = J) (hm : ∀ j, j < 20 → m j ≤ j) (hse : ∀ j, j < 20 → se j < 20) (hfi : ∀ j, j < 4 → fi j < 11) (hye : ∀ j, j < 4 → ye j < 1901) (ba : a < 4) (bi : i < 10) (qJ : 125 ≤ J) (bve : ve ≤ 600) (hve : 1 ≤ ve) (hJz : iJs G jZ h) (g1 : 1 ≤ y0 % 10 ∧ y0 % 10 ≤ 4 ∧ y0 / 10 % 10 ≤ 4 ∧ y0 / 100 % 10 ≤ 4) (by0 : y0 < 1000) : CU l G yX8_followChain cX8_followChain 14 (some .int) 6 6 13430 [.ref (G.1 + 0), .int (nI a), .int (nI i), .int (nI y0), .int w] h (fun r h1 => ∃ u1 : Nat, ∃ v1 : Nat, ∃ ro1 : Nat, ∃ co1 : Nat, ∃ rc1 : Nat → Nat, ∃ lk1 : Nat → Int32, ∃ bs1 : Nat → Int32, ∃ wy1 : Nat → Int32, ∃ nw1 : Nat → Int32, h1[0]? = some (oB 8 (lX G (.ref (G.1 + J)) (bv))) ∧ h1[J]? = some (oB 3 (lJ G J (.ref (G.1 + u1)) (.ref (G.1 + v1)) (nI ro1) (nI co1))) ∧ h1[J + 1]? = some (aI 100 lk1) ∧ h1[J + 2]? = some (aI 11 (nA rc1)) ∧ h1[J + 3]? = some (aI 11264 bs1) ∧ h1[u1]? = some (aI 1024 wy1) ∧ h1[v1]? = some (aI 1024 nw1) ∧ grw 0 0 13 60 h h1 ∧ (J + 4 ≤ u1 ∧ u1 ≤ J + 5) ∧ (J + 4 ≤ v1 ∧ v1 ≤ J + 5) ∧ u1 ≠ v1 ∧ (∀ j, j < 11 → rc1 j < 1024) ∧ iJs G jT h1 ∧ h1.length = J + 6 ∧ True) := by
  refine cm_ofQ rfl (Nat.le_of_ble_eq_true rfl) [(0, .ref (G.1 + 0)), (1, .int (nI a)), (2, .int (nI i)), (3, .int (nI y0)), (4, .int w)] rfl (fun QF hQF => ?_)
  refine aw_iload_n 1 dX8_followChain_0 rfl rfl ?_
  refine aw_istore [(5, .int (nI a)), (0, .ref (G.1 + 0)), (1, .int (nI a)), (2, .int (nI i)), (3, .int (nI y0)), (4, .int w)] dX8_followChain_1 (by decide) rfl ?_
  refine aw_iload_n 3 dX8_followChain_3 rfl rfl ?_
  refine aw_istore [(6, .int (nI i)), (5, .int (nI a)), (0, .ref (G.1 + 0)), (1, .int (nI a)), (2, .int (nI i)), (3, .int (nI y0)), (4, .int w)] dX8_followChain_4 (by decide) rfl ?_
  refine aw_iconst (0) dX8_followChain_6 (by decide) ?_
  refine aw_istore [(7, .int 0), (6, .int (nI i)), (5, .int (nI a)), (0, .ref (G.1 + 0)), (1, .int (nI a)), (2, .int (nI i)), (3, .int (nI y0)), (4, .int w)] dX8_followChain_7 (by decide) rfl ?_
  refine aw_iconst (0) dX8_followChain_9 (by decide) ?_
  refine aw_istore [(8, .int 0), (7, .int 0), (6, .int (nI i)), (5, .int (nI a)), (0, .ref (G.1 + 0)), (1, .int (nI a)), (2, .int (nI i)), (3, .int (nI y0)), (4, .int w)] dX8_followChain_10 (by decide) rfl ?_
  refine aw_bipush (100) dX8_followChain_12 (by decide) ?_
  refine aw_istore [(9, .int 100), (8, .int 0), (7, .int 0), (6, .int (nI i)), (5, .int (nI a)), (0, .ref (G.1 + 0)), (1, .int (nI a)), (2, .int (nI i)), (3, .int (nI y0)), (4, .int w)] dX8_followChain_14 (by decide) rfl ?_
  refine aw_iload 0 dX8_followChain_16 rfl ?_
  refine aw_if_le 149 dX8_followChain_18 (by decide) (fun c18 => absurd c18 (by decide)) (fun c18 => ?_)
  refine aw_iload 3 dX8_followChain_21 rfl ?_
  refine aw_bipush (-9) dX8_followChain_23 (by decide) ?_
  refine aw_icmp_eq 149 dX8_followChain_25 (by decide) (fun c25 => absurd c25 (nI_ne9 bi)) (fun c25 => ?_)
  refine aw_iload_n 8 dX8_followChain_28 rfl rfl ?_
  refine aw_iload 0 dX8_followChain_29 rfl ?_
  refine aw_idiv dX8_followChain_31 (by decide) ?_
  refine aw_toe (nI (y0 / 100)) (nv_div (rfl) (rfl) (by omega) (by decide) (by decide)) ?_
  refine aw_bipush (10) dX8_followChain_32 (by decide) ?_
  refine aw_irem dX8_followChain_34 (by decide) ?_
  refine aw_toe (nI ((y0 / 100) % 10)) (nv_rem (rfl) (rfl) (by omega) (by decide) (by decide)) ?_
  refine aw_iconst (1) dX8_followChain_35 (by decide) ?_
  refine aw_isub dX8_followChain_36 ?_
  refine aw_istore [(10, .int ((nI ((y0 / 100) % 10)) - 1)), (9, .int 100), (8, .int 0), (7, .int 0), (6, .int (nI i)), (5, .int (nI a)), (0, .ref (G.1 + 0)), (1, .int (nI a)), (2, .int (nI i)), (3, .int (nI y0)), (4, .int w)] dX8_followChain_37 (by decide) rfl ?_
  refine aw_iload 0 dX8_followChain_39 rfl ?_
  refine aw_if_lt 139 dX8_followChain_41 (by decide) (fun c41 => ?_) (fun c41 => ?_)
  · have d41 := (j_lt (a := ((nI ((y0 / 100) % 10)) - 1).toInt) (b := (0)) (rfl) (rfl)).mp c41
    refine aw_iload 1 dX8_followChain_139 rfl ?_
    refine aw_bipush (10) dX8_followChain_141 (by decide) ?_
    refine aw_idiv dX8_followChain_143 (by decide) ?_
    refine aw_toe 10 (by decide) ?_
    refine aw_istore [(9, .int 10), (10, .int ((nI ((y0 / 100) % 10)) - 1)), (8, .int 0), (7, .int 0), (6, .int (nI i)), (5, .int (nI a)), (0, .ref (G.1 + 0)), (1, .int (nI a)), (2, .int (nI i)), (3, .int (nI y0)), (4, .int w)] dX8_followChain_144 (by decide) rfl ?_
    refine aw_goto 16 dX8_followChain_146 (by decide) ?_
    refine aw_iload 0 dX8_followChain_16 rfl ?_
    refine aw_if_le 149 dX8_followChain_18 (by decide) (fun c18 => absurd c18 (by decide)) (fun c18 => ?_)
    refine aw_iload 4 dX8_followChain_21 rfl ?_
    refine aw_bipush (-9) dX8_followChain_23 (by decide) ?_
    refine aw_icmp_eq 149 dX8_followChain_25 (by decide) (fun c25 => absurd c25 (nI_ne9 bi)) (fun c25 => ?_)
    refine aw_iload_n 9 dX8_followChain_28 rfl rfl ?_
    refine aw_iload 0 dX8_followChain_29 rfl ?_
    refine aw_idiv dX8_followChain_31 (by decide) ?_
    refine aw_toe (nI (y0 / 10)) (nv_div (rfl) (rfl) (by omega) (by decide) (by decide)) ?_
    refine aw_bipush (10) dX8_followChain_32 (by decide) ?_
    refine aw_irem dX8_followChain_34 (by decide) ?_
    refine aw_toe (nI ((y0 / 10) % 10)) (nv_rem (rfl) (rfl) (by omega) (by decide) (by decide)) ?_
    refine aw_iconst (1) dX8_followChain_35 (by decide) ?_
    refine aw_isub dX8_followChain_36 ?_
    refine aw_istore [(10, .int ((nI ((y0 / 10) % 10)) - 1)), (9, .int 10), (8, .int 0), (7, .int 0), (6, .int (nI i)), (5, .int (nI a)), (0, .ref (G.1 + 0)), (1, .int (nI a)), (2, .int (nI i)), (3, .int (nI y0)), (4, .int w)] dX8_followChain_37 (by decide) rfl ?_
    refine aw_iload 0 dX8_followChain_39 rfl ?_
    refine aw_if_lt 139 dX8_followChain_41 (by decide) (fun c41 => ?_) (fun c41 => ?_)
    · have d41 := (j_lt (a := ((nI ((y0 / 10) % 10)) - 1).toInt) (b := (0)) (rfl) (rfl)).mp c41
      refine aw_iload 1 dX8_followChain_139 rfl ?_
      refine aw_bipush (10) dX8_followChain_141 (by decide) ?_
      refine aw_idiv dX8_followChain_143 (by decide) ?_
      refine aw_toe 1 (by decide) ?_
      refine aw_istore [(9, .int 1), (10, .int ((nI ((y0 / 10) % 10)) - 1)), (8, .int 0), (7, .int 0), (6, .int (nI i)), (5, .int (nI a)), (0, .ref (G.1 + 0)), (1, .int (nI a)), (2, .int (nI i)), (3, .int (nI y0)), (4, .int w)] dX8_followChain_144 (by decide) rfl ?_
      refine aw_goto 16 dX8_followChain_146 (by decide) ?_
      refine aw_iload 0 dX8_followChain_16 rfl ?_
      refine aw_if_le 149 dX8_followChain_18 (by decide) (fun c18 => absurd c18 (by decide)) (fun c18 => ?_)
      refine aw_iload 4 dX8_followChain_21 rfl ?_
      refine aw_bipush (-9) dX8_followChain_23 (by decide) ?_
      refine aw_icmp_eq 149 dX8_followChain_25 (by decide) (fun c25 => absurd c25 (nI_ne9 bi)) (fun c25 => ?_)
      refine aw_iload_n 9 dX8_followChain_28 rfl rfl ?_
      refine aw_iload 0 dX8_followChain_29 rfl ?_
      refine aw_idiv dX8_followChain_31 (by decide) ?_
      refine aw_toe (nI (y0 / 1)) (nv_div (rfl) (rfl) (by omega) (by decide) (by decide)) ?_
      refine aw_bipush (10) dX8_followChain_32 (by decide) ?_
      refine aw_irem dX8_followChain_34 (by decide) ?_
      refine aw_toe (nI ((y0 / 1) % 10)) (nv_rem (rfl) (rfl) (by omega) (by decide) (by decide)) ?_
      refine aw_iconst (1) dX8_followChain_35 (by decide) ?_
      refine aw_isub dX8_followChain_36 ?_
      refine aw_istore [(10, .int ((nI ((y0 / 1) % 10)) - 1)), (9, .int 1), (8, .int 0), (7, .int 0), (6, .int (nI i)), (5, .int (nI a)), (0, .ref (G.1 + 0)), (1, .int (nI a)), (2, .int (nI i)), (3, .int (nI y0)), (4, .int w)] dX8_followChain_37 (by decide) rfl ?_
      refine aw_iload 0 dX8_followChain_39 rfl ?_
      refine aw_if_lt 139 dX8_followChain_41 (by decide) (fun c41 => ?_) (fun c41 => ?_)
      · have d41 := (j_lt (a := ((nI ((y0 / 1) % 10)) - 1).toInt) (b := (0)) (rfl) (rfl)).mp c41
        exfalso
        rw [dig_i (by omega)] at d41
        omega
      · have d41 := mt (j_lt (a := ((nI ((y0 / 1) % 10)) - 1).toInt) (b := (0)) (rfl) (rfl)).mpr c41
        have g0 : 1 ≤ y0 / 1 % 10 := by rw [dig_i (by omega)] at d41; omega
        rw [dig_e g0]
        obtain ⟨su, wa, pt, ce, pv, gg0, gg1, gg2, hpt, bpv, hfz⟩ := hJz (a * 4 + (y0 / 1 % 10 - 1)) (by omega)
        obtain ⟨P, eP⟩ : ∃ P, P = 13 + 3 * (a * 4 + (y0 / 1 % 10 - 1)) := ⟨_, rfl⟩
        rw [← eP] at gg0 gg1 gg2
        have hvv : ¬ pv = ve := by rw [show pv = 0 from hfz]; omega
        refine aw_aload_n 6 dX8_followChain_44 rfl rfl ?_
        refine aw_iload 5 dX8_followChain_45 rfl ?_
        refine aw_iload 0 dX8_followChain_47 rfl ?_
        refine aw_eV [.int (nI a), .int (nI (y0 / 1 % 10 - 1))] [] lX8_124 vX8_bestJoining mX8_bestJoining dX8_followChain_49 (bJ_n (bv := bv) (P := P) (pv := pv) (su := su) (wa := wa) (pt := pt) (ce := ce) (m := m) (se := se) (ye := ye) (fi := fi) (W := W) (Sn := Sn) (Z := Z) (Ro := Ro) (Co := Co) (Ba := Ba) (nb := nb) (sp := sp) (fa := fa) (ve := ve) (a := a) (b := y0 / 1 % 10 - 1) h0 h1 h2 h3 h4 h5 h6 h7 h8 h9 h10 h11 h12 gg0 gg1 gg2 (by omega) hm hse hfi hye (by omega) (by omega) (by omega) (by omega) (by omega) hpt eP (by omega) (by omega) hvv) h0 rfl rfl rfl (Nat.le_of_ble_eq_true rfl) (by decide) (by decide) rfl (fun h5964 q5963 => ?_)
        obtain ⟨u15950, v15951, ro15952, co15953, rc15954, lk15955, bs15956, wy15957, nw15958, su15959, wa15960, pt15961, ce15962, f5965, f5966, f5967, f5968, f5969, f5970, f5971, f5972, f5973, f5974, k5975, p5976, p5977, p5978, p5979, p5980, p5981⟩ := q5963
        have f5982 := grw_at k5975 (by omega) h1
        have f5983 := grw_at k5975 (by omega) h2
        have f5984 := grw_at k5975 (by omega) h3
        have f5985 := grw_at k5975 (by omega) h4
        have f5986 := grw_at k5975 (by omega) h5
        have f5987 := grw_at k5975 (by omega) h6
        have f5988 := grw_at k5975 (by omega) h7
        have f5989 := grw_at k5975 (by omega) h8
        have f5990 := grw_at k5975 (by omega) h9
        have f5991 := grw_at k5975 (by omega) h10
        have f5992 := grw_at k5975 (by omega) h11
        have f5993 := grw_at k5975 (by omega) h12
        have hJ2 : iJs G jT h5964 := iJs_up (iJs_w hJz (fun _ _ _ _ _ _ _ => trivial)) (k := a * 4 + (y0 / 1 % 10 - 1)) (by omega) eP (fun j q1 q2 q3 => k5975.2 j (by omega) (by omega)) f5972 f5973 f5974 p5980 bve trivial
        have hln := p5981
        refine aw_astore [(11, .ref (G.1 + P)), (10, .int (nI (y0 / 1 % 10 - 1))), (9, .int 1), (8, .int 0), (7, .int 0), (6, .int (nI i)), (5, .int (nI a)), (0, .ref (G.1 + 0)), (1, .int (nI a)), (2, .int (nI i)), (3, .int (nI y0)), (4, .int w)] dX8_followChain_52 (by decide) rfl ?_
        refine aw_aload 0 dX8_followChain_54 rfl ?_
        refine aw_get fX8_131 dX8_followChain_56 f5972 rfl ?_
        refine aw_iload 5 dX8_followChain_59 rfl ?_
        refine aw_iald i (rfl) (by omega) (by decide) dX8_followChain_61 f5973 ?_
        refine aw_istore [(12, .int (pt15961 i)), (11, .ref (G.1 + P)), (10, .int (nI (y0 / 1 % 10 - 1))), (9, .int 1), (8, .int 0), (7, .int 0), (6, .int (nI i)), (5, .int (nI a)), (0, .ref (G.1 + 0)), (1, .int (nI a)), (2, .int (nI i)), (3, .int (nI y0)), (4, .int w)] dX8_followChain_62 (by decide) rfl ?_
        refine aw_iload 0 dX8_followChain_64 rfl ?_
        refine aw_bipush (-9) dX8_followChain_66 (by decide) ?_
        refine aw_icmp_eq 131 dX8_followChain_68 (by decide) (fun c68 => ?_) (fun c68 => ?_)
        · have d68 := (j_eq (a := (pt15961 i).toInt) (b := (-9)) (rfl) (rfl)).mp c68
          refine aw_iload 2 dX8_followChain_131 rfl ?_
          refine aw_istore [(5, .int (nI (y0 / 1 % 10 - 1))), (12, .int (pt15961 i)), (11, .ref (G.1 + P)), (10, .int (nI (y0 / 1 % 10 - 1))), (9, .int 1), (8, .int 0), (7, .int 0), (6, .int (nI i)), (0, .ref (G.1 + 0)), (1, .int (nI a)), (2, .int (nI i)), (3, .int (nI y0)), (4, .int w)] dX8_followChain_133 (by decide) rfl ?_
          refine aw_iload 1 dX8_followChain_135 rfl ?_
          refine aw_istore [(6, .int (pt15961 i)), (5, .int (nI (y0 / 1 % 10 - 1))), (12, .int (pt15961 i)), (11, .ref (G.1 + P)), (10, .int (nI (y0 / 1 % 10 - 1))), (9, .int 1), (8, .int 0), (7, .int 0), (0, .ref (G.1 + 0)), (1, .int (nI a)), (2, .int (nI i)), (3, .int (nI y0)), (4, .int w)] dX8_followChain_137 (by decide) rfl ?_
          refine aw_iload 5 dX8_followChain_139 rfl ?_
          refine aw_bipush (10) dX8_followChain_141 (by decide) ?_
          refine aw_idiv dX8_followChain_143 (by decide) ?_
          refine aw_toe 0 (by decide) ?_
          refine aw_istore [(9, .int 0), (6, .int (pt15961 i)), (5, .int (nI (y0 / 1 % 10 - 1))), (12, .int (pt15961 i)), (11, .ref (G.1 + P)), (10, .int (nI (y0 / 1 % 10 - 1))), (8, .int 0), (7, .int 0), (0, .ref (G.1 + 0)), (1, .int (nI a)), (2, .int (nI i)), (3, .int (nI y0)), (4, .int w)] dX8_followChain_144 (by decide) rfl ?_
          refine aw_goto 16 dX8_followChain_146 (by decide) ?_
          refine aw_lv [(9, .int 0), (8, .int 0), (7, .int 0), (6, .int (pt15961 i)), (5, .int (nI (y0 / 1 % 10 - 1))), (4, .int w), (3, .int (nI y0)), (0, .ref (G.1 + 0))] [0, 6, 7, 1, 2, 12, 11, 8] rfl ?_
          exact fcL (bv := bv) (J := J) (x := 0) (ev := pt15961 i) (fr := y0 / 1 % 10 - 1) (dv := 0) (sv := 0) (u1 := u15950) (v1 := v15951) (ro1 := ro15952) (co1 := co15953) (rc1 := rc15954) (lk1 := lk15955) (bs1 := bs15956) (wy1 := wy15957) (nw1 := nw15958) hl hm hse hfi hye qJ bve g1 by0 (by decide) (p5980 i bi) (by omega) p5976 p5977 p5978 p5979 hJ2 hln f5965 f5982 f5983 f5984 f5985 f5986 f5987 f5988 f5989 f5990 f5991 f5992 f5993 f5966 f5967 f5968 f5969 f5970 f5971 (grw_gg (grw_rf 0 0 13 60 h) k5975 (fun j q1 q2 => by omega)) hQF
        · have d68 := mt (j_eq (a := (pt15961 i).toInt) (b := (-9)) (rfl) (rfl)).mpr c68
          obtain ⟨q2, bq2, eq2⟩ := (p5980 i (by omega)).resolve_left c68
          rw [eq2]
          refine aw_iinc (j := 5) (1) [(7, .int 1), (12, .int (nI q2)), (11, .ref (G.1 + P)), (10, .int (nI (y0 / 1 % 10 - 1))), (9, .int 1), (8, .int 0), (6, .int (nI i)), (5, .int (nI a)), (0, .ref (G.1 + 0)), (1, .int (nI a)), (2, .int (nI i)), (3, .int (nI y0)), (4, .int w)] dX8_followChain_71 rfl (by decide) (by decide) rfl ?_
          refine aw_aload_n 8 dX8_followChain_74 rfl rfl ?_
          refine aw_get fX8_20 dX8_followChain_75 f5965 rfl ?_
          refine aw_iload 7 dX8_followChain_78 rfl ?_
          refine aw_bipush (10) dX8_followChain_80 (by decide) ?_
          refine aw_imul dX8_followChain_82 ?_
          refine aw_toe (nI (a * 10)) (nv_mul (rfl) (rfl)) ?_
          refine aw_iload 6 dX8_followChain_83 rfl ?_
          refine aw_iadd dX8_followChain_85 ?_
          refine aw_toe (nI ((a * 10) + i)) (nv_add (rfl) (rfl)) ?_
          refine aw_iload 3 dX8_followChain_86 rfl ?_
          refine aw_bipush (10) dX8_followChain_88 (by decide) ?_
          refine aw_imul dX8_followChain_90 ?_
          refine aw_toe (nI ((y0 / 1 % 10 - 1) * 10)) (nv_mul (rfl) (rfl)) ?_
          refine aw_iload 1 dX8_followChain_91 rfl ?_
          refine aw_iadd dX8_followChain_93 ?_
          refine aw_toe (nI (((y0 / 1 % 10 - 1) * 10) + q2)) (nv_add (rfl) (rfl)) ?_
          refine aw_dV [.int (nI ((a * 10) + i)), .int (nI (((y0 / 1 % 10 - 1) * 10) + q2))] [] lX8_121 vX1_likeness mX1_likeness dX8_followChain_94 (aX1_likeness (m := m) (se := se) (ye := ye) (fi := fi) (W := W) (Sn := Sn) (Z := Z) (Ro := Ro) (Co := Co) (Ba := Ba) (nb := nb) (sp := sp) (fa := fa) (ve := ve) (e := (a * 10) + i) (f := ((y0 / 1 % 10 - 1) * 10) + q2) f5982 f5983 f5984 f5985 f5986 f5987 f5988 f5989 f5990 f5991 f5992 hm hse hfi hye (by omega) (by omega)) f5982 rfl rfl rfl (Nat.le_of_ble_eq_true rfl) (by decide) (by decide) rfl ?_
          refine aw_istore [(13, .int (likeC ye Sn Z Ro Co Ba sp fa ((a * 10) + i) (((y0 / 1 % 10 - 1) * 10) + q2))), (7, .int 1), (12, .int (nI q2)), (11, .ref (G.1 + P)), (10, .int (nI (y0 / 1 % 10 - 1))), (9, .int 1), (8, .int 0), (6, .int (nI i)), (5, .int (nI a)), (0, .ref (G.1 + 0)), (1, .int (nI a)), (2, .int (nI i)), (3, .int (nI y0)), (4, .int w)] dX8_followChain_97 (by decide) rfl ?_
          refine aw_iload 6 dX8_followChain_99 rfl ?_
          refine aw_iconst (0) dX8_followChain_101 (by decide) ?_
          refine aw_bipush (100) dX8_followChain_102 (by decide) ?_
          refine aw_iload 0 dX8_followChain_104 rfl ?_
          refine aw_isub dX8_followChain_106 ?_
          refine aw_mmax lX8_251 dX8_followChain_107 (Nat.le_of_ble_eq_true rfl) (by decide) (by decide) ?_
          refine aw_aload 3 dX8_followChain_110 rfl ?_
          refine aw_get fX8_137 dX8_followChain_112 f5972 rfl ?_
          refine aw_iload 7 dX8_followChain_115 rfl ?_
          refine aw_zald i (rfl) (by omega) (by decide) dX8_followChain_117 f5974 ?_
          refine aw_if_eq 125 dX8_followChain_118 (by decide) (fun c118 => ?_) (fun c118 => ?_)
          · have d118 := (j_eq (a := (ce15962 i).toInt) (b := (0)) (rfl) (rfl)).mp c118
            refine aw_bipush (50) dX8_followChain_125 (by decide) ?_
            refine aw_iadd dX8_followChain_127 ?_
            refine aw_iadd dX8_followChain_128 ?_
            refine aw_istore [(8, .int (0 + ((if 0 < (100 - (likeC ye Sn Z Ro Co Ba sp fa ((a * 10) + i) (((y0 / 1 % 10 - 1) * 10) + q2))) then (100 - (likeC ye Sn Z Ro Co Ba sp fa ((a * 10) + i) (((y0 / 1 % 10 - 1) * 10) + q2))) else 0) + 50))), (13, .int (likeC ye Sn Z Ro Co Ba sp fa ((a * 10) + i) (((y0 / 1 % 10 - 1) * 10) + q2))), (7, .int 1), (12, .int (nI q2)), (11, .ref (G.1 + P)), (10, .int (nI (y0 / 1 % 10 - 1))), (9, .int 1), (6, .int (nI i)), (5, .int (nI a)), (0, .ref (G.1 + 0)), (1, .int (nI a)), (2, .int (nI i)), (3, .int (nI y0)), (4, .int w)] dX8_followChain_129 (by decide) rfl ?_
            refine aw_iload 5 dX8_followChain_131 rfl ?_
            refine aw_istore [(5, .int (nI (y0 / 1 % 10 - 1))), (8, .int (0 + ((if 0 < (100 - (likeC ye Sn Z Ro Co Ba sp fa ((a * 10) + i) (((y0 / 1 % 10 - 1) * 10) + q2))) then (100 - (likeC ye Sn Z Ro Co Ba sp fa ((a * 10) + i) (((y0 / 1 % 10 - 1) * 10) + q2))) else 0) + 50))), (13, .int (likeC ye Sn Z Ro Co Ba sp fa ((a * 10) + i) (((y0 / 1 % 10 - 1) * 10) + q2))), (7, .int 1), (12, .int (nI q2)), (11, .ref (G.1 + P)), (10, .int (nI (y0 / 1 % 10 - 1))), (9, .int 1), (6, .int (nI i)), (0, .ref (G.1 + 0)), (1, .int (nI a)), (2, .int (nI i)), (3, .int (nI y0)), (4, .int w)] dX8_followChain_133 (by decide) rfl ?_
            refine aw_iload 4 dX8_followChain_135 rfl ?_
            refine aw_istore [(6, .int (nI q2)), (5, .int (nI (y0 / 1 % 10 - 1))), (8, .int (0 + ((if 0 < (100 - (likeC ye Sn Z Ro Co Ba sp fa ((a * 10) + i) (((y0 / 1 % 10 - 1) * 10) + q2))) then (100 - (likeC ye Sn Z Ro Co Ba sp fa ((a * 10) + i) (((y0 / 1 % 10 - 1) * 10) + q2))) else 0) + 50))), (13, .int (likeC ye Sn Z Ro Co Ba sp fa ((a * 10) + i) (((y0 / 1 % 10 - 1) * 10) + q2))), (7, .int 1), (12, .int (nI q2)), (11, .ref (G.1 + P)), (10, .int (nI (y0 / 1 % 10 - 1))), (9, .int 1), (0, .ref (G.1 + 0)), (1, .int (nI a)), (2, .int (nI i)), (3, .int (nI y0)), (4, .int w)] dX8_followChain_137 (by decide) rfl ?_
            refine aw_iload 8 dX8_followChain_139 rfl ?_
            refine aw_bipush (10) dX8_followChain_141 (by decide) ?_
            refine aw_idiv dX8_followChain_143 (by decide) ?_
            refine aw_toe 0 (by decide) ?_
            refine aw_istore [(9, .int 0), (6, .int (nI q2)), (5, .int (nI (y0 / 1 % 10 - 1))), (8, .int (0 + ((if 0 < (100 - (likeC ye Sn Z Ro Co Ba sp fa ((a * 10) + i) (((y0 / 1 % 10 - 1) * 10) + q2))) then (100 - (likeC ye Sn Z Ro Co Ba sp fa ((a * 10) + i) (((y0 / 1 % 10 - 1) * 10) + q2))) else 0) + 50))), (13, .int (likeC ye Sn Z Ro Co Ba sp fa ((a * 10) + i) (((y0 / 1 % 10 - 1) * 10) + q2))), (7, .int 1), (12, .int (nI q2)), (11, .ref (G.1 + P)), (10, .int (nI (y0 / 1 % 10 - 1))), (0, .ref (G.1 + 0)), (1, .int (nI a)), (2, .int (nI i)), (3, .int (nI y0)), (4, .int w)] dX8_followChain_144 (by decide) rfl ?_
            refine aw_goto 16 dX8_followChain_146 (by decide) ?_
            refine aw_lv [(9, .int 0), (8, .int (0 + ((if 0 < (100 - (likeC ye Sn Z Ro Co Ba sp fa ((a * 10) + i) (((y0 / 1 % 10 - 1) * 10) + q2))) then (100 - (likeC ye Sn Z Ro Co Ba sp fa ((a * 10) + i) (((y0 / 1 % 10 - 1) * 10) + q2))) else 0) + 50))), (7, .int 1), (6, .int (nI q2)), (5, .int (nI (y0 / 1 % 10 - 1))), (4, .int w), (3, .int (nI y0)), (0, .ref (G.1 + 0))] [0, 3, 5, 1, 2, 13, 12, 9] rfl ?_
            exact fcL (bv := bv) (J := J) (x := 0) (ev := (nI q2)) (fr := y0 / 1 % 10 - 1) (dv := 0 + ((if 0 < (100 - (likeC ye Sn Z Ro Co Ba sp fa ((a * 10) + i) (((y0 / 1 % 10 - 1) * 10) + q2))) then (100 - (likeC ye Sn Z Ro Co Ba sp fa ((a * 10) + i) (((y0 / 1 % 10 - 1) * 10) + q2))) else 0) + 50)) (sv := 1) (u1 := u15950) (v1 := v15951) (ro1 := ro15952) (co1 := co15953) (rc1 := rc15954) (lk1 := lk15955) (bs1 := bs15956) (wy1 := wy15957) (nw1 := nw15958) hl hm hse hfi hye qJ bve g1 by0 (by decide) (Or.inr ⟨_, bq2, rfl⟩) (by omega) p5976 p5977 p5978 p5979 hJ2 hln f5965 f5982 f5983 f5984 f5985 f5986 f5987 f5988 f5989 f5990 f5991 f5992 f5993 f5966 f5967 f5968 f5969 f5970 f5971 (grw_gg (grw_rf 0 0 13 60 h) k5975 (fun j q1 q2 => by omega)) hQF
          · have d118 := mt (j_eq (a := (ce15962 i).toInt) (b := (0)) (rfl) (rfl)).mpr c118
            refine aw_iconst (0) dX8_followChain_121 (by decide) ?_
            refine aw_goto 127 dX8_followChain_122 (by decide) ?_
            refine aw_iadd dX8_followChain_127 ?_
            refine aw_iadd dX8_followChain_128 ?_
            refine aw_istore [(8, .int (0 + ((if 0 < (100 - (likeC ye Sn Z Ro Co Ba sp fa ((a * 10) + i) (((y0 / 1 % 10 - 1) * 10) + q2))) then (100 - (likeC ye Sn Z Ro Co Ba sp fa ((a * 10) + i) (((y0 / 1 % 10 - 1) * 10) + q2))) else 0) + 0))), (13, .int (likeC ye Sn Z Ro Co Ba sp fa ((a * 10) + i) (((y0 / 1 % 10 - 1) * 10) + q2))), (7, .int 1), (12, .int (nI q2)), (11, .ref (G.1 + P)), (10, .int (nI (y0 / 1 % 10 - 1))), (9, .int 1), (6, .int (nI i)), (5, .int (nI a)), (0, .ref (G.1 + 0)), (1, .int (nI a)), (2, .int (nI i)), (3, .int (nI y0)), (4, .int w)] dX8_followChain_129 (by decide) rfl ?_
            refine aw_iload 5 dX8_followChain_131 rfl ?_
            refine aw_istore [(5, .int (nI (y0 / 1 % 10 - 1))), (8, .int (0 + ((if 0 < (100 - (likeC ye Sn Z Ro Co Ba sp fa ((a * 10) + i) (((y0 / 1 % 10 - 1) * 10) + q2))) then (100 - (likeC ye Sn Z Ro Co Ba sp fa ((a * 10) + i) (((y0 / 1 % 10 - 1) * 10) + q2))) else 0) + 0))), (13, .int (likeC ye Sn Z Ro Co Ba sp fa ((a * 10) + i) (((y0 / 1 % 10 - 1) * 10) + q2))), (7, .int 1), (12, .int (nI q2)), (11, .ref (G.1 + P)), (10, .int (nI (y0 / 1 % 10 - 1))), (9, .int 1), (6, .int (nI i)), (0, .ref (G.1 + 0)), (1, .int (nI a)), (2, .int (nI i)), (3, .int (nI y0)), (4, .int w)] dX8_followChain_133 (by decide) rfl ?_
            refine aw_iload 4 dX8_followChain_135 rfl ?_
            refine aw_istore [(6, .int (nI q2)), (5, .int (nI (y0 / 1 % 10 - 1))), (8, .int (0 + ((if 0 < (100 - (likeC ye Sn Z Ro Co Ba sp fa ((a * 10) + i) (((y0 / 1 % 10 - 1) * 10) + q2))) then (100 - (likeC ye Sn Z Ro Co Ba sp fa ((a * 10) + i) (((y0 / 1 % 10 - 1) * 10) + q2))) else 0) + 0))), (13, .int (likeC ye Sn Z Ro Co Ba sp fa ((a * 10) + i) (((y0 / 1 % 10 - 1) * 10) + q2))), (7, .int 1), (12, .int (nI q2)), (11, .ref (G.1 + P)), (10, .int (nI (y0 / 1 % 10 - 1))), (9, .int 1), (0, .ref (G.1 + 0)), (1, .int (nI a)), (2, .int (nI i)), (3, .int (nI y0)), (4, .int w)] dX8_followChain_137 (by decide) rfl ?_
            refine aw_iload 8 dX8_followChain_139 rfl ?_
            refine aw_bipush (10) dX8_followChain_141 (by decide) ?_
            refine aw_idiv dX8_followChain_143 (by decide) ?_
            refine aw_toe 0 (by decide) ?_
            refine aw_istore [(9, .int 0), (6, .int (nI q2)), (5, .int (nI (y0 / 1 % 10 - 1))), (8, .int (0 + ((if 0 < (100 - (likeC ye Sn Z Ro Co Ba sp fa ((a * 10) + i) (((y0 / 1 % 10 - 1) * 10) + q2))) then (100 - (likeC ye Sn Z Ro Co Ba sp fa ((a * 10) + i) (((y0 / 1 % 10 - 1) * 10) + q2))) else 0) + 0))), (13, .int (likeC ye Sn Z Ro Co Ba sp fa ((a * 10) + i) (((y0 / 1 % 10 - 1) * 10) + q2))), (7, .int 1), (12, .int (nI q2)), (11, .ref (G.1 + P)), (10, .int (nI (y0 / 1 % 10 - 1))), (0, .ref (G.1 + 0)), (1, .int (nI a)), (2, .int (nI i)), (3, .int (nI y0)), (4, .int w)] dX8_followChain_144 (by decide) rfl ?_
            refine aw_goto 16 dX8_followChain_146 (by decide) ?_
            refine aw_lv [(9, .int 0), (8, .int (0 + ((if 0 < (100 - (likeC ye Sn Z Ro Co Ba sp fa ((a * 10) + i) (((y0 / 1 % 10 - 1) * 10) + q2))) then (100 - (likeC ye Sn Z Ro Co Ba sp fa ((a * 10) + i) (((y0 / 1 % 10 - 1) * 10) + q2))) else 0) + 0))), (7, .int 1), (6, .int (nI q2)), (5, .int (nI (y0 / 1 % 10 - 1))), (4, .int w), (3, .int (nI y0)), (0, .ref (G.1 + 0))] [0, 3, 5, 1, 2, 13, 12, 9] rfl ?_
            exact fcL (bv := bv) (J := J) (x := 0) (ev := (nI q2)) (fr := y0 / 1 % 10 - 1) (dv := 0 + ((if 0 < (100 - (likeC ye Sn Z Ro Co Ba sp fa ((a * 10) + i) (((y0 / 1 % 10 - 1) * 10) + q2))) then (100 - (likeC ye Sn Z Ro Co Ba sp fa ((a * 10) + i) (((y0 / 1 % 10 - 1) * 10) + q2))) else 0) + 0)) (sv := 1) (u1 := u15950) (v1 := v15951) (ro1 := ro15952) (co1 := co15953) (rc1 := rc15954) (lk1 := lk15955) (bs1 := bs15956) (wy1 := wy15957) (nw1 := nw15958) hl hm hse hfi hye qJ bve g1 by0 (by decide) (Or.inr ⟨_, bq2, rfl⟩) (by omega) p5976 p5977 p5978 p5979 hJ2 hln f5965 f5982 f5983 f5984 f5985 f5986 f5987 f5988 f5989 f5990 f5991 f5992 f5993 f5966 f5967 f5968 f5969 f5970 f5971 (grw_gg (grw_rf 0 0 13 60 h) k5975 (fun j q1 q2 => by omega)) hQF
    · have d41 := mt (j_lt (a := ((nI ((y0 / 10) % 10)) - 1).toInt) (b := (0)) (rfl) (rfl)).mpr c41
      have g0 : 1 ≤ y0 / 10 % 10 := by rw [dig_i (by omega)] at d41; omega
      rw [dig_e g0]
      obtain ⟨su, wa, pt, ce, pv, gg0, gg1, gg2, hpt, bpv, hfz⟩ := hJz (a * 4 + (y0 / 10 % 10 - 1)) (by omega)
      obtain ⟨P, eP⟩ : ∃ P, P = 13 + 3 * (a * 4 + (y0 / 10 % 10 - 1)) := ⟨_, rfl⟩
      rw [← eP] at gg0 gg1 gg2
      have hvv : ¬ pv = ve := by rw [show pv = 0 from hfz]; omega
      refine aw_aload_n 6 dX8_followChain_44 rfl rfl ?_
      refine aw_iload 5 dX8_followChain_45 rfl ?_
      refine aw_iload 0 dX8_followChain_47 rfl ?_
      refine aw_eV [.int (nI a), .int (nI (y0 / 10 % 10 - 1))] [] lX8_124 vX8_bestJoining mX8_bestJoining dX8_followChain_49 (bJ_n (bv := bv) (P := P) (pv := pv) (su := su) (wa := wa) (pt := pt) (ce := ce) (m := m) (se := se) (ye := ye) (fi := fi) (W := W) (Sn := Sn) (Z := Z) (Ro := Ro) (Co := Co) (Ba := Ba) (nb := nb) (sp := sp) (fa := fa) (ve := ve) (a := a) (b := y0 / 10 % 10 - 1) h0 h1 h2 h3 h4 h5 h6 h7 h8 h9 h10 h11 h12 gg0 gg1 gg2 (by omega) hm hse hfi hye (by omega) (by omega) (by omega) (by omega) (by omega) hpt eP (by omega) (by omega) hvv) h0 rfl rfl rfl (Nat.le_of_ble_eq_true rfl) (by decide) (by decide) rfl (fun h6008 q6007 => ?_)
      obtain ⟨u15994, v15995, ro15996, co15997, rc15998, lk15999, bs16000, wy16001, nw16002, su16003, wa16004, pt16005, ce16006, f6009, f6010, f6011, f6012, f6013, f6014, f6015, f6016, f6017, f6018, k6019, p6020, p6021, p6022, p6023, p6024, p6025⟩ := q6007
      have f6026 := grw_at k6019 (by omega) h1
      have f6027 := grw_at k6019 (by omega) h2
      have f6028 := grw_at k6019 (by omega) h3
      have f6029 := grw_at k6019 (by omega) h4
      have f6030 := grw_at k6019 (by omega) h5
      have f6031 := grw_at k6019 (by omega) h6
      have f6032 := grw_at k6019 (by omega) h7
      have f6033 := grw_at k6019 (by omega) h8
      have f6034 := grw_at k6019 (by omega) h9
      have f6035 := grw_at k6019 (by omega) h10
      have f6036 := grw_at k6019 (by omega) h11
      have f6037 := grw_at k6019 (by omega) h12
      have hJ2 : iJs G jT h6008 := iJs_up (iJs_w hJz (fun _ _ _ _ _ _ _ => trivial)) (k := a * 4 + (y0 / 10 % 10 - 1)) (by omega) eP (fun j q1 q2 q3 => k6019.2 j (by omega) (by omega)) f6016 f6017 f6018 p6024 bve trivial
      have hln := p6025
      refine aw_astore [(11, .ref (G.1 + P)), (10, .int (nI (y0 / 10 % 10 - 1))), (9, .int 10), (8, .int 0), (7, .int 0), (6, .int (nI i)), (5, .int (nI a)), (0, .ref (G.1 + 0)), (1, .int (nI a)), (2, .int (nI i)), (3, .int (nI y0)), (4, .int w)] dX8_followChain_52 (by decide) rfl ?_
      refine aw_aload 0 dX8_followChain_54 rfl ?_
      refine aw_get fX8_131 dX8_followChain_56 f6016 rfl ?_
      refine aw_iload 5 dX8_followChain_59 rfl ?_
      refine aw_iald i (rfl) (by omega) (by decide) dX8_followChain_61 f6017 ?_
      refine aw_istore [(12, .int (pt16005 i)), (11, .ref (G.1 + P)), (10, .int (nI (y0 / 10 % 10 - 1))), (9, .int 10), (8, .int 0), (7, .int 0), (6, .int (nI i)), (5, .int (nI a)), (0, .ref (G.1 + 0)), (1, .int (nI a)), (2, .int (nI i)), (3, .int (nI y0)), (4, .int w)] dX8_followChain_62 (by decide) rfl ?_
      refine aw_iload 0 dX8_followChain_64 rfl ?_
      refine aw_bipush (-9) dX8_followChain_66 (by decide) ?_
      refine aw_icmp_eq 131 dX8_followChain_68 (by decide) (fun c68 => ?_) (fun c68 => ?_)
      · have d68 := (j_eq (a := (pt16005 i).toInt) (b := (-9)) (rfl) (rfl)).mp c68
        refine aw_iload 2 dX8_followChain_131 rfl ?_
        refine aw_istore [(5, .int (nI (y0 / 10 % 10 - 1))), (12, .int (pt16005 i)), (11, .ref (G.1 + P)), (10, .int (nI (y0 / 10 % 10 - 1))), (9, .int 10), (8, .int 0), (7, .int 0), (6, .int (nI i)), (0, .ref (G.1 + 0)), (1, .int (nI a)), (2, .int (nI i)), (3, .int (nI y0)), (4, .int w)] dX8_followChain_133 (by decide) rfl ?_
        refine aw_iload 1 dX8_followChain_135 rfl ?_
        refine aw_istore [(6, .int (pt16005 i)), (5, .int (nI (y0 / 10 % 10 - 1))), (12, .int (pt16005 i)), (11, .ref (G.1 + P)), (10, .int (nI (y0 / 10 % 10 - 1))), (9, .int 10), (8, .int 0), (7, .int 0), (0, .ref (G.1 + 0)), (1, .int (nI a)), (2, .int (nI i)), (3, .int (nI y0)), (4, .int w)] dX8_followChain_137 (by decide) rfl ?_
        refine aw_iload 5 dX8_followChain_139 rfl ?_
        refine aw_bipush (10) dX8_followChain_141 (by decide) ?_
        refine aw_idiv dX8_followChain_143 (by decide) ?_
        refine aw_toe 1 (by decide) ?_
        refine aw_istore [(9, .int 1), (6, .int (pt16005 i)), (5, .int (nI (y0 / 10 % 10 - 1))), (12, .int (pt16005 i)), (11, .ref (G.1 + P)), (10, .int (nI (y0 / 10 % 10 - 1))), (8, .int 0), (7, .int 0), (0, .ref (G.1 + 0)), (1, .int (nI a)), (2, .int (nI i)), (3, .int (nI y0)), (4, .int w)] dX8_followChain_144 (by decide) rfl ?_
        refine aw_goto 16 dX8_followChain_146 (by decide) ?_
        refine aw_lv [(9, .int 1), (8, .int 0), (7, .int 0), (6, .int (pt16005 i)), (5, .int (nI (y0 / 10 % 10 - 1))), (4, .int w), (3, .int (nI y0)), (0, .ref (G.1 + 0))] [0, 6, 7, 1, 2, 12, 11, 8] rfl ?_
        exact fcL (bv := bv) (J := J) (x := 1) (ev := pt16005 i) (fr := y0 / 10 % 10 - 1) (dv := 0) (sv := 0) (u1 := u15994) (v1 := v15995) (ro1 := ro15996) (co1 := co15997) (rc1 := rc15998) (lk1 := lk15999) (bs1 := bs16000) (wy1 := wy16001) (nw1 := nw16002) hl hm hse hfi hye qJ bve g1 by0 (by decide) (p6024 i bi) (by omega) p6020 p6021 p6022 p6023 hJ2 hln f6009 f6026 f6027 f6028 f6029 f6030 f6031 f6032 f6033 f6034 f6035 f6036 f6037 f6010 f6011 f6012 f6013 f6014 f6015 (grw_gg (grw_rf 0 0 13 60 h) k6019 (fun j q1 q2 => by omega)) hQF
      · have d68 := mt (j_eq (a := (pt16005 i).toInt) (b := (-9)) (rfl) (rfl)).mpr c68
        obtain ⟨q2, bq2, eq2⟩ := (p6024 i (by omega)).resolve_left c68
        rw [eq2]
        refine aw_iinc (j := 5) (1) [(7, .int 1), (12, .int (nI q2)), (11, .ref (G.1 + P)), (10, .int (nI (y0 / 10 % 10 - 1))), (9, .int 10), (8, .int 0), (6, .int (nI i)), (5, .int (nI a)), (0, .ref (G.1 + 0)), (1, .int (nI a)), (2, .int (nI i)), (3, .int (nI y0)), (4, .int w)] dX8_followChain_71 rfl (by decide) (by decide) rfl ?_
        refine aw_aload_n 8 dX8_followChain_74 rfl rfl ?_
        refine aw_get fX8_20 dX8_followChain_75 f6009 rfl ?_
        refine aw_iload 7 dX8_followChain_78 rfl ?_
        refine aw_bipush (10) dX8_followChain_80 (by decide) ?_
        refine aw_imul dX8_followChain_82 ?_
        refine aw_toe (nI (a * 10)) (nv_mul (rfl) (rfl)) ?_
        refine aw_iload 6 dX8_followChain_83 rfl ?_
        refine aw_iadd dX8_followChain_85 ?_
        refine aw_toe (nI ((a * 10) + i)) (nv_add (rfl) (rfl)) ?_
        refine aw_iload 3 dX8_followChain_86 rfl ?_
        refine aw_bipush (10) dX8_followChain_88 (by decide) ?_
        refine aw_imul dX8_followChain_90 ?_
        refine aw_toe (nI ((y0 / 10 % 10 - 1) * 10)) (nv_mul (rfl) (rfl)) ?_
        refine aw_iload 1 dX8_followChain_91 rfl ?_
        refine aw_iadd dX8_followChain_93 ?_
        refine aw_toe (nI (((y0 / 10 % 10 - 1) * 10) + q2)) (nv_add (rfl) (rfl)) ?_
        refine aw_dV [.int (nI ((a * 10) + i)), .int (nI (((y0 / 10 % 10 - 1) * 10) + q2))] [] lX8_121 vX1_likeness mX1_likeness dX8_followChain_94 (aX1_likeness (m := m) (se := se) (ye := ye) (fi := fi) (W := W) (Sn := Sn) (Z := Z) (Ro := Ro) (Co := Co) (Ba := Ba) (nb := nb) (sp := sp) (fa := fa) (ve := ve) (e := (a * 10) + i) (f := ((y0 / 10 % 10 - 1) * 10) + q2) f6026 f6027 f6028 f6029 f6030 f6031 f6032 f6033 f6034 f6035 f6036 hm hse hfi hye (by omega) (by omega)) f6026 rfl rfl rfl (Nat.le_of_ble_eq_true rfl) (by decide) (by decide) rfl ?_
        refine aw_istore [(13, .int (likeC ye Sn Z Ro Co Ba sp fa ((a * 10) + i) (((y0 / 10 % 10 - 1) * 10) + q2))), (7, .int 1), (12, .int (nI q2)), (11, .ref (G.1 + P)), (10, .int (nI (y0 / 10 % 10 - 1))), (9, .int 10), (8, .int 0), (6, .int (nI i)), (5, .int (nI a)), (0, .ref (G.1 + 0)), (1, .int (nI a)), (2, .int (nI i)), (3, .int (nI y0)), (4, .int w)] dX8_followChain_97 (by decide) rfl ?_
        refine aw_iload 6 dX8_followChain_99 rfl ?_
        refine aw_iconst (0) dX8_followChain_101 (by decide) ?_
        refine aw_bipush (100) dX8_followChain_102 (by decide) ?_
        refine aw_iload 0 dX8_followChain_104 rfl ?_
        refine aw_isub dX8_followChain_106 ?_
        refine aw_mmax lX8_251 dX8_followChain_107 (Nat.le_of_ble_eq_true rfl) (by decide) (by decide) ?_
        refine aw_aload 3 dX8_followChain_110 rfl ?_
        refine aw_get fX8_137 dX8_followChain_112 f6016 rfl ?_
        refine aw_iload 7 dX8_followChain_115 rfl ?_
        refine aw_zald i (rfl) (by omega) (by decide) dX8_followChain_117 f6018 ?_
        refine aw_if_eq 125 dX8_followChain_118 (by decide) (fun c118 => ?_) (fun c118 => ?_)
        · have d118 := (j_eq (a := (ce16006 i).toInt) (b := (0)) (rfl) (rfl)).mp c118
          refine aw_bipush (50) dX8_followChain_125 (by decide) ?_
          refine aw_iadd dX8_followChain_127 ?_
          refine aw_iadd dX8_followChain_128 ?_
          refine aw_istore [(8, .int (0 + ((if 0 < (100 - (likeC ye Sn Z Ro Co Ba sp fa ((a * 10) + i) (((y0 / 10 % 10 - 1) * 10) + q2))) then (100 - (likeC ye Sn Z Ro Co Ba sp fa ((a * 10) + i) (((y0 / 10 % 10 - 1) * 10) + q2))) else 0) + 50))), (13, .int (likeC ye Sn Z Ro Co Ba sp fa ((a * 10) + i) (((y0 / 10 % 10 - 1) * 10) + q2))), (7, .int 1), (12, .int (nI q2)), (11, .ref (G.1 + P)), (10, .int (nI (y0 / 10 % 10 - 1))), (9, .int 10), (6, .int (nI i)), (5, .int (nI a)), (0, .ref (G.1 + 0)), (1, .int (nI a)), (2, .int (nI i)), (3, .int (nI y0)), (4, .int w)] dX8_followChain_129 (by decide) rfl ?_
          refine aw_iload 5 dX8_followChain_131 rfl ?_
          refine aw_istore [(5, .int (nI (y0 / 10 % 10 - 1))), (8, .int (0 + ((if 0 < (100 - (likeC ye Sn Z Ro Co Ba sp fa ((a * 10) + i) (((y0 / 10 % 10 - 1) * 10) + q2))) then (100 - (likeC ye Sn Z Ro Co Ba sp fa ((a * 10) + i) (((y0 / 10 % 10 - 1) * 10) + q2))) else 0) + 50))), (13, .int (likeC ye Sn Z Ro Co Ba sp fa ((a * 10) + i) (((y0 / 10 % 10 - 1) * 10) + q2))), (7, .int 1), (12, .int (nI q2)), (11, .ref (G.1 + P)), (10, .int (nI (y0 / 10 % 10 - 1))), (9, .int 10), (6, .int (nI i)), (0, .ref (G.1 + 0)), (1, .int (nI a)), (2, .int (nI i)), (3, .int (nI y0)), (4, .int w)] dX8_followChain_133 (by decide) rfl ?_
          refine aw_iload 4 dX8_followChain_135 rfl ?_
          refine aw_istore [(6, .int (nI q2)), (5, .int (nI (y0 / 10 % 10 - 1))), (8, .int (0 + ((if 0 < (100 - (likeC ye Sn Z Ro Co Ba sp fa ((a * 10) + i) (((y0 / 10 % 10 - 1) * 10) + q2))) then (100 - (likeC ye Sn Z Ro Co Ba sp fa ((a * 10) + i) (((y0 / 10 % 10 - 1) * 10) + q2))) else 0) + 50))), (13, .int (likeC ye Sn Z Ro Co Ba sp fa ((a * 10) + i) (((y0 / 10 % 10 - 1) * 10) + q2))), (7, .int 1), (12, .int (nI q2)), (11, .ref (G.1 + P)), (10, .int (nI (y0 / 10 % 10 - 1))), (9, .int 10), (0, .ref (G.1 + 0)), (1, .int (nI a)), (2, .int (nI i)), (3, .int (nI y0)), (4, .int w)] dX8_followChain_137 (by decide) rfl ?_
          refine aw_iload 8 dX8_followChain_139 rfl ?_
          refine aw_bipush (10) dX8_followChain_141 (by decide) ?_
          refine aw_idiv dX8_followChain_143 (by decide) ?_
          refine aw_toe 1 (by decide) ?_
          refine aw_istore [(9, .int 1), (6, .int (nI q2)), (5, .int (nI (y0 / 10 % 10 - 1))), (8, .int (0 + ((if 0 < (100 - (likeC ye Sn Z Ro Co Ba sp fa ((a * 10) + i) (((y0 / 10 % 10 - 1) * 10) + q2))) then (100 - (likeC ye Sn Z Ro Co Ba sp fa ((a * 10) + i) (((y0 / 10 % 10 - 1) * 10) + q2))) else 0) + 50))), (13, .int (likeC ye Sn Z Ro Co Ba sp fa ((a * 10) + i) (((y0 / 10 % 10 - 1) * 10) + q2))), (7, .int 1), (12, .int (nI q2)), (11, .ref (G.1 + P)), (10, .int (nI (y0 / 10 % 10 - 1))), (0, .ref (G.1 + 0)), (1, .int (nI a)), (2, .int (nI i)), (3, .int (nI y0)), (4, .int w)] dX8_followChain_144 (by decide) rfl ?_
          refine aw_goto 16 dX8_followChain_146 (by decide) ?_
          refine aw_lv [(9, .int 1), (8, .int (0 + ((if 0 < (100 - (likeC ye Sn Z Ro Co Ba sp fa ((a * 10) + i) (((y0 / 10 % 10 - 1) * 10) + q2))) then (100 - (likeC ye Sn Z Ro Co Ba sp fa ((a * 10) + i) (((y0 / 10 % 10 - 1) * 10) + q2))) else 0) + 50))), (7, .int 1), (6, .int (nI q2)), (5, .int (nI (y0 / 10 % 10 - 1))), (4, .int w), (3, .int (nI y0)), (0, .ref (G.1 + 0))] [0, 3, 5, 1, 2, 13, 12, 9] rfl ?_
          exact fcL (bv := bv) (J := J) (x := 1) (ev := (nI q2)) (fr := y0 / 10 % 10 - 1) (dv := 0 + ((if 0 < (100 - (likeC ye Sn Z Ro Co Ba sp fa ((a * 10) + i) (((y0 / 10 % 10 - 1) * 10) + q2))) then (100 - (likeC ye Sn Z Ro Co Ba sp fa ((a * 10) + i) (((y0 / 10 % 10 - 1) * 10) + q2))) else 0) + 50)) (sv := 1) (u1 := u15994) (v1 := v15995) (ro1 := ro15996) (co1 := co15997) (rc1 := rc15998) (lk1 := lk15999) (bs1 := bs16000) (wy1 := wy16001) (nw1 := nw16002) hl hm hse hfi hye qJ bve g1 by0 (by decide) (Or.inr ⟨_, bq2, rfl⟩) (by omega) p6020 p6021 p6022 p6023 hJ2 hln f6009 f6026 f6027 f6028 f6029 f6030 f6031 f6032 f6033 f6034 f6035 f6036 f6037 f6010 f6011 f6012 f6013 f6014 f6015 (grw_gg (grw_rf 0 0 13 60 h) k6019 (fun j q1 q2 => by omega)) hQF
        · have d118 := mt (j_eq (a := (ce16006 i).toInt) (b := (0)) (rfl) (rfl)).mpr c118
          refine aw_iconst (0) dX8_followChain_121 (by decide) ?_
          refine aw_goto 127 dX8_followChain_122 (by decide) ?_
          refine aw_iadd dX8_followChain_127 ?_
          refine aw_iadd dX8_followChain_128 ?_
          refine aw_istore [(8, .int (0 + ((if 0 < (100 - (likeC ye Sn Z Ro Co Ba sp fa ((a * 10) + i) (((y0 / 10 % 10 - 1) * 10) + q2))) then (100 - (likeC ye Sn Z Ro Co Ba sp fa ((a * 10) + i) (((y0 / 10 % 10 - 1) * 10) + q2))) else 0) + 0))), (13, .int (likeC ye Sn Z Ro Co Ba sp fa ((a * 10) + i) (((y0 / 10 % 10 - 1) * 10) + q2))), (7, .int 1), (12, .int (nI q2)), (11, .ref (G.1 + P)), (10, .int (nI (y0 / 10 % 10 - 1))), (9, .int 10), (6, .int (nI i)), (5, .int (nI a)), (0, .ref (G.1 + 0)), (1, .int (nI a)), (2, .int (nI i)), (3, .int (nI y0)), (4, .int w)] dX8_followChain_129 (by decide) rfl ?_
          refine aw_iload 5 dX8_followChain_131 rfl ?_
          refine aw_istore [(5, .int (nI (y0 / 10 % 10 - 1))), (8, .int (0 + ((if 0 < (100 - (likeC ye Sn Z Ro Co Ba sp fa ((a * 10) + i) (((y0 / 10 % 10 - 1) * 10) + q2))) then (100 - (likeC ye Sn Z Ro Co Ba sp fa ((a * 10) + i) (((y0 / 10 % 10 - 1) * 10) + q2))) else 0) + 0))), (13, .int (likeC ye Sn Z Ro Co Ba sp fa ((a * 10) + i) (((y0 / 10 % 10 - 1) * 10) + q2))), (7, .int 1), (12, .int (nI q2)), (11, .ref (G.1 + P)), (10, .int (nI (y0 / 10 % 10 - 1))), (9, .int 10), (6, .int (nI i)), (0, .ref (G.1 + 0)), (1, .int (nI a)), (2, .int (nI i)), (3, .int (nI y0)), (4, .int w)] dX8_followChain_133 (by decide) rfl ?_
          refine aw_iload 4 dX8_followChain_135 rfl ?_
          refine aw_istore [(6, .int (nI q2)), (5, .int (nI (y0 / 10 % 10 - 1))), (8, .int (0 + ((if 0 < (100 - (likeC ye Sn Z Ro Co Ba sp fa ((a * 10) + i) (((y0 / 10 % 10 - 1) * 10) + q2))) then (100 - (likeC ye Sn Z Ro Co Ba sp fa ((a * 10) + i) (((y0 / 10 % 10 - 1) * 10) + q2))) else 0) + 0))), (13, .int (likeC ye Sn Z Ro Co Ba sp fa ((a * 10) + i) (((y0 / 10 % 10 - 1) * 10) + q2))), (7, .int 1), (12, .int (nI q2)), (11, .ref (G.1 + P)), (10, .int (nI (y0 / 10 % 10 - 1))), (9, .int 10), (0, .ref (G.1 + 0)), (1, .int (nI a)), (2, .int (nI i)), (3, .int (nI y0)), (4, .int w)] dX8_followChain_137 (by decide) rfl ?_
          refine aw_iload 8 dX8_followChain_139 rfl ?_
          refine aw_bipush (10) dX8_followChain_141 (by decide) ?_
          refine aw_idiv dX8_followChain_143 (by decide) ?_
          refine aw_toe 1 (by decide) ?_
          refine aw_istore [(9, .int 1), (6, .int (nI q2)), (5, .int (nI (y0 / 10 % 10 - 1))), (8, .int (0 + ((if 0 < (100 - (likeC ye Sn Z Ro Co Ba sp fa ((a * 10) + i) (((y0 / 10 % 10 - 1) * 10) + q2))) then (100 - (likeC ye Sn Z Ro Co Ba sp fa ((a * 10) + i) (((y0 / 10 % 10 - 1) * 10) + q2))) else 0) + 0))), (13, .int (likeC ye Sn Z Ro Co Ba sp fa ((a * 10) + i) (((y0 / 10 % 10 - 1) * 10) + q2))), (7, .int 1), (12, .int (nI q2)), (11, .ref (G.1 + P)), (10, .int (nI (y0 / 10 % 10 - 1))), (0, .ref (G.1 + 0)), (1, .int (nI a)), (2, .int (nI i)), (3, .int (nI y0)), (4, .int w)] dX8_followChain_144 (by decide) rfl ?_
          refine aw_goto 16 dX8_followChain_146 (by decide) ?_
          refine aw_lv [(9, .int 1), (8, .int (0 + ((if 0 < (100 - (likeC ye Sn Z Ro Co Ba sp fa ((a * 10) + i) (((y0 / 10 % 10 - 1) * 10) + q2))) then (100 - (likeC ye Sn Z Ro Co Ba sp fa ((a * 10) + i) (((y0 / 10 % 10 - 1) * 10) + q2))) else 0) + 0))), (7, .int 1), (6, .int (nI q2)), (5, .int (nI (y0 / 10 % 10 - 1))), (4, .int w), (3, .int (nI y0)), (0, .ref (G.1 + 0))] [0, 3, 5, 1, 2, 13, 12, 9] rfl ?_
          exact fcL (bv := bv) (J := J) (x := 1) (ev := (nI q2)) (fr := y0 / 10 % 10 - 1) (dv := 0 + ((if 0 < (100 - (likeC ye Sn Z Ro Co Ba sp fa ((a * 10) + i) (((y0 / 10 % 10 - 1) * 10) + q2))) then (100 - (likeC ye Sn Z Ro Co Ba sp fa ((a * 10) + i) (((y0 / 10 % 10 - 1) * 10) + q2))) else 0) + 0)) (sv := 1) (u1 := u15994) (v1 := v15995) (ro1 := ro15996) (co1 := co15997) (rc1 := rc15998) (lk1 := lk15999) (bs1 := bs16000) (wy1 := wy16001) (nw1 := nw16002) hl hm hse hfi hye qJ bve g1 by0 (by decide) (Or.inr ⟨_, bq2, rfl⟩) (by omega) p6020 p6021 p6022 p6023 hJ2 hln f6009 f6026 f6027 f6028 f6029 f6030 f6031 f6032 f6033 f6034 f6035 f6036 f6037 f6010 f6011 f6012 f6013 f6014 f6015 (grw_gg (grw_rf 0 0 13 60 h) k6019 (fun j q1 q2 => by omega)) hQF
  · have d41 := mt (j_lt (a := ((nI ((y0 / 100) % 10)) - 1).toInt) (b := (0)) (rfl) (rfl)).mpr c41
    have g0 : 1 ≤ y0 / 100 % 10 := by rw [dig_i (by omega)] at d41; omega
    rw [dig_e g0]
    obtain ⟨su, wa, pt, ce, pv, gg0, gg1, gg2, hpt, bpv, hfz⟩ := hJz (a * 4 + (y0 / 100 % 10 - 1)) (by omega)
    obtain ⟨P, eP⟩ : ∃ P, P = 13 + 3 * (a * 4 + (y0 / 100 % 10 - 1)) := ⟨_, rfl⟩
    rw [← eP] at gg0 gg1 gg2
    have hvv : ¬ pv = ve := by rw [show pv = 0 from hfz]; omega
    refine aw_aload_n 6 dX8_followChain_44 rfl rfl ?_
    refine aw_iload 5 dX8_followChain_45 rfl ?_
    refine aw_iload 0 dX8_followChain_47 rfl ?_
    refine aw_eV [.int (nI a), .int (nI (y0 / 100 % 10 - 1))] [] lX8_124 vX8_bestJoining mX8_bestJoining dX8_followChain_49 (bJ_n (bv := bv) (P := P) (pv := pv) (su := su) (wa := wa) (pt := pt) (ce := ce) (m := m) (se := se) (ye := ye) (fi := fi) (W := W) (Sn := Sn) (Z := Z) (Ro := Ro) (Co := Co) (Ba := Ba) (nb := nb) (sp := sp) (fa := fa) (ve := ve) (a := a) (b := y0 / 100 % 10 - 1) h0 h1 h2 h3 h4 h5 h6 h7 h8 h9 h10 h11 h12 gg0 gg1 gg2 (by omega) hm hse hfi hye (by omega) (by omega) (by omega) (by omega) (by omega) hpt eP (by omega) (by omega) hvv) h0 rfl rfl rfl (Nat.le_of_ble_eq_true rfl) (by decide) (by decide) rfl (fun h6052 q6051 => ?_)
    obtain ⟨u16038, v16039, ro16040, co16041, rc16042, lk16043, bs16044, wy16045, nw16046, su16047, wa16048, pt16049, ce16050, f6053, f6054, f6055, f6056, f6057, f6058, f6059, f6060, f6061, f6062, k6063, p6064, p6065, p6066, p6067, p6068, p6069⟩ := q6051
    have f6070 := grw_at k6063 (by omega) h1
    have f6071 := grw_at k6063 (by omega) h2
    have f6072 := grw_at k6063 (by omega) h3
    have f6073 := grw_at k6063 (by omega) h4
    have f6074 := grw_at k6063 (by omega) h5
    have f6075 := grw_at k6063 (by omega) h6
    have f6076 := grw_at k6063 (by omega) h7
    have f6077 := grw_at k6063 (by omega) h8
    have f6078 := grw_at k6063 (by omega) h9
    have f6079 := grw_at k6063 (by omega) h10
    have f6080 := grw_at k6063 (by omega) h11
    have f6081 := grw_at k6063 (by omega) h12
    have hJ2 : iJs G jT h6052 := iJs_up (iJs_w hJz (fun _ _ _ _ _ _ _ => trivial)) (k := a * 4 + (y0 / 100 % 10 - 1)) (by omega) eP (fun j q1 q2 q3 => k6063.2 j (by omega) (by omega)) f6060 f6061 f6062 p6068 bve trivial
    have hln := p6069
    refine aw_astore [(11, .ref (G.1 + P)), (10, .int (nI (y0 / 100 % 10 - 1))), (9, .int 100), (8, .int 0), (7, .int 0), (6, .int (nI i)), (5, .int (nI a)), (0, .ref (G.1 + 0)), (1, .int (nI a)), (2, .int (nI i)), (3, .int (nI y0)), (4, .int w)] dX8_followChain_52 (by decide) rfl ?_
    refine aw_aload 0 dX8_followChain_54 rfl ?_
    refine aw_get fX8_131 dX8_followChain_56 f6060 rfl ?_
    refine aw_iload 5 dX8_followChain_59 rfl ?_
    refine aw_iald i (rfl) (by omega) (by decide) dX8_followChain_61 f6061 ?_
    refine aw_istore [(12, .int (pt16049 i)), (11, .ref (G.1 + P)), (10, .int (nI (y0 / 100 % 10 - 1))), (9, .int 100), (8, .int 0), (7, .int 0), (6, .int (nI i)), (5, .int (nI a)), (0, .ref (G.1 + 0)), (1, .int (nI a)), (2, .int (nI i)), (3, .int (nI y0)), (4, .int w)] dX8_followChain_62 (by decide) rfl ?_
    refine aw_iload 0 dX8_followChain_64 rfl ?_
    refine aw_bipush (-9) dX8_followChain_66 (by decide) ?_
    refine aw_icmp_eq 131 dX8_followChain_68 (by decide) (fun c68 => ?_) (fun c68 => ?_)
    · have d68 := (j_eq (a := (pt16049 i).toInt) (b := (-9)) (rfl) (rfl)).mp c68
      refine aw_iload 2 dX8_followChain_131 rfl ?_
      refine aw_istore [(5, .int (nI (y0 / 100 % 10 - 1))), (12, .int (pt16049 i)), (11, .ref (G.1 + P)), (10, .int (nI (y0 / 100 % 10 - 1))), (9, .int 100), (8, .int 0), (7, .int 0), (6, .int (nI i)), (0, .ref (G.1 + 0)), (1, .int (nI a)), (2, .int (nI i)), (3, .int (nI y0)), (4, .int w)] dX8_followChain_133 (by decide) rfl ?_
      refine aw_iload 1 dX8_followChain_135 rfl ?_
      refine aw_istore [(6, .int (pt16049 i)), (5, .int (nI (y0 / 100 % 10 - 1))), (12, .int (pt16049 i)), (11, .ref (G.1 + P)), (10, .int (nI (y0 / 100 % 10 - 1))), (9, .int 100), (8, .int 0), (7, .int 0), (0, .ref (G.1 + 0)), (1, .int (nI a)), (2, .int (nI i)), (3, .int (nI y0)), (4, .int w)] dX8_followChain_137 (by decide) rfl ?_
      refine aw_iload 5 dX8_followChain_139 rfl ?_
      refine aw_bipush (10) dX8_followChain_141 (by decide) ?_
      refine aw_idiv dX8_followChain_143 (by decide) ?_
      refine aw_toe 10 (by decide) ?_
      refine aw_istore [(9, .int 10), (6, .int (pt16049 i)), (5, .int (nI (y0 / 100 % 10 - 1))), (12, .int (pt16049 i)), (11, .ref (G.1 + P)), (10, .int (nI (y0 / 100 % 10 - 1))), (8, .int 0), (7, .int 0), (0, .ref (G.1 + 0)), (1, .int (nI a)), (2, .int (nI i)), (3, .int (nI y0)), (4, .int w)] dX8_followChain_144 (by decide) rfl ?_
      refine aw_goto 16 dX8_followChain_146 (by decide) ?_
      refine aw_lv [(9, .int 10), (8, .int 0), (7, .int 0), (6, .int (pt16049 i)), (5, .int (nI (y0 / 100 % 10 - 1))), (4, .int w), (3, .int (nI y0)), (0, .ref (G.1 + 0))] [0, 6, 7, 1, 2, 12, 11, 8] rfl ?_
      exact fcL (bv := bv) (J := J) (x := 2) (ev := pt16049 i) (fr := y0 / 100 % 10 - 1) (dv := 0) (sv := 0) (u1 := u16038) (v1 := v16039) (ro1 := ro16040) (co1 := co16041) (rc1 := rc16042) (lk1 := lk16043) (bs1 := bs16044) (wy1 := wy16045) (nw1 := nw16046) hl hm hse hfi hye qJ bve g1 by0 (by decide) (p6068 i bi) (by omega) p6064 p6065 p6066 p6067 hJ2 hln f6053 f6070 f6071 f6072 f6073 f6074 f6075 f6076 f6077 f6078 f6079 f6080 f6081 f6054 f6055 f6056 f6057 f6058 f6059 (grw_gg (grw_rf 0 0 13 60 h) k6063 (fun j q1 q2 => by omega)) hQF
    · have d68 := mt (j_eq (a := (pt16049 i).toInt) (b := (-9)) (rfl) (rfl)).mpr c68
      obtain ⟨q2, bq2, eq2⟩ := (p6068 i (by omega)).resolve_left c68
      rw [eq2]
      refine aw_iinc (j := 5) (1) [(7, .int 1), (12, .int (nI q2)), (11, .ref (G.1 + P)), (10, .int (nI (y0 / 100 % 10 - 1))), (9, .int 100), (8, .int 0), (6, .int (nI i)), (5, .int (nI a)), (0, .ref (G.1 + 0)), (1, .int (nI a)), (2, .int (nI i)), (3, .int (nI y0)), (4, .int w)] dX8_followChain_71 rfl (by decide) (by decide) rfl ?_
      refine aw_aload_n 8 dX8_followChain_74 rfl rfl ?_
      refine aw_get fX8_20 dX8_followChain_75 f6053 rfl ?_
      refine aw_iload 7 dX8_followChain_78 rfl ?_
      refine aw_bipush (10) dX8_followChain_80 (by decide) ?_
      refine aw_imul dX8_followChain_82 ?_
      refine aw_toe (nI (a * 10)) (nv_mul (rfl) (rfl)) ?_
      refine aw_iload 6 dX8_followChain_83 rfl ?_
      refine aw_iadd dX8_followChain_85 ?_
      refine aw_toe (nI ((a * 10) + i)) (nv_add (rfl) (rfl)) ?_
      refine aw_iload 3 dX8_followChain_86 rfl ?_
      refine aw_bipush (10) dX8_followChain_88 (by decide) ?_
      refine aw_imul dX8_followChain_90 ?_
      refine aw_toe (nI ((y0 / 100 % 10 - 1) * 10)) (nv_mul (rfl) (rfl)) ?_
      refine aw_iload 1 dX8_followChain_91 rfl ?_
      refine aw_iadd dX8_followChain_93 ?_
      refine aw_toe (nI (((y0 / 100 % 10 - 1) * 10) + q2)) (nv_add (rfl) (rfl)) ?_
      refine aw_dV [.int (nI ((a * 10) + i)), .int (nI (((y0 / 100 % 10 - 1) * 10) + q2))] [] lX8_121 vX1_likeness mX1_likeness dX8_followChain_94 (aX1_likeness (m := m) (se := se) (ye := ye) (fi := fi) (W := W) (Sn := Sn) (Z := Z) (Ro := Ro) (Co := Co) (Ba := Ba) (nb := nb) (sp := sp) (fa := fa) (ve := ve) (e := (a * 10) + i) (f := ((y0 / 100 % 10 - 1) * 10) + q2) f6070 f6071 f6072 f6073 f6074 f6075 f6076 f6077 f6078 f6079 f6080 hm hse hfi hye (by omega) (by omega)) f6070 rfl rfl rfl (Nat.le_of_ble_eq_true rfl) (by decide) (by decide) rfl ?_
      refine aw_istore [(13, .int (likeC ye Sn Z Ro Co Ba sp fa ((a * 10) + i) (((y0 / 100 % 10 - 1) * 10) + q2))), (7, .int 1), (12, .int (nI q2)), (11, .ref (G.1 + P)), (10, .int (nI (y0 / 100 % 10 - 1))), (9, .int 100), (8, .int 0), (6, .int (nI i)), (5, .int (nI a)), (0, .ref (G.1 + 0)), (1, .int (nI a)), (2, .int (nI i)), (3, .int (nI y0)), (4, .int w)] dX8_followChain_97 (by decide) rfl ?_
      refine aw_iload 6 dX8_followChain_99 rfl ?_
      refine aw_iconst (0) dX8_followChain_101 (by decide) ?_
      refine aw_bipush (100) dX8_followChain_102 (by decide) ?_
      refine aw_iload 0 dX8_followChain_104 rfl ?_
      refine aw_isub dX8_followChain_106 ?_
      refine aw_mmax lX8_251 dX8_followChain_107 (Nat.le_of_ble_eq_true rfl) (by decide) (by decide) ?_
      refine aw_aload 3 dX8_followChain_110 rfl ?_
      refine aw_get fX8_137 dX8_followChain_112 f6060 rfl ?_
      refine aw_iload 7 dX8_followChain_115 rfl ?_
      refine aw_zald i (rfl) (by omega) (by decide) dX8_followChain_117 f6062 ?_
      refine aw_if_eq 125 dX8_followChain_118 (by decide) (fun c118 => ?_) (fun c118 => ?_)
      · have d118 := (j_eq (a := (ce16050 i).toInt) (b := (0)) (rfl) (rfl)).mp c118
        refine aw_bipush (50) dX8_followChain_125 (by decide) ?_
        refine aw_iadd dX8_followChain_127 ?_
        refine aw_iadd dX8_followChain_128 ?_
        refine aw_istore [(8, .int (0 + ((if 0 < (100 - (likeC ye Sn Z Ro Co Ba sp fa ((a * 10) + i) (((y0 / 100 % 10 - 1) * 10) + q2))) then (100 - (likeC ye Sn Z Ro Co Ba sp fa ((a * 10) + i) (((y0 / 100 % 10 - 1) * 10) + q2))) else 0) + 50))), (13, .int (likeC ye Sn Z Ro Co Ba sp fa ((a * 10) + i) (((y0 / 100 % 10 - 1) * 10) + q2))), (7, .int 1), (12, .int (nI q2)), (11, .ref (G.1 + P)), (10, .int (nI (y0 / 100 % 10 - 1))), (9, .int 100), (6, .int (nI i)), (5, .int (nI a)), (0, .ref (G.1 + 0)), (1, .int (nI a)), (2, .int (nI i)), (3, .int (nI y0)), (4, .int w)] dX8_followChain_129 (by decide) rfl ?_
        refine aw_iload 5 dX8_followChain_131 rfl ?_
        refine aw_istore [(5, .int (nI (y0 / 100 % 10 - 1))), (8, .int (0 + ((if 0 < (100 - (likeC ye Sn Z Ro Co Ba sp fa ((a * 10) + i) (((y0 / 100 % 10 - 1) * 10) + q2))) then (100 - (likeC ye Sn Z Ro Co Ba sp fa ((a * 10) + i) (((y0 / 100 % 10 - 1) * 10) + q2))) else 0) + 50))), (13, .int (likeC ye Sn Z Ro Co Ba sp fa ((a * 10) + i) (((y0 / 100 % 10 - 1) * 10) + q2))), (7, .int 1), (12, .int (nI q2)), (11, .ref (G.1 + P)), (10, .int (nI (y0 / 100 % 10 - 1))), (9, .int 100), (6, .int (nI i)), (0, .ref (G.1 + 0)), (1, .int (nI a)), (2, .int (nI i)), (3, .int (nI y0)), (4, .int w)] dX8_followChain_133 (by decide) rfl ?_
        refine aw_iload 4 dX8_followChain_135 rfl ?_
        refine aw_istore [(6, .int (nI q2)), (5, .int (nI (y0 / 100 % 10 - 1))), (8, .int (0 + ((if 0 < (100 - (likeC ye Sn Z Ro Co Ba sp fa ((a * 10) + i) (((y0 / 100 % 10 - 1) * 10) + q2))) then (100 - (likeC ye Sn Z Ro Co Ba sp fa ((a * 10) + i) (((y0 / 100 % 10 - 1) * 10) + q2))) else 0) + 50))), (13, .int (likeC ye Sn Z Ro Co Ba sp fa ((a * 10) + i) (((y0 / 100 % 10 - 1) * 10) + q2))), (7, .int 1), (12, .int (nI q2)), (11, .ref (G.1 + P)), (10, .int (nI (y0 / 100 % 10 - 1))), (9, .int 100), (0, .ref (G.1 + 0)), (1, .int (nI a)), (2, .int (nI i)), (3, .int (nI y0)), (4, .int w)] dX8_followChain_137 (by decide) rfl ?_
        refine aw_iload 8 dX8_followChain_139 rfl ?_
        refine aw_bipush (10) dX8_followChain_141 (by decide) ?_
        refine aw_idiv dX8_followChain_143 (by decide) ?_
        refine aw_toe 10 (by decide) ?_
        refine aw_istore [(9, .int 10), (6, .int (nI q2)), (5, .int (nI (y0 / 100 % 10 - 1))), (8, .int (0 + ((if 0 < (100 - (likeC ye Sn Z Ro Co Ba sp fa ((a * 10) + i) (((y0 / 100 % 10 - 1) * 10) + q2))) then (100 - (likeC ye Sn Z Ro Co Ba sp fa ((a * 10) + i) (((y0 / 100 % 10 - 1) * 10) + q2))) else 0) + 50))), (13, .int (likeC ye Sn Z Ro Co Ba sp fa ((a * 10) + i) (((y0 / 100 % 10 - 1) * 10) + q2))), (7, .int 1), (12, .int (nI q2)), (11, .ref (G.1 + P)), (10, .int (nI (y0 / 100 % 10 - 1))), (0, .ref (G.1 + 0)), (1, .int (nI a)), (2, .int (nI i)), (3, .int (nI y0)), (4, .int w)] dX8_followChain_144 (by decide) rfl ?_
        refine aw_goto 16 dX8_followChain_146 (by decide) ?_
        refine aw_lv [(9, .int 10), (8, .int (0 + ((if 0 < (100 - (likeC ye Sn Z Ro Co Ba sp fa ((a * 10) + i) (((y0 / 100 % 10 - 1) * 10) + q2))) then (100 - (likeC ye Sn Z Ro Co Ba sp fa ((a * 10) + i) (((y0 / 100 % 10 - 1) * 10) + q2))) else 0) + 50))), (7, .int 1), (6, .int (nI q2)), (5, .int (nI (y0 / 100 % 10 - 1))), (4, .int w), (3, .int (nI y0)), (0, .ref (G.1 + 0))] [0, 3, 5, 1, 2, 13, 12, 9] rfl ?_
        exact fcL (bv := bv) (J := J) (x := 2) (ev := (nI q2)) (fr := y0 / 100 % 10 - 1) (dv := 0 + ((if 0 < (100 - (likeC ye Sn Z Ro Co Ba sp fa ((a * 10) + i) (((y0 / 100 % 10 - 1) * 10) + q2))) then (100 - (likeC ye Sn Z Ro Co Ba sp fa ((a * 10) + i) (((y0 / 100 % 10 - 1) * 10) + q2))) else 0) + 50)) (sv := 1) (u1 := u16038) (v1 := v16039) (ro1 := ro16040) (co1 := co16041) (rc1 := rc16042) (lk1 := lk16043) (bs1 := bs16044) (wy1 := wy16045) (nw1 := nw16046) hl hm hse hfi hye qJ bve g1 by0 (by decide) (Or.inr ⟨_, bq2, rfl⟩) (by omega) p6064 p6065 p6066 p6067 hJ2 hln f6053 f6070 f6071 f6072 f6073 f6074 f6075 f6076 f6077 f6078 f6079 f6080 f6081 f6054 f6055 f6056 f6057 f6058 f6059 (grw_gg (grw_rf 0 0 13 60 h) k6063 (fun j q1 q2 => by omega)) hQF
      · have d118 := mt (j_eq (a := (ce16050 i).toInt) (b := (0)) (rfl) (rfl)).mpr c118
        refine aw_iconst (0) dX8_followChain_121 (by decide) ?_
        refine aw_goto 127 dX8_followChain_122 (by decide) ?_
        refine aw_iadd dX8_followChain_127 ?_
        refine aw_iadd dX8_followChain_128 ?_
        refine aw_istore [(8, .int (0 + ((if 0 < (100 - (likeC ye Sn Z Ro Co Ba sp fa ((a * 10) + i) (((y0 / 100 % 10 - 1) * 10) + q2))) then (100 - (likeC ye Sn Z Ro Co Ba sp fa ((a * 10) + i) (((y0 / 100 % 10 - 1) * 10) + q2))) else 0) + 0))), (13, .int (likeC ye Sn Z Ro Co Ba sp fa ((a * 10) + i) (((y0 / 100 % 10 - 1) * 10) + q2))), (7, .int 1), (12, .int (nI q2)), (11, .ref (G.1 + P)), (10, .int (nI (y0 / 100 % 10 - 1))), (9, .int 100), (6, .int (nI i)), (5, .int (nI a)), (0, .ref (G.1 + 0)), (1, .int (nI a)), (2, .int (nI i)), (3, .int (nI y0)), (4, .int w)] dX8_followChain_129 (by decide) rfl ?_
        refine aw_iload 5 dX8_followChain_131 rfl ?_
        refine aw_istore [(5, .int (nI (y0 / 100 % 10 - 1))), (8, .int (0 + ((if 0 < (100 - (likeC ye Sn Z Ro Co Ba sp fa ((a * 10) + i) (((y0 / 100 % 10 - 1) * 10) + q2))) then (100 - (likeC ye Sn Z Ro Co Ba sp fa ((a * 10) + i) (((y0 / 100 % 10 - 1) * 10) + q2))) else 0) + 0))), (13, .int (likeC ye Sn Z Ro Co Ba sp fa ((a * 10) + i) (((y0 / 100 % 10 - 1) * 10) + q2))), (7, .int 1), (12, .int (nI q2)), (11, .ref (G.1 + P)), (10, .int (nI (y0 / 100 % 10 - 1))), (9, .int 100), (6, .int (nI i)), (0, .ref (G.1 + 0)), (1, .int (nI a)), (2, .int (nI i)), (3, .int (nI y0)), (4, .int w)] dX8_followChain_133 (by decide) rfl ?_
        refine aw_iload 4 dX8_followChain_135 rfl ?_
        refine aw_istore [(6, .int (nI q2)), (5, .int (nI (y0 / 100 % 10 - 1))), (8, .int (0 + ((if 0 < (100 - (likeC ye Sn Z Ro Co Ba sp fa ((a * 10) + i) (((y0 / 100 % 10 - 1) * 10) + q2))) then (100 - (likeC ye Sn Z Ro Co Ba sp fa ((a * 10) + i) (((y0 / 100 % 10 - 1) * 10) + q2))) else 0) + 0))), (13, .int (likeC ye Sn Z Ro Co Ba sp fa ((a * 10) + i) (((y0 / 100 % 10 - 1) * 10) + q2))), (7, .int 1), (12, .int (nI q2)), (11, .ref (G.1 + P)), (10, .int (nI (y0 / 100 % 10 - 1))), (9, .int 100), (0, .ref (G.1 + 0)), (1, .int (nI a)), (2, .int (nI i)), (3, .int (nI y0)), (4, .int w)] dX8_followChain_137 (by decide) rfl ?_
        refine aw_iload 8 dX8_followChain_139 rfl ?_
        refine aw_bipush (10) dX8_followChain_141 (by decide) ?_
        refine aw_idiv dX8_followChain_143 (by decide) ?_
        refine aw_toe 10 (by decide) ?_
        refine aw_istore [(9, .int 10), (6, .int (nI q2)), (5, .int (nI (y0 / 100 % 10 - 1))), (8, .int (0 + ((if 0 < (100 - (likeC ye Sn Z Ro Co Ba sp fa ((a * 10) + i) (((y0 / 100 % 10 - 1) * 10) + q2))) then (100 - (likeC ye Sn Z Ro Co Ba sp fa ((a * 10) + i) (((y0 / 100 % 10 - 1) * 10) + q2))) else 0) + 0))), (13, .int (likeC ye Sn Z Ro Co Ba sp fa ((a * 10) + i) (((y0 / 100 % 10 - 1) * 10) + q2))), (7, .int 1), (12, .int (nI q2)), (11, .ref (G.1 + P)), (10, .int (nI (y0 / 100 % 10 - 1))), (0, .ref (G.1 + 0)), (1, .int (nI a)), (2, .int (nI i)), (3, .int (nI y0)), (4, .int w)] dX8_followChain_144 (by decide) rfl ?_
        refine aw_goto 16 dX8_followChain_146 (by decide) ?_
        refine aw_lv [(9, .int 10), (8, .int (0 + ((if 0 < (100 - (likeC ye Sn Z Ro Co Ba sp fa ((a * 10) + i) (((y0 / 100 % 10 - 1) * 10) + q2))) then (100 - (likeC ye Sn Z Ro Co Ba sp fa ((a * 10) + i) (((y0 / 100 % 10 - 1) * 10) + q2))) else 0) + 0))), (7, .int 1), (6, .int (nI q2)), (5, .int (nI (y0 / 100 % 10 - 1))), (4, .int w), (3, .int (nI y0)), (0, .ref (G.1 + 0))] [0, 3, 5, 1, 2, 13, 12, 9] rfl ?_
        exact fcL (bv := bv) (J := J) (x := 2) (ev := (nI q2)) (fr := y0 / 100 % 10 - 1) (dv := 0 + ((if 0 < (100 - (likeC ye Sn Z Ro Co Ba sp fa ((a * 10) + i) (((y0 / 100 % 10 - 1) * 10) + q2))) then (100 - (likeC ye Sn Z Ro Co Ba sp fa ((a * 10) + i) (((y0 / 100 % 10 - 1) * 10) + q2))) else 0) + 0)) (sv := 1) (u1 := u16038) (v1 := v16039) (ro1 := ro16040) (co1 := co16041) (rc1 := rc16042) (lk1 := lk16043) (bs1 := bs16044) (wy1 := wy16045) (nw1 := nw16046) hl hm hse hfi hye qJ bve g1 by0 (by decide) (Or.inr ⟨_, bq2, rfl⟩) (by omega) p6064 p6065 p6066 p6067 hJ2 hln f6053 f6070 f6071 f6072 f6073 f6074 f6075 f6076 f6077 f6078 f6079 f6080 f6081 f6054 f6055 f6056 f6057 f6058 f6059 (grw_gg (grw_rf 0 0 13 60 h) k6063 (fun j q1 q2 => by omega)) hQF
