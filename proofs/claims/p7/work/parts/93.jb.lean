set_option maxHeartbeats 4000000 in
theorem bJ_m {l : Launch} {G : xG} {h : List va_E} {bv : Value} {J u v ro co : Nat} {rc : Nat → Nat} {lk bs wy nw : Nat → Int32} {P pv : Nat} {su wa : Int32} {pt ce : Nat → Int32} {m se ye fi : Nat → Nat} {W Sn Z Ro Co : Nat → Int32} {Ba : Nat → Int64} {nb sp fa ve : Nat} {lx : Nat → Nat → Nat} {a b : Nat} (h0 : h[0]? = some (oB 8 (lX G (.ref (G.1 + J)) (bv)))) (h1 : h[1]? = some (oB 1 (lC G (nI nb) (nI sp) (nI fa) (nI ve)))) (h2 : h[2]? = some (aI 20 (nA m))) (h3 : h[3]? = some (aI 20 (nA se))) (h4 : h[4]? = some (aI 4 (nA ye))) (h5 : h[5]? = some (aI 4 (nA fi))) (h6 : h[6]? = some (aI 40 W)) (h7 : h[7]? = some (aI 40 Sn)) (h8 : h[8]? = some (aI 40 Z)) (h9 : h[9]? = some (aI 40 Ro)) (h10 : h[10]? = some (aI 40 Co)) (h11 : h[11]? = some (aL 40 Ba)) (h12 : h[12]? = some (aR 16 (xjo G.1 16))) (hJ : h[J]? = some (oB 3 (lJ G J (.ref (G.1 + u)) (.ref (G.1 + v)) (nI ro) (nI co)))) (hJ_1 : h[J + 1]? = some (aI 100 lk)) (hJ_2 : h[J + 2]? = some (aI 11 (nA rc))) (hJ_3 : h[J + 3]? = some (aI 11264 bs)) (hu : h[u]? = some (aI 1024 wy)) (hv : h[v]? = some (aI 1024 nw)) (hP : h[P]? = some (oB 4 (lG G P su wa (nI pv)))) (hP_1 : h[P + 1]? = some (aI 10 pt)) (hP_2 : h[P + 2]? = some (aZ 10 ce)) (qu : J + 4 ≤ u ∧ u ≤ J + 5) (qv : J + 4 ≤ v ∧ v ≤ J + 5) (quv : (u ≠ v ∧ wZ wy nw)) (hrc : ∀ j, j < 11 → rc j < 1024) (qP : P + 2 < J) (hm : ∀ j, j < 20 → m j ≤ j) (hse : ∀ j, j < 20 → se j < 20) (hfi : ∀ j, j < 4 → fi j < 11) (hye : ∀ j, j < 4 → ye j < 1901) (ba : a < 4) (bb : b < 4) (qJ : 125 ≤ J) (qP1 : 12 < P) (hpt : pB pt) (eP : P = 13 + 3 * (a * 4 + b)) (hlx : ∀ i, i < fi a → ∀ k, k < fi b → likeC ye Sn Z Ro Co Ba sp fa (a * 10 + i) (b * 10 + k) = nI (lx i k)) (hlx3 : ∀ i k, lx i k ≤ 300) (bpv : pv ≤ 600) (bve : ve ≤ 600) (hvv : ¬ pv = ve) : CE l G yX8_bestJoining cX8_bestJoining 4 (some (.object RX4)) 5 0 0 [.ref (G.1 + 0), .int (nI a), .int (nI b)] h (some (.ref (G.1 + P))) (fun h1 => ∃ u1 : Nat, ∃ v1 : Nat, ∃ ro1 : Nat, ∃ co1 : Nat, ∃ rc1 : Nat → Nat, ∃ lk1 : Nat → Int32, ∃ bs1 : Nat → Int32, ∃ wy1 : Nat → Int32, ∃ nw1 : Nat → Int32, ∃ su1 : Int32, ∃ wa1 : Int32, ∃ pt1 : Nat → Int32, ∃ ce1 : Nat → Int32, h1[J]? = some (oB 3 (lJ G J (.ref (G.1 + u1)) (.ref (G.1 + v1)) (nI ro1) (nI co1))) ∧ h1[J + 1]? = some (aI 100 lk1) ∧ h1[J + 2]? = some (aI 11 (nA rc1)) ∧ h1[J + 3]? = some (aI 11264 bs1) ∧ h1[u1]? = some (aI 1024 wy1) ∧ h1[v1]? = some (aI 1024 nw1) ∧ h1[P]? = some (oB 4 (lG G P su1 wa1 (nI ve))) ∧ h1[P + 1]? = some (aI 10 pt1) ∧ h1[P + 2]? = some (aZ 10 ce1) ∧ rg2 P (P + 2) J (J + 5) h h1 ∧ (J + 4 ≤ u1 ∧ u1 ≤ J + 5) ∧ (J + 4 ≤ v1 ∧ v1 ≤ J + 5) ∧ (u1 ≠ v1 ∧ wZ wy1 nw1) ∧ (∀ j, j < 11 → rc1 j < 1024) ∧ pB pt1 ∧ jK lx (fi a) (fi b) su1 wa1 pt1 ce1) := by
  refine cm_ofQ rfl (Nat.le_of_ble_eq_true rfl) [(0, .ref (G.1 + 0)), (1, .int (nI a)), (2, .int (nI b))] rfl (fun QF hQF => ?_)
  refine aw_aload_n 0 dX8_bestJoining_0 rfl rfl ?_
  refine aw_get fX8_26 dX8_bestJoining_1 h0 rfl ?_
  refine aw_iload_n 1 dX8_bestJoining_4 rfl rfl ?_
  refine aw_iconst (4) dX8_bestJoining_5 (by decide) ?_
  refine aw_imul dX8_bestJoining_6 ?_
  refine aw_toe (nI (a * 4)) (nv_mul (rfl) (rfl)) ?_
  refine aw_iload_n 2 dX8_bestJoining_7 rfl rfl ?_
  refine aw_iadd dX8_bestJoining_8 ?_
  refine aw_toe (nI ((a * 4) + b)) (nv_add (rfl) (rfl)) ?_
  refine aw_aald ((a * 4) + b) (rfl) (by omega) (by decide) dX8_bestJoining_9 h12 ?_
  rw [xj_P eP (by omega)]
  refine aw_astore_n [(3, .ref (G.1 + P)), (0, .ref (G.1 + 0)), (1, .int (nI a)), (2, .int (nI b))] dX8_bestJoining_10 rfl (by decide) rfl ?_
  refine aw_aload_n 0 dX8_bestJoining_11 rfl rfl ?_
  refine aw_get fX8_256 dX8_bestJoining_12 hP rfl ?_
  refine aw_aload_n 1 dX8_bestJoining_15 rfl rfl ?_
  refine aw_get fX8_20 dX8_bestJoining_16 h0 rfl ?_
  refine aw_get fX8_259 dX8_bestJoining_19 h1 rfl ?_
  refine aw_icmp_eq 68 dX8_bestJoining_22 (by decide) (fun c22 => absurd c22 (fun e => hvv ((nv_eq (a := pv) (b := ve) rfl rfl (by omega) (by omega)).mp e))) (fun c22 => ?_)
  refine aw_aload_n 1 dX8_bestJoining_25 rfl rfl ?_
  refine aw_get fX8_9 dX8_bestJoining_26 h0 rfl ?_
  refine aw_nonnull 43 dX8_bestJoining_29 (by decide) ?_
  refine aw_aload_n 1 dX8_bestJoining_43 rfl rfl ?_
  refine aw_get fX8_9 dX8_bestJoining_44 h0 rfl ?_
  refine aw_aload_n 1 dX8_bestJoining_47 rfl rfl ?_
  refine aw_get fX8_20 dX8_bestJoining_48 h0 rfl ?_
  refine aw_iload_n 2 dX8_bestJoining_51 rfl rfl ?_
  refine aw_iload_n 3 dX8_bestJoining_52 rfl rfl ?_
  refine aw_aload_n 0 dX8_bestJoining_53 rfl rfl ?_
  refine aw_eW [.ref (G.1 + 1), .int (nI a), .int (nI b), .ref (G.1 + P)] [] lX8_263 vX3_solve mX3_solve dX8_bestJoining_54 (aX3_solve (J := J) (u := u) (v := v) (ro := ro) (co := co) (rc := rc) (lk := lk) (bs := bs) (wy := wy) (nw := nw) (P := P) (pv := pv) (su := su) (wa := wa) (pt := pt) (ce := ce) (m := m) (se := se) (ye := ye) (fi := fi) (W := W) (Sn := Sn) (Z := Z) (Ro := Ro) (Co := Co) (Ba := Ba) (nb := nb) (sp := sp) (fa := fa) (ve := ve) (a := a) (b := b) hJ hJ_1 hJ_2 hJ_3 hu hv hP hP_1 hP_2 h1 h2 h3 h4 h5 h6 h7 h8 h9 h10 h11 (by omega) (by omega) quv hrc (by omega) hm hse hfi hye (by omega) (by omega) (by omega) (by omega) (by omega) hlx hlx3) hJ rfl rfl rfl (Nat.le_of_ble_eq_true rfl) (by decide) (by decide) rfl (fun h4229 q4228 => ?_)
  obtain ⟨u14215, v14216, ro14217, co14218, rc14219, lk14220, bs14221, wy14222, nw14223, su14224, wa14225, pt14226, ce14227, f4230, f4231, f4232, f4233, f4234, f4235, f4236, f4237, f4238, k4239, p4240, p4241, p4242, p4243, p4244, p4245⟩ := q4228
  have f4246 := rg2_at k4239 (by omega) h0
  have f4247 := rg2_at k4239 (by omega) h1
  have f4248 := rg2_at k4239 (by omega) h2
  have f4249 := rg2_at k4239 (by omega) h3
  have f4250 := rg2_at k4239 (by omega) h4
  have f4251 := rg2_at k4239 (by omega) h5
  have f4252 := rg2_at k4239 (by omega) h6
  have f4253 := rg2_at k4239 (by omega) h7
  have f4254 := rg2_at k4239 (by omega) h8
  have f4255 := rg2_at k4239 (by omega) h9
  have f4256 := rg2_at k4239 (by omega) h10
  have f4257 := rg2_at k4239 (by omega) h11
  have f4258 := rg2_at k4239 (by omega) h12
  refine aw_aload_n 0 dX8_bestJoining_57 rfl rfl ?_
  refine aw_aload_n 1 dX8_bestJoining_58 rfl rfl ?_
  refine aw_get fX8_20 dX8_bestJoining_59 f4246 rfl ?_
  refine aw_get fX8_259 dX8_bestJoining_62 f4247 rfl ?_
  refine aw_putQ fX8_256 dX8_bestJoining_65 (lG G P su14224 wa14225 (nI ve)) f4236 rfl rfl rfl (Nat.le_of_ble_eq_true rfl) rfl ?_
  refine aw_aload_n 0 dX8_bestJoining_68 rfl rfl ?_
  subst hQF
  exact aw_aret rfl dX8_bestJoining_69 (by decide) (by decide) ⟨rfl, _, _, _, _, _, _, _, _, _, _, _, _, _, (gn (by omega) (f4230)), (gn (by omega) (f4231)), (gn (by omega) (f4232)), (gn (by omega) (f4233)), (gn (by omega) (f4234)), (gn (by omega) (f4235)), (gs f4236), (gn (by omega) (f4237)), (gn (by omega) (f4238)), rg2_set (rg2_tr (rg2_rf P (P + 2) J (J + 5) h) (rg2_w2 k4239 (by omega) (by omega))) (by omega), p4240, p4241, p4242, p4243, p4244, p4245⟩
