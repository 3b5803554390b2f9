set_option maxHeartbeats 4000000 in
theorem aX3_solve {l : Launch} {G : xG} {h : List va_E} {J u v ro co : Nat} {rc : Nat → Nat} {lk bs wy nw : Nat → Int32} {P pv : Nat} {su wa : Int32} {pt ce : Nat → Int32} {m se ye fi : Nat → Nat} {W Sn Z Ro Co : Nat → Int32} {Ba : Nat → Int64} {nb sp fa ve : Nat} {lx : Nat → Nat → Nat} {a b : Nat} (hJ : h[J]? = some (oB 3 (lJ G J (.ref (G.1 + u)) (.ref (G.1 + v)) (nI ro) (nI co)))) (hJ_1 : h[J + 1]? = some (aI 100 lk)) (hJ_2 : h[J + 2]? = some (aI 11 (nA rc))) (hJ_3 : h[J + 3]? = some (aI 11264 bs)) (hu : h[u]? = some (aI 1024 wy)) (hv : h[v]? = some (aI 1024 nw)) (hP : h[P]? = some (oB 4 (lG G P su wa (nI pv)))) (hP_1 : h[P + 1]? = some (aI 10 pt)) (hP_2 : h[P + 2]? = some (aZ 10 ce)) (h1 : h[1]? = some (oB 1 (lC G (nI nb) (nI sp) (nI fa) (nI ve)))) (h2 : h[2]? = some (aI 20 (nA m))) (h3 : h[3]? = some (aI 20 (nA se))) (h4 : h[4]? = some (aI 4 (nA ye))) (h5 : h[5]? = some (aI 4 (nA fi))) (h6 : h[6]? = some (aI 40 W)) (h7 : h[7]? = some (aI 40 Sn)) (h8 : h[8]? = some (aI 40 Z)) (h9 : h[9]? = some (aI 40 Ro)) (h10 : h[10]? = some (aI 40 Co)) (h11 : h[11]? = some (aL 40 Ba)) (qu : J + 4 ≤ u ∧ u ≤ J + 5) (qv : J + 4 ≤ v ∧ v ≤ J + 5) (quv : (u ≠ v ∧ wZ wy nw)) (hrc : ∀ j, j < 11 → rc j < 1024) (qP : P + 2 < J) (hm : ∀ j, j < 20 → m j ≤ j) (hse : ∀ j, j < 20 → se j < 20) (hfi : ∀ j, j < 4 → fi j < 11) (hye : ∀ j, j < 4 → ye j < 1901) (ba : a < 4) (bb : b < 4) (qJ : 125 ≤ J) (qP1 : 12 < P) (hpt : pB pt) (hlx : ∀ i, i < fi a → ∀ k, k < fi b → likeC ye Sn Z Ro Co Ba sp fa (a * 10 + i) (b * 10 + k) = nI (lx i k)) (hlx3 : ∀ i k, lx i k ≤ 300) : CE l G yX3_solve cX3_solve 5 none 4 0 0 [.ref (G.1 + J), .ref (G.1 + 1), .int (nI a), .int (nI b), .ref (G.1 + P)] h none (fun h1 => ∃ u1 : Nat, ∃ v1 : Nat, ∃ ro1 : Nat, ∃ co1 : Nat, ∃ rc1 : Nat → Nat, ∃ lk1 : Nat → Int32, ∃ bs1 : Nat → Int32, ∃ wy1 : Nat → Int32, ∃ nw1 : Nat → Int32, ∃ su1 : Int32, ∃ wa1 : Int32, ∃ pt1 : Nat → Int32, ∃ ce1 : Nat → Int32, h1[J]? = some (oB 3 (lJ G J (.ref (G.1 + u1)) (.ref (G.1 + v1)) (nI ro1) (nI co1))) ∧ h1[J + 1]? = some (aI 100 lk1) ∧ h1[J + 2]? = some (aI 11 (nA rc1)) ∧ h1[J + 3]? = some (aI 11264 bs1) ∧ h1[u1]? = some (aI 1024 wy1) ∧ h1[v1]? = some (aI 1024 nw1) ∧ h1[P]? = some (oB 4 (lG G P su1 wa1 (nI pv))) ∧ h1[P + 1]? = some (aI 10 pt1) ∧ h1[P + 2]? = some (aZ 10 ce1) ∧ rg2 P (P + 2) J (J + 5) h h1 ∧ (J + 4 ≤ u1 ∧ u1 ≤ J + 5) ∧ (J + 4 ≤ v1 ∧ v1 ≤ J + 5) ∧ (u1 ≠ v1 ∧ wZ wy1 nw1) ∧ (∀ j, j < 11 → rc1 j < 1024) ∧ pB pt1 ∧ jK lx (fi a) (fi b) su1 wa1 pt1 ce1) := by
  refine cm_ofQ rfl (Nat.le_of_ble_eq_true rfl) [(0, .ref (G.1 + J)), (1, .ref (G.1 + 1)), (2, .int (nI a)), (3, .int (nI b)), (4, .ref (G.1 + P))] rfl (fun QF hQF => ?_)
  refine aw_aload_n 0 dX3_solve_0 rfl rfl ?_
  refine aw_aload_n 1 dX3_solve_1 rfl rfl ?_
  refine aw_get fX3_34 dX3_solve_2 h1 rfl ?_
  refine aw_iload_n 2 dX3_solve_5 rfl rfl ?_
  refine aw_iald a (rfl) (by omega) (by decide) dX3_solve_6 h5 ?_
  refine aw_toe (nI (fi a)) (rfl) ?_
  have b206 := hfi a (by omega)
  refine aw_putQ fX3_27 dX3_solve_7 (lJ G J (.ref (G.1 + u)) (.ref (G.1 + v)) (nI (fi a)) (nI co)) hJ rfl rfl rfl (Nat.le_of_ble_eq_true rfl) rfl ?_
  refine aw_aload_n 0 dX3_solve_10 rfl rfl ?_
  refine aw_aload_n 1 dX3_solve_11 rfl rfl ?_
  refine aw_get fX3_34 dX3_solve_12 (gn (by omega) (h1)) rfl ?_
  refine aw_iload_n 3 dX3_solve_15 rfl rfl ?_
  refine aw_iald b (rfl) (by omega) (by decide) dX3_solve_16 (gn (by omega) (h5)) ?_
  refine aw_toe (nI (fi b)) (rfl) ?_
  have b207 := hfi b (by omega)
  refine aw_putQ fX3_31 dX3_solve_17 (lJ G J (.ref (G.1 + u)) (.ref (G.1 + v)) (nI (fi a)) (nI (fi b))) (gs hJ) rfl rfl rfl (Nat.le_of_ble_eq_true rfl) rfl ?_
  refine aw_aload_n 0 dX3_solve_20 rfl rfl ?_
  refine aw_aload_n 1 dX3_solve_21 rfl rfl ?_
  refine aw_iload_n 2 dX3_solve_22 rfl rfl ?_
  refine aw_iload_n 3 dX3_solve_23 rfl rfl ?_
  refine aw_eW [.ref (G.1 + 1), .int (nI a), .int (nI b)] [] lX3_39 vX3_readLikes mX3_readLikes dX3_solve_24 (aX3_readLikes (J := J) (u := u) (v := v) (ro := fi a) (co := fi b) (rc := rc) (lk := lk) (bs := bs) (wy := wy) (nw := nw) (m := m) (se := se) (ye := ye) (fi := fi) (W := W) (Sn := Sn) (Z := Z) (Ro := Ro) (Co := Co) (Ba := Ba) (nb := nb) (sp := sp) (fa := fa) (ve := ve) (a := a) (b := b) (gs (gs hJ)) (gn (by omega) (gn (by omega) (hJ_1))) (gn (by omega) (gn (by omega) (hJ_2))) (gn (by omega) (gn (by omega) (hJ_3))) (gn (by omega) (gn (by omega) (hu))) (gn (by omega) (gn (by omega) (hv))) (gn (by omega) (gn (by omega) (h1))) (gn (by omega) (gn (by omega) (h2))) (gn (by omega) (gn (by omega) (h3))) (gn (by omega) (gn (by omega) (h4))) (gn (by omega) (gn (by omega) (h5))) (gn (by omega) (gn (by omega) (h6))) (gn (by omega) (gn (by omega) (h7))) (gn (by omega) (gn (by omega) (h8))) (gn (by omega) (gn (by omega) (h9))) (gn (by omega) (gn (by omega) (h10))) (gn (by omega) (gn (by omega) (h11))) (by omega) (by omega) (by omega) (by omega) (by omega) hrc hm hse hfi hye (by omega) (by omega) (by omega) hlx hlx3) (gs (gs hJ)) rfl rfl rfl (Nat.le_of_ble_eq_true rfl) (by decide) (by decide) rfl (fun h211 q210 => ?_)
  obtain ⟨lk1208, rc1209, f212, f213, f214, f215, f216, f217, k218, p219, p220, p221⟩ := q210
  have f222 := rng_at k218 (by omega) (gn (by omega) (gn (by omega) (hP)))
  have f223 := rng_at k218 (by omega) (gn (by omega) (gn (by omega) (hP_1)))
  have f224 := rng_at k218 (by omega) (gn (by omega) (gn (by omega) (hP_2)))
  have f225 := rng_at k218 (by omega) (gn (by omega) (gn (by omega) (h1)))
  have f226 := rng_at k218 (by omega) (gn (by omega) (gn (by omega) (h2)))
  have f227 := rng_at k218 (by omega) (gn (by omega) (gn (by omega) (h3)))
  have f228 := rng_at k218 (by omega) (gn (by omega) (gn (by omega) (h4)))
  have f229 := rng_at k218 (by omega) (gn (by omega) (gn (by omega) (h5)))
  have f230 := rng_at k218 (by omega) (gn (by omega) (gn (by omega) (h6)))
  have f231 := rng_at k218 (by omega) (gn (by omega) (gn (by omega) (h7)))
  have f232 := rng_at k218 (by omega) (gn (by omega) (gn (by omega) (h8)))
  have f233 := rng_at k218 (by omega) (gn (by omega) (gn (by omega) (h9)))
  have f234 := rng_at k218 (by omega) (gn (by omega) (gn (by omega) (h10)))
  have f235 := rng_at k218 (by omega) (gn (by omega) (gn (by omega) (h11)))
  clear hrc
  have hrc := p219
  have hL := p220
  have hR := p221
  refine aw_aload_n 0 dX3_solve_27 rfl rfl ?_
  refine aw_eW [] [] lX3_43 vX3_weighStates mX3_weighStates dX3_solve_28 (aX3_weighStates (J := J) (u := u) (v := v) (ro := (fi a)) (co := (fi b)) (rc := rc1209) (lk := lk1208) (bs := bs) (wy := wy) (nw := nw) f212 f213 f214 f215 f216 f217 (by omega) (by omega) (by omega) (by omega) (by omega) hrc hL hR hlx3) f212 rfl rfl rfl (Nat.le_of_ble_eq_true rfl) (by decide) (by decide) rfl (fun h238 q237 => ?_)
  obtain ⟨bs1236, f239, f240, f241, f242, f243, f244, k245, p246⟩ := q237
  have f247 := rng_at k245 (by omega) f222
  have f248 := rng_at k245 (by omega) f223
  have f249 := rng_at k245 (by omega) f224
  have f250 := rng_at k245 (by omega) f225
  have f251 := rng_at k245 (by omega) f226
  have f252 := rng_at k245 (by omega) f227
  have f253 := rng_at k245 (by omega) f228
  have f254 := rng_at k245 (by omega) f229
  have f255 := rng_at k245 (by omega) f230
  have f256 := rng_at k245 (by omega) f231
  have f257 := rng_at k245 (by omega) f232
  have f258 := rng_at k245 (by omega) f233
  have f259 := rng_at k245 (by omega) f234
  have f260 := rng_at k245 (by omega) f235
  have hB := p246
  refine aw_aload 4 dX3_solve_31 rfl ?_
  refine aw_aload_n 0 dX3_solve_33 rfl rfl ?_
  refine aw_get fX3_18 dX3_solve_34 f239 rfl ?_
  refine aw_iconst (0) dX3_solve_37 (by decide) ?_
  refine aw_iald 0 (rfl) (by decide) (by decide) dX3_solve_38 f242 ?_
  refine aw_putQ fX3_46 dX3_solve_39 (lG G P (bs1236 0) wa (nI pv)) f247 rfl rfl rfl (Nat.le_of_ble_eq_true rfl) rfl ?_
  refine aw_aload_n 0 dX3_solve_42 rfl rfl ?_
  refine aw_aload 4 dX3_solve_43 rfl ?_
  refine aw_eW [.ref (G.1 + P)] [] lX3_51 vX3_tellFirst mX3_tellFirst dX3_solve_45 (aX3_tellFirst (J := J) (u := u) (v := v) (ro := (fi a)) (co := (fi b)) (rc := rc1209) (lk := lk1208) (bs := bs1236) (wy := wy) (nw := nw) (P := P) (pv := pv) (su := bs1236 0) (wa := wa) (pt := pt) (ce := ce) (gn (by omega) (f239)) (gn (by omega) (f240)) (gn (by omega) (f241)) (gn (by omega) (f242)) (gn (by omega) (f243)) (gn (by omega) (f244)) (gs f247) (gn (by omega) (f248)) (gn (by omega) (f249)) (by omega) (by omega) (by omega) (by omega) (by omega) hrc (by omega) (by omega) hL hR hlx3 hB) (gn (by omega) (f239)) rfl rfl rfl (Nat.le_of_ble_eq_true rfl) (by decide) (by decide) rfl (fun h263 q262 => ?_)
  obtain ⟨pt1261, f264, f265, f266, k267, p268, p269⟩ := q262
  have f270 := rng_at k267 (by omega) (gn (by omega) (f239))
  have f271 := rng_at k267 (by omega) (gn (by omega) (f240))
  have f272 := rng_at k267 (by omega) (gn (by omega) (f241))
  have f273 := rng_at k267 (by omega) (gn (by omega) (f242))
  have f274 := rng_at k267 (by omega) (gn (by omega) (f243))
  have f275 := rng_at k267 (by omega) (gn (by omega) (f244))
  have f276 := rng_at k267 (by omega) (gn (by omega) (f250))
  have f277 := rng_at k267 (by omega) (gn (by omega) (f251))
  have f278 := rng_at k267 (by omega) (gn (by omega) (f252))
  have f279 := rng_at k267 (by omega) (gn (by omega) (f253))
  have f280 := rng_at k267 (by omega) (gn (by omega) (f254))
  have f281 := rng_at k267 (by omega) (gn (by omega) (f255))
  have f282 := rng_at k267 (by omega) (gn (by omega) (f256))
  have f283 := rng_at k267 (by omega) (gn (by omega) (f257))
  have f284 := rng_at k267 (by omega) (gn (by omega) (f258))
  have f285 := rng_at k267 (by omega) (gn (by omega) (f259))
  have f286 := rng_at k267 (by omega) (gn (by omega) (f260))
  refine aw_aload_n 0 dX3_solve_48 rfl rfl ?_
  refine aw_aload 4 dX3_solve_49 rfl ?_
  refine aw_eW [.ref (G.1 + P)] [] lX3_55 vX3_tellWays mX3_tellWays dX3_solve_51 (aX3_tellWays (J := J) (u := u) (v := v) (ro := (fi a)) (co := (fi b)) (rc := rc1209) (lk := lk1208) (bs := bs1236) (wy := wy) (nw := nw) (P := P) (pv := pv) (su := (bs1236 0)) (wa := wa) (pt := pt1261) (ce := ce) f270 f271 f272 f273 f274 f275 f264 f265 f266 (by omega) (by omega) (by omega) (by omega) hrc quv (by omega) hL hR hlx3 hB) f270 rfl rfl rfl (Nat.le_of_ble_eq_true rfl) (by decide) (by decide) rfl (fun h294 q293 => ?_)
  obtain ⟨u1287, v1288, wy1289, nw1290, wa1291, ce1292, f295, f296, f297, f298, f299, f300, f301, f302, f303, k304, p305, p306, p307, p308, p309⟩ := q293
  have f310 := rg2_at k304 (by omega) f276
  have f311 := rg2_at k304 (by omega) f277
  have f312 := rg2_at k304 (by omega) f278
  have f313 := rg2_at k304 (by omega) f279
  have f314 := rg2_at k304 (by omega) f280
  have f315 := rg2_at k304 (by omega) f281
  have f316 := rg2_at k304 (by omega) f282
  have f317 := rg2_at k304 (by omega) f283
  have f318 := rg2_at k304 (by omega) f284
  have f319 := rg2_at k304 (by omega) f285
  have f320 := rg2_at k304 (by omega) f286
  subst hQF
  exact aw_vret rfl dX3_solve_54 (by decide) (by decide) ⟨rfl, _, _, _, _, _, _, _, _, _, _, _, _, _, f295, f296, f297, f298, f299, f300, f301, f302, f303, rg2_tr (rg2_tr (rg2_set (rg2_tr (rg2_tr (rg2_set (rg2_set (rg2_rf P (P + 2) J (J + 5) h) (by omega)) (by omega)) (rg2_w k218 (by omega))) (rg2_w k245 (by omega))) (by omega)) (rg2_w k267 (by omega))) (rg2_w2 k304 (by omega) (by omega)), p305, p306, p307, hrc, p268, ⟨jB_00 hB, p269, p308, p309⟩⟩
