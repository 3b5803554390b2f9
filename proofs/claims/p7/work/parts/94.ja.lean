set_option maxHeartbeats 4000000 in
theorem bJ_n {l : Launch} {G : xG} {h : List va_E} {bv : Value} {J : Nat} {P pv : Nat} {su wa : Int32} {pt ce : Nat → Int32} {m se ye fi : Nat → Nat} {W Sn Z Ro Co : Nat → Int32} {Ba : Nat → Int64} {nb sp fa ve : Nat} {lx : Nat → Nat → Nat} {a b : Nat} (h0 : h[0]? = some (oB 8 (lX G (.null) (bv)))) (h1 : h[1]? = some (oB 1 (lC G (nI nb) (nI sp) (nI fa) (nI ve)))) (h2 : h[2]? = some (aI 20 (nA m))) (h3 : h[3]? = some (aI 20 (nA se))) (h4 : h[4]? = some (aI 4 (nA ye))) (h5 : h[5]? = some (aI 4 (nA fi))) (h6 : h[6]? = some (aI 40 W)) (h7 : h[7]? = some (aI 40 Sn)) (h8 : h[8]? = some (aI 40 Z)) (h9 : h[9]? = some (aI 40 Ro)) (h10 : h[10]? = some (aI 40 Co)) (h11 : h[11]? = some (aL 40 Ba)) (h12 : h[12]? = some (aR 16 (xjo G.1 16))) (hP : h[P]? = some (oB 4 (lG G P su wa (nI pv)))) (hP_1 : h[P + 1]? = some (aI 10 pt)) (hP_2 : h[P + 2]? = some (aZ 10 ce)) (hl : h.length = J) (hm : ∀ j, j < 20 → m j ≤ j) (hse : ∀ j, j < 20 → se j < 20) (hfi : ∀ j, j < 4 → fi j < 11) (hye : ∀ j, j < 4 → ye j < 1901) (ba : a < 4) (bb : b < 4) (qJ : 125 ≤ J) (qP : P + 2 < J) (qP1 : 12 < P) (hpt : pB pt) (eP : P = 13 + 3 * (a * 4 + b)) (hlx : ∀ i, i < fi a → ∀ k, k < fi b → likeC ye Sn Z Ro Co Ba sp fa (a * 10 + i) (b * 10 + k) = nI (lx i k)) (hlx3 : ∀ i k, lx i k ≤ 300) (bpv : pv ≤ 600) (bve : ve ≤ 600) (hvv : ¬ pv = ve) : CE l G yX8_bestJoining cX8_bestJoining 4 (some (.object RX4)) 5 6 13430 [.ref (G.1 + 0), .int (nI a), .int (nI b)] h (some (.ref (G.1 + P))) (fun h1 => ∃ u1 : Nat, ∃ v1 : Nat, ∃ ro1 : Nat, ∃ co1 : Nat, ∃ rc1 : Nat → Nat, ∃ lk1 : Nat → Int32, ∃ bs1 : Nat → Int32, ∃ wy1 : Nat → Int32, ∃ nw1 : Nat → Int32, ∃ su1 : Int32, ∃ wa1 : Int32, ∃ pt1 : Nat → Int32, ∃ ce1 : Nat → Int32, h1[0]? = some (oB 8 (lX G (.ref (G.1 + J)) (bv))) ∧ h1[J]? = some (oB 3 (lJ G J (.ref (G.1 + u1)) (.ref (G.1 + v1)) (nI ro1) (nI co1))) ∧ h1[J + 1]? = some (aI 100 lk1) ∧ h1[J + 2]? = some (aI 11 (nA rc1)) ∧ h1[J + 3]? = some (aI 11264 bs1) ∧ h1[u1]? = some (aI 1024 wy1) ∧ h1[v1]? = some (aI 1024 nw1) ∧ h1[P]? = some (oB 4 (lG G P su1 wa1 (nI ve))) ∧ h1[P + 1]? = some (aI 10 pt1) ∧ h1[P + 2]? = some (aZ 10 ce1) ∧ grw 0 0 P (P + 2) h h1 ∧ (J + 4 ≤ u1 ∧ u1 ≤ J + 5) ∧ (J + 4 ≤ v1 ∧ v1 ≤ J + 5) ∧ (u1 ≠ v1 ∧ wZ wy1 nw1) ∧ (∀ j, j < 11 → rc1 j < 1024) ∧ pB pt1 ∧ jK lx (fi a) (fi b) su1 wa1 pt1 ce1 ∧ h1.length = J + 6) := by
  refine cm_ofQ rfl (Nat.le_of_ble_eq_true rfl) [(0, .ref (G.1 + 0)), (1, .int (nI a)), (2, .int (nI b))] rfl (fun QF hQF => ?_)
  refine aw_aload_n 0 dX8_bestJoining_0 rfl rfl ?_
  refine aw_get fX8_26 dX8_bestJoining_1 h0 rfl ?_
  refine aw_iload_n 1 dX8_bestJoining_4 rfl rfl ?_
  refine aw_iconst (4) dX8_bestJoining_5 (by decide) ?_
  refine aw_imul dX8_bestJoining_6 ?_
  refine aw_toe (nI (a * 4)) (nv_mul (rfl) (rfl)) ?_
  refine aw_iload_n 2 dX8_bestJoining_7 rfl rfl ?_
  refine aw_iadd dX8_bestJoining_8 ?_
  refine aw_toe (nI ((a * 4) + b)) (nv_add (rfl) (rfl)) ?_
  refine aw_aald ((a * 4) + b) (rfl) (by omega) (by decide) dX8_bestJoining_9 h12 ?_
  rw [xj_P eP (by omega)]
  refine aw_astore_n [(3, .ref (G.1 + P)), (0, .ref (G.1 + 0)), (1, .int (nI a)), (2, .int (nI b))] dX8_bestJoining_10 rfl (by decide) rfl ?_
  refine aw_aload_n 0 dX8_bestJoining_11 rfl rfl ?_
  refine aw_get fX8_256 dX8_bestJoining_12 hP rfl ?_
  refine aw_aload_n 1 dX8_bestJoining_15 rfl rfl ?_
  refine aw_get fX8_20 dX8_bestJoining_16 h0 rfl ?_
  refine aw_get fX8_259 dX8_bestJoining_19 h1 rfl ?_
  refine aw_icmp_eq 68 dX8_bestJoining_22 (by decide) (fun c22 => absurd c22 (fun e => hvv ((nv_eq (a := pv) (b := ve) rfl rfl (by omega) (by omega)).mp e))) (fun c22 => ?_)
  refine aw_aload_n 1 dX8_bestJoining_25 rfl rfl ?_
  refine aw_get fX8_9 dX8_bestJoining_26 h0 rfl ?_
  refine aw_nonnullN dX8_bestJoining_29 ?_
  refine aw_aload_n 1 dX8_bestJoining_32 rfl rfl ?_
  refine aw_newQ J nX8_260 dX8_bestJoining_33 [.null, .null, .null, .null, .null, .int 0, .int 0] (by decide) (by decide) (by decide) (by simp [hl] <;> omega) ?_
  refine aw_dup dX8_bestJoining_36 rfl ?_
  refine aw_eN [] [.ref (G.1 + J), .ref (G.1 + 0)] lX8_262 vX3_init mX3_init dX8_bestJoining_37 (KX3_init (a := J) (by simp [hl]) (gp (by simp [hl] <;> omega))) rfl (Nat.le_of_ble_eq_true rfl) (by decide) (by decide) rfl (fun h4260 q4259 => ?_)
  obtain ⟨l4261, f4263, f4264, f4265, f4266, f4267, f4268, k4262⟩ := q4259
  have f4269 := lo_at k4262 (by omega) (ga (h0))
  have f4270 := lo_at k4262 (by omega) (ga (h1))
  have f4271 := lo_at k4262 (by omega) (ga (h2))
  have f4272 := lo_at k4262 (by omega) (ga (h3))
  have f4273 := lo_at k4262 (by omega) (ga (h4))
  have f4274 := lo_at k4262 (by omega) (ga (h5))
  have f4275 := lo_at k4262 (by omega) (ga (h6))
  have f4276 := lo_at k4262 (by omega) (ga (h7))
  have f4277 := lo_at k4262 (by omega) (ga (h8))
  have f4278 := lo_at k4262 (by omega) (ga (h9))
  have f4279 := lo_at k4262 (by omega) (ga (h10))
  have f4280 := lo_at k4262 (by omega) (ga (h11))
  have f4281 := lo_at k4262 (by omega) (ga (h12))
  have f4282 := lo_at k4262 (by omega) (ga (hP))
  have f4283 := lo_at k4262 (by omega) (ga (hP_1))
  have f4284 := lo_at k4262 (by omega) (ga (hP_2))
  refine aw_putQ fX8_9 dX8_bestJoining_40 (lX G (.ref (G.1 + J)) (bv)) f4269 rfl rfl rfl (Nat.le_of_ble_eq_true rfl) rfl ?_
  refine aw_aload_n 1 dX8_bestJoining_43 rfl rfl ?_
  refine aw_get fX8_9 dX8_bestJoining_44 (gs f4269) rfl ?_
  refine aw_aload_n 1 dX8_bestJoining_47 rfl rfl ?_
  refine aw_get fX8_20 dX8_bestJoining_48 (gs f4269) rfl ?_
  refine aw_iload_n 2 dX8_bestJoining_51 rfl rfl ?_
  refine aw_iload_n 3 dX8_bestJoining_52 rfl rfl ?_
  refine aw_aload_n 0 dX8_bestJoining_53 rfl rfl ?_
  refine aw_eW [.ref (G.1 + 1), .int (nI a), .int (nI b), .ref (G.1 + P)] [] lX8_263 vX3_solve mX3_solve dX8_bestJoining_54 (aX3_solve (J := J) (u := J + 4) (v := J + 5) (ro := 0) (co := 0) (rc := fun _ => 0) (lk := fun _ => 0) (bs := fun _ => 0) (wy := fun _ => 0) (nw := fun _ => 0) (P := P) (pv := pv) (su := su) (wa := wa) (pt := pt) (ce := ce) (m := m) (se := se) (ye := ye) (fi := fi) (W := W) (Sn := Sn) (Z := Z) (Ro := Ro) (Co := Co) (Ba := Ba) (nb := nb) (sp := sp) (fa := fa) (ve := ve) (a := a) (b := b) (gn (by omega) (f4263)) (gn (by omega) (f4264)) (gn (by omega) (f4265)) (gn (by omega) (f4266)) (gn (by omega) (f4267)) (gn (by omega) (f4268)) (gn (by omega) (f4282)) (gn (by omega) (f4283)) (gn (by omega) (f4284)) (gn (by decide) (f4270)) (gn (by decide) (f4271)) (gn (by decide) (f4272)) (gn (by decide) (f4273)) (gn (by decide) (f4274)) (gn (by decide) (f4275)) (gn (by decide) (f4276)) (gn (by decide) (f4277)) (gn (by decide) (f4278)) (gn (by decide) (f4279)) (gn (by decide) (f4280)) ⟨by omega, by omega⟩ ⟨by omega, by omega⟩ ⟨by omega, fun _ _ => rfl, fun _ _ => rfl⟩ (fun _ _ => by decide) (by omega) hm hse hfi hye (by omega) (by omega) (by omega) (by omega) (by omega) hlx hlx3) (gn (by omega) (f4263)) rfl rfl rfl (Nat.le_of_ble_eq_true rfl) (by decide) (by decide) rfl (fun h4299 q4298 => ?_)
  obtain ⟨u14285, v14286, ro14287, co14288, rc14289, lk14290, bs14291, wy14292, nw14293, su14294, wa14295, pt14296, ce14297, f4300, f4301, f4302, f4303, f4304, f4305, f4306, f4307, f4308, k4309, p4310, p4311, p4312, p4313, p4314, p4315⟩ := q4298
  have f4316 := rg2_at k4309 (by omega) (gs f4269)
  have f4317 := rg2_at k4309 (by omega) (gn (by decide) (f4270))
  have f4318 := rg2_at k4309 (by omega) (gn (by decide) (f4271))
  have f4319 := rg2_at k4309 (by omega) (gn (by decide) (f4272))
  have f4320 := rg2_at k4309 (by omega) (gn (by decide) (f4273))
  have f4321 := rg2_at k4309 (by omega) (gn (by decide) (f4274))
  have f4322 := rg2_at k4309 (by omega) (gn (by decide) (f4275))
  have f4323 := rg2_at k4309 (by omega) (gn (by decide) (f4276))
  have f4324 := rg2_at k4309 (by omega) (gn (by decide) (f4277))
  have f4325 := rg2_at k4309 (by omega) (gn (by decide) (f4278))
  have f4326 := rg2_at k4309 (by omega) (gn (by decide) (f4279))
  have f4327 := rg2_at k4309 (by omega) (gn (by decide) (f4280))
  have f4328 := rg2_at k4309 (by omega) (gn (by decide) (f4281))
  refine aw_aload_n 0 dX8_bestJoining_57 rfl rfl ?_
  refine aw_aload_n 1 dX8_bestJoining_58 rfl rfl ?_
  refine aw_get fX8_20 dX8_bestJoining_59 f4316 rfl ?_
  refine aw_get fX8_259 dX8_bestJoining_62 f4317 rfl ?_
  refine aw_putQ fX8_256 dX8_bestJoining_65 (lG G P su14294 wa14295 (nI ve)) f4306 rfl rfl rfl (Nat.le_of_ble_eq_true rfl) rfl ?_
  refine aw_aload_n 0 dX8_bestJoining_68 rfl rfl ?_
  subst hQF
  exact aw_aret rfl dX8_bestJoining_69 (by decide) (by decide) ⟨rfl, _, _, _, _, _, _, _, _, _, _, _, _, _, (gn (by omega) (f4316)), (gn (by omega) (f4300)), (gn (by omega) (f4301)), (gn (by omega) (f4302)), (gn (by omega) (f4303)), (gn (by omega) (f4304)), (gn (by omega) (f4305)), (gs f4306), (gn (by omega) (f4307)), (gn (by omega) (f4308)), grw_set (grw_r4 (grw_set (grw_lo (grw_app (grw_rf 0 0 P (P + 2) h)) k4262 (by omega) (by simp [hl, l4261])) (by omega)) k4309 (fun j q1 q2 => by omega)) (by omega), p4310, p4311, p4312, p4313, p4314, p4315, by rw [List.length_set, k4309.1, List.length_set, l4261]⟩
