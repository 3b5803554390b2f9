set_option maxHeartbeats 4000000 in
theorem oX8_join_J {l : Launch} {G : xG} {h : List va_E} {bv : Value} {J u v ro co : Nat} {rc : Nat → Nat} {lk bs wy nw : Nat → Int32} {P pv : Nat} {su wa : Int32} {pt ce : Nat → Int32} {m se ye fi : Nat → Nat} {W Sn Z Ro Co : Nat → Int32} {Ba : Nat → Int64} {nb sp fa ve : Nat} {lx : Nat → Nat → Nat} {a b : Nat} (h0 : h[0]? = some (oB 8 (lX G (.ref (G.1 + J)) (bv)))) (h1 : h[1]? = some (oB 1 (lC G (nI nb) (nI sp) (nI fa) (nI ve)))) (h2 : h[2]? = some (aI 20 (nA m))) (h3 : h[3]? = some (aI 20 (nA se))) (h4 : h[4]? = some (aI 4 (nA ye))) (h5 : h[5]? = some (aI 4 (nA fi))) (h6 : h[6]? = some (aI 40 W)) (h7 : h[7]? = some (aI 40 Sn)) (h8 : h[8]? = some (aI 40 Z)) (h9 : h[9]? = some (aI 40 Ro)) (h10 : h[10]? = some (aI 40 Co)) (h11 : h[11]? = some (aL 40 Ba)) (h12 : h[12]? = some (aR 16 (xjo G.1 16))) (hJ : h[J]? = some (oB 3 (lJ G J (.ref (G.1 + u)) (.ref (G.1 + v)) (nI ro) (nI co)))) (hJ_1 : h[J + 1]? = some (aI 100 lk)) (hJ_2 : h[J + 2]? = some (aI 11 (nA rc))) (hJ_3 : h[J + 3]? = some (aI 11264 bs)) (hu : h[u]? = some (aI 1024 wy)) (hv : h[v]? = some (aI 1024 nw)) (hP : h[P]? = some (oB 4 (lG G P su wa (nI pv)))) (hP_1 : h[P + 1]? = some (aI 10 pt)) (hP_2 : h[P + 2]? = some (aZ 10 ce)) (ba : a < 4) (bb : b < 4) (hab : a ≠ b) (qu : J + 4 ≤ u ∧ u ≤ J + 5) (qv : J + 4 ≤ v ∧ v ≤ J + 5) (quv : (u ≠ v ∧ wZ wy nw)) (hrc : ∀ j, j < 11 → rc j < 1024) (qP : P + 2 < J) (hm : ∀ j, j < 20 → m j ≤ j) (hse : ∀ j, j < 20 → se j < 20) (hfi : ∀ j, j < 4 → fi j < 11) (hye : ∀ j, j < 4 → ye j < 1901) (qJ : 125 ≤ J) (qP1 : 12 < P) (hpt : pB pt) (eP : P = 13 + 3 * (a * 4 + b)) (hlx : ∀ i, i < fi a → ∀ k, k < fi b → likeC ye Sn Z Ro Co Ba sp fa (a * 10 + i) (b * 10 + k) = nI (lx i k)) (hlx3 : ∀ i k, lx i k ≤ 300) (bpv : pv ≤ 600) (bve : ve ≤ 600) (hJK : pv = ve → jK lx (fi a) (fi b) su wa pt ce) : CU l G yX8_join cX8_join 3 (some .int) 6 0 0 [.ref (G.1 + 0), .int (nI a), .int (nI b)] h (fun r h1 => ∃ u1 : Nat, ∃ v1 : Nat, ∃ ro1 : Nat, ∃ co1 : Nat, ∃ rc1 : Nat → Nat, ∃ lk1 : Nat → Int32, ∃ bs1 : Nat → Int32, ∃ wy1 : Nat → Int32, ∃ nw1 : Nat → Int32, ∃ su1 : Int32, ∃ wa1 : Int32, ∃ pt1 : Nat → Int32, ∃ ce1 : Nat → Int32, h1[J]? = some (oB 3 (lJ G J (.ref (G.1 + u1)) (.ref (G.1 + v1)) (nI ro1) (nI co1))) ∧ h1[J + 1]? = some (aI 100 lk1) ∧ h1[J + 2]? = some (aI 11 (nA rc1)) ∧ h1[J + 3]? = some (aI 11264 bs1) ∧ h1[u1]? = some (aI 1024 wy1) ∧ h1[v1]? = some (aI 1024 nw1) ∧ h1[P]? = some (oB 4 (lG G P su1 wa1 (nI ve))) ∧ h1[P + 1]? = some (aI 10 pt1) ∧ h1[P + 2]? = some (aZ 10 ce1) ∧ rg2 P (P + 2) J (J + 5) h h1 ∧ (J + 4 ≤ u1 ∧ u1 ≤ J + 5) ∧ (J + 4 ≤ v1 ∧ v1 ≤ J + 5) ∧ (u1 ≠ v1 ∧ wZ wy1 nw1) ∧ (∀ j, j < 11 → rc1 j < 1024) ∧ pB pt1 ∧ jK lx (fi a) (fi b) su1 wa1 pt1 ce1 ∧ r = nI (jS lx (fi b) (fi a) 0 0)) := by
  refine cm_ofQ rfl (Nat.le_of_ble_eq_true rfl) [(0, .ref (G.1 + 0)), (1, .int (nI a)), (2, .int (nI b))] rfl (fun QF hQF => ?_)
  have tt_a : (nI a).toInt = (a : Int) := nI_toInt (by omega)
  have nn_a : tn (nI a) = a := tn_nI (by omega)
  have tt_b : (nI b).toInt = (b : Int) := nI_toInt (by omega)
  have nn_b : tn (nI b) = b := tn_nI (by omega)
  refine aw_iload_n 1 dX8_join_0 rfl rfl ?_
  refine aw_iload_n 2 dX8_join_1 rfl rfl ?_
  refine aw_dS [.int (nI a), .int (nI b)] [] lX8_104 sX8_areTwo mX8_areTwo dX8_join_2 (bX8_areTwo (a := (nI a)) (b := (nI b)) ) rfl (Nat.le_of_ble_eq_true rfl) (by decide) (by decide) rfl ?_
  refine aw_if_ne 14 dX8_join_5 (by decide) (fun c5 => ?_) (fun c5 => ?_)
  · have t5 := ite_1 c5
    refine aw_aload_n 0 dX8_join_14 rfl rfl ?_
    refine aw_iload_n 1 dX8_join_15 rfl rfl ?_
    refine aw_iload_n 2 dX8_join_16 rfl rfl ?_
    refine aw_eV [.int (nI a), .int (nI b)] [] lX8_124 vX8_bestJoining mX8_bestJoining dX8_join_17 (bJ (bv := bv) (J := J) (u := u) (v := v) (ro := ro) (co := co) (rc := rc) (lk := lk) (bs := bs) (wy := wy) (nw := nw) (P := P) (pv := pv) (su := su) (wa := wa) (pt := pt) (ce := ce) (m := m) (se := se) (ye := ye) (fi := fi) (W := W) (Sn := Sn) (Z := Z) (Ro := Ro) (Co := Co) (Ba := Ba) (nb := nb) (sp := sp) (fa := fa) (ve := ve) (a := a) (b := b) h0 h1 h2 h3 h4 h5 h6 h7 h8 h9 h10 h11 h12 hJ hJ_1 hJ_2 hJ_3 hu hv hP hP_1 hP_2 (by omega) (by omega) (by omega) hrc (by omega) hm hse hfi hye (by omega) (by omega) (by omega) (by omega) (by omega) (by omega) hlx hlx3 (by omega) (by omega) hJK) h0 rfl rfl rfl (Nat.le_of_ble_eq_true rfl) (by decide) (by decide) rfl (fun h4343 q4342 => ?_)
    obtain ⟨u14329, v14330, ro14331, co14332, rc14333, lk14334, bs14335, wy14336, nw14337, su14338, wa14339, pt14340, ce14341, f4344, f4345, f4346, f4347, f4348, f4349, f4350, f4351, f4352, k4353, p4354, p4355, p4356, p4357, p4358, p4359⟩ := q4342
    have f4360 := rg2_at k4353 (by omega) h0
    have f4361 := rg2_at k4353 (by omega) h1
    have f4362 := rg2_at k4353 (by omega) h2
    have f4363 := rg2_at k4353 (by omega) h3
    have f4364 := rg2_at k4353 (by omega) h4
    have f4365 := rg2_at k4353 (by omega) h5
    have f4366 := rg2_at k4353 (by omega) h6
    have f4367 := rg2_at k4353 (by omega) h7
    have f4368 := rg2_at k4353 (by omega) h8
    have f4369 := rg2_at k4353 (by omega) h9
    have f4370 := rg2_at k4353 (by omega) h10
    have f4371 := rg2_at k4353 (by omega) h11
    have f4372 := rg2_at k4353 (by omega) h12
    refine aw_get fX8_128 dX8_join_20 f4350 rfl ?_
    subst hQF
    exact aw_iret rfl dX8_join_23 (by decide) (by decide) ⟨_, rfl, _, _, _, _, _, _, _, _, _, _, _, _, _, f4344, f4345, f4346, f4347, f4348, f4349, f4350, f4351, f4352, rg2_tr (rg2_rf P (P + 2) J (J + 5) h) (rg2_w2 k4353 (by omega) (by omega)), p4354, p4355, p4356, p4357, p4358, p4359, p4359.1⟩
  · have t5 := ite_0 c5
    exfalso
    omega
set_option maxHeartbeats 4000000 in
theorem oX8_join_n {l : Launch} {G : xG} {h : List va_E} {bv : Value} {J : Nat} {P pv : Nat} {su wa : Int32} {pt ce : Nat → Int32} {m se ye fi : Nat → Nat} {W Sn Z Ro Co : Nat → Int32} {Ba : Nat → Int64} {nb sp fa ve : Nat} {lx : Nat → Nat → Nat} {a b : Nat} (h0 : h[0]? = some (oB 8 (lX G (.null) (bv)))) (h1 : h[1]? = some (oB 1 (lC G (nI nb) (nI sp) (nI fa) (nI ve)))) (h2 : h[2]? = some (aI 20 (nA m))) (h3 : h[3]? = some (aI 20 (nA se))) (h4 : h[4]? = some (aI 4 (nA ye))) (h5 : h[5]? = some (aI 4 (nA fi))) (h6 : h[6]? = some (aI 40 W)) (h7 : h[7]? = some (aI 40 Sn)) (h8 : h[8]? = some (aI 40 Z)) (h9 : h[9]? = some (aI 40 Ro)) (h10 : h[10]? = some (aI 40 Co)) (h11 : h[11]? = some (aL 40 Ba)) (h12 : h[12]? = some (aR 16 (xjo G.1 16))) (hP : h[P]? = some (oB 4 (lG G P su wa (nI pv)))) (hP_1 : h[P + 1]? = some (aI 10 pt)) (hP_2 : h[P + 2]? = some (aZ 10 ce)) (ba : a < 4) (bb : b < 4) (hab : a ≠ b) (hl : h.length = J) (hm : ∀ j, j < 20 → m j ≤ j) (hse : ∀ j, j < 20 → se j < 20) (hfi : ∀ j, j < 4 → fi j < 11) (hye : ∀ j, j < 4 → ye j < 1901) (qJ : 125 ≤ J) (qP : P + 2 < J) (qP1 : 12 < P) (hpt : pB pt) (eP : P = 13 + 3 * (a * 4 + b)) (hlx : ∀ i, i < fi a → ∀ k, k < fi b → likeC ye Sn Z Ro Co Ba sp fa (a * 10 + i) (b * 10 + k) = nI (lx i k)) (hlx3 : ∀ i k, lx i k ≤ 300) (bpv : pv ≤ 600) (bve : ve ≤ 600) (hvv : ¬ pv = ve) : CU l G yX8_join cX8_join 3 (some .int) 6 6 13430 [.ref (G.1 + 0), .int (nI a), .int (nI b)] h (fun r h1 => ∃ u1 : Nat, ∃ v1 : Nat, ∃ ro1 : Nat, ∃ co1 : Nat, ∃ rc1 : Nat → Nat, ∃ lk1 : Nat → Int32, ∃ bs1 : Nat → Int32, ∃ wy1 : Nat → Int32, ∃ nw1 : Nat → Int32, ∃ su1 : Int32, ∃ wa1 : Int32, ∃ pt1 : Nat → Int32, ∃ ce1 : Nat → Int32, h1[0]? = some (oB 8 (lX G (.ref (G.1 + J)) (bv))) ∧ h1[J]? = some (oB 3 (lJ G J (.ref (G.1 + u1)) (.ref (G.1 + v1)) (nI ro1) (nI co1))) ∧ h1[J + 1]? = some (aI 100 lk1) ∧ h1[J + 2]? = some (aI 11 (nA rc1)) ∧ h1[J + 3]? = some (aI 11264 bs1) ∧ h1[u1]? = some (aI 1024 wy1) ∧ h1[v1]? = some (aI 1024 nw1) ∧ h1[P]? = some (oB 4 (lG G P su1 wa1 (nI ve))) ∧ h1[P + 1]? = some (aI 10 pt1) ∧ h1[P + 2]? = some (aZ 10 ce1) ∧ grw 0 0 P (P + 2) h h1 ∧ (J + 4 ≤ u1 ∧ u1 ≤ J + 5) ∧ (J + 4 ≤ v1 ∧ v1 ≤ J + 5) ∧ (u1 ≠ v1 ∧ wZ wy1 nw1) ∧ (∀ j, j < 11 → rc1 j < 1024) ∧ pB pt1 ∧ jK lx (fi a) (fi b) su1 wa1 pt1 ce1 ∧ h1.length = J + 6 ∧ r = nI (jS lx (fi b) (fi a) 0 0)) := by
  refine cm_ofQ rfl (Nat.le_of_ble_eq_true rfl) [(0, .ref (G.1 + 0)), (1, .int (nI a)), (2, .int (nI b))] rfl (fun QF hQF => ?_)
  have tt_a : (nI a).toInt = (a : Int) := nI_toInt (by omega)
  have nn_a : tn (nI a) = a := tn_nI (by omega)
  have tt_b : (nI b).toInt = (b : Int) := nI_toInt (by omega)
  have nn_b : tn (nI b) = b := tn_nI (by omega)
  refine aw_iload_n 1 dX8_join_0 rfl rfl ?_
  refine aw_iload_n 2 dX8_join_1 rfl rfl ?_
  refine aw_dS [.int (nI a), .int (nI b)] [] lX8_104 sX8_areTwo mX8_areTwo dX8_join_2 (bX8_areTwo (a := (nI a)) (b := (nI b)) ) rfl (Nat.le_of_ble_eq_true rfl) (by decide) (by decide) rfl ?_
  refine aw_if_ne 14 dX8_join_5 (by decide) (fun c5 => ?_) (fun c5 => ?_)
  · have t5 := ite_1 c5
    refine aw_aload_n 0 dX8_join_14 rfl rfl ?_
    refine aw_iload_n 1 dX8_join_15 rfl rfl ?_
    refine aw_iload_n 2 dX8_join_16 rfl rfl ?_
    refine aw_eV [.int (nI a), .int (nI b)] [] lX8_124 vX8_bestJoining mX8_bestJoining dX8_join_17 (bJ_n (bv := bv) (P := P) (pv := pv) (su := su) (wa := wa) (pt := pt) (ce := ce) (m := m) (se := se) (ye := ye) (fi := fi) (W := W) (Sn := Sn) (Z := Z) (Ro := Ro) (Co := Co) (Ba := Ba) (nb := nb) (sp := sp) (fa := fa) (ve := ve) (a := a) (b := b) h0 h1 h2 h3 h4 h5 h6 h7 h8 h9 h10 h11 h12 hP hP_1 hP_2 (by omega) hm hse hfi hye (by omega) (by omega) (by omega) (by omega) (by omega) (by omega) (by omega) hlx hlx3 (by omega) (by omega) (by omega)) h0 rfl rfl rfl (Nat.le_of_ble_eq_true rfl) (by decide) (by decide) rfl (fun h4387 q4386 => ?_)
    obtain ⟨u14373, v14374, ro14375, co14376, rc14377, lk14378, bs14379, wy14380, nw14381, su14382, wa14383, pt14384, ce14385, f4388, f4389, f4390, f4391, f4392, f4393, f4394, f4395, f4396, f4397, k4398, p4399, p4400, p4401, p4402, p4403, p4404, p4405⟩ := q4386
    have f4406 := grw_at k4398 (by omega) h1
    have f4407 := grw_at k4398 (by omega) h2
    have f4408 := grw_at k4398 (by omega) h3
    have f4409 := grw_at k4398 (by omega) h4
    have f4410 := grw_at k4398 (by omega) h5
    have f4411 := grw_at k4398 (by omega) h6
    have f4412 := grw_at k4398 (by omega) h7
    have f4413 := grw_at k4398 (by omega) h8
    have f4414 := grw_at k4398 (by omega) h9
    have f4415 := grw_at k4398 (by omega) h10
    have f4416 := grw_at k4398 (by omega) h11
    have f4417 := grw_at k4398 (by omega) h12
    refine aw_get fX8_128 dX8_join_20 f4395 rfl ?_
    subst hQF
    exact aw_iret rfl dX8_join_23 (by decide) (by decide) ⟨_, rfl, _, _, _, _, _, _, _, _, _, _, _, _, _, f4388, f4389, f4390, f4391, f4392, f4393, f4394, f4395, f4396, f4397, grw_gg (grw_rf 0 0 P (P + 2) h) k4398 (fun j q1 q2 => by omega), p4399, p4400, p4401, p4402, p4403, p4404, p4405, p4404.1⟩
  · have t5 := ite_0 c5
    exfalso
    omega
