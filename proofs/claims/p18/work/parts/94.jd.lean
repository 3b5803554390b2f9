set_option maxHeartbeats 4000000 in
theorem oX8_bests_J {l : Launch} {G : xG} {h : List va_E} {bv : Value} {J u v ro co : Nat} {rc : Nat → Nat} {lk bs wy nw : Nat → Int32} {P pv : Nat} {su wa : Int32} {pt ce : Nat → Int32} {m se ye fi : Nat → Nat} {W Sn Z Ro Co : Nat → Int32} {Ba : Nat → Int64} {nb sp fa ve : Nat} {a b : Nat} (h0 : h[0]? = some (oB 8 (lX G (.ref (G.1 + J)) (bv)))) (h1 : h[1]? = some (oB 1 (lC G (nI nb) (nI sp) (nI fa) (nI ve)))) (h2 : h[2]? = some (aI 20 (nA m))) (h3 : h[3]? = some (aI 20 (nA se))) (h4 : h[4]? = some (aI 4 (nA ye))) (h5 : h[5]? = some (aI 4 (nA fi))) (h6 : h[6]? = some (aI 40 W)) (h7 : h[7]? = some (aI 40 Sn)) (h8 : h[8]? = some (aI 40 Z)) (h9 : h[9]? = some (aI 40 Ro)) (h10 : h[10]? = some (aI 40 Co)) (h11 : h[11]? = some (aL 40 Ba)) (h12 : h[12]? = some (aR 16 (xjo G.1 16))) (hJ : h[J]? = some (oB 3 (lJ G J (.ref (G.1 + u)) (.ref (G.1 + v)) (nI ro) (nI co)))) (hJ_1 : h[J + 1]? = some (aI 100 lk)) (hJ_2 : h[J + 2]? = some (aI 11 (nA rc))) (hJ_3 : h[J + 3]? = some (aI 11264 bs)) (hu : h[u]? = some (aI 1024 wy)) (hv : h[v]? = some (aI 1024 nw)) (hP : h[P]? = some (oB 4 (lG G P su wa (nI pv)))) (hP_1 : h[P + 1]? = some (aI 10 pt)) (hP_2 : h[P + 2]? = some (aZ 10 ce)) (ba : a < 4) (bb : b < 4) (hab : a ≠ b) (qu : J + 4 ≤ u ∧ u ≤ J + 5) (qv : J + 4 ≤ v ∧ v ≤ J + 5) (quv : u ≠ v) (hrc : ∀ j, j < 11 → rc j < 1024) (qP : P + 2 < J) (hm : ∀ j, j < 20 → m j ≤ j) (hse : ∀ j, j < 20 → se j < 20) (hfi : ∀ j, j < 4 → fi j < 11) (hye : ∀ j, j < 4 → ye j < 1901) (qJ : 125 ≤ J) (qP1 : 12 < P) (hpt : pB pt) (eP : P = 13 + 3 * (a * 4 + b)) (bpv : pv ≤ 600) (bve : ve ≤ 600) : CU l G yX8_bests cX8_bests 3 (some .int) 6 0 0 [.ref (G.1 + 0), .int (nI a), .int (nI b)] h (fun r h1 => ∃ u1 : Nat, ∃ v1 : Nat, ∃ ro1 : Nat, ∃ co1 : Nat, ∃ rc1 : Nat → Nat, ∃ lk1 : Nat → Int32, ∃ bs1 : Nat → Int32, ∃ wy1 : Nat → Int32, ∃ nw1 : Nat → Int32, ∃ su1 : Int32, ∃ wa1 : Int32, ∃ pt1 : Nat → Int32, ∃ ce1 : Nat → Int32, h1[J]? = some (oB 3 (lJ G J (.ref (G.1 + u1)) (.ref (G.1 + v1)) (nI ro1) (nI co1))) ∧ h1[J + 1]? = some (aI 100 lk1) ∧ h1[J + 2]? = some (aI 11 (nA rc1)) ∧ h1[J + 3]? = some (aI 11264 bs1) ∧ h1[u1]? = some (aI 1024 wy1) ∧ h1[v1]? = some (aI 1024 nw1) ∧ h1[P]? = some (oB 4 (lG G P su1 wa1 (nI ve))) ∧ h1[P + 1]? = some (aI 10 pt1) ∧ h1[P + 2]? = some (aZ 10 ce1) ∧ rg2 P (P + 2) J (J + 5) h h1 ∧ (J + 4 ≤ u1 ∧ u1 ≤ J + 5) ∧ (J + 4 ≤ v1 ∧ v1 ≤ J + 5) ∧ u1 ≠ v1 ∧ (∀ j, j < 11 → rc1 j < 1024) ∧ pB pt1 ∧ True) := by
  refine cm_ofQ rfl (Nat.le_of_ble_eq_true rfl) [(0, .ref (G.1 + 0)), (1, .int (nI a)), (2, .int (nI b))] rfl (fun QF hQF => ?_)
  have tt_a : (nI a).toInt = (a : Int) := nI_toInt (by omega)
  have nn_a : tn (nI a) = a := tn_nI (by omega)
  have tt_b : (nI b).toInt = (b : Int) := nI_toInt (by omega)
  have nn_b : tn (nI b) = b := tn_nI (by omega)
  refine aw_iload_n 1 dX8_bests_0 rfl rfl ?_
  refine aw_iload_n 2 dX8_bests_1 rfl rfl ?_
  refine aw_dS [.int (nI a), .int (nI b)] [] lX8_104 sX8_areTwo mX8_areTwo dX8_bests_2 (bX8_areTwo (a := (nI a)) (b := (nI b)) ) rfl (Nat.le_of_ble_eq_true rfl) (by decide) (by decide) rfl ?_
  refine aw_if_ne 14 dX8_bests_5 (by decide) (fun c5 => ?_) (fun c5 => ?_)
  · have t5 := ite_1 c5
    refine aw_aload_n 0 dX8_bests_14 rfl rfl ?_
    refine aw_iload_n 1 dX8_bests_15 rfl rfl ?_
    refine aw_iload_n 2 dX8_bests_16 rfl rfl ?_
    refine aw_eV [.int (nI a), .int (nI b)] [] lX8_124 vX8_bestJoining mX8_bestJoining dX8_bests_17 (bJ (bv := bv) (J := J) (u := u) (v := v) (ro := ro) (co := co) (rc := rc) (lk := lk) (bs := bs) (wy := wy) (nw := nw) (P := P) (pv := pv) (su := su) (wa := wa) (pt := pt) (ce := ce) (m := m) (se := se) (ye := ye) (fi := fi) (W := W) (Sn := Sn) (Z := Z) (Ro := Ro) (Co := Co) (Ba := Ba) (nb := nb) (sp := sp) (fa := fa) (ve := ve) (a := a) (b := b) h0 h1 h2 h3 h4 h5 h6 h7 h8 h9 h10 h11 h12 hJ hJ_1 hJ_2 hJ_3 hu hv hP hP_1 hP_2 (by omega) (by omega) (by omega) hrc (by omega) hm hse hfi hye (by omega) (by omega) (by omega) (by omega) (by omega) (by omega) (by omega) (by omega)) h0 rfl rfl rfl (Nat.le_of_ble_eq_true rfl) (by decide) (by decide) rfl (fun h4552 q4551 => ?_)
    obtain ⟨u14538, v14539, ro14540, co14541, rc14542, lk14543, bs14544, wy14545, nw14546, su14547, wa14548, pt14549, ce14550, f4553, f4554, f4555, f4556, f4557, f4558, f4559, f4560, f4561, k4562, p4563, p4564, p4565, p4566, p4567⟩ := q4551
    have f4568 := rg2_at k4562 (by omega) h0
    have f4569 := rg2_at k4562 (by omega) h1
    have f4570 := rg2_at k4562 (by omega) h2
    have f4571 := rg2_at k4562 (by omega) h3
    have f4572 := rg2_at k4562 (by omega) h4
    have f4573 := rg2_at k4562 (by omega) h5
    have f4574 := rg2_at k4562 (by omega) h6
    have f4575 := rg2_at k4562 (by omega) h7
    have f4576 := rg2_at k4562 (by omega) h8
    have f4577 := rg2_at k4562 (by omega) h9
    have f4578 := rg2_at k4562 (by omega) h10
    have f4579 := rg2_at k4562 (by omega) h11
    have f4580 := rg2_at k4562 (by omega) h12
    refine aw_get fX8_134 dX8_bests_20 f4559 rfl ?_
    subst hQF
    exact aw_iret rfl dX8_bests_23 (by decide) (by decide) ⟨_, rfl, _, _, _, _, _, _, _, _, _, _, _, _, _, f4553, f4554, f4555, f4556, f4557, f4558, f4559, f4560, f4561, rg2_tr (rg2_rf P (P + 2) J (J + 5) h) (rg2_w2 k4562 (by omega) (by omega)), p4563, p4564, p4565, p4566, p4567, trivial⟩
  · have t5 := ite_0 c5
    exfalso
    omega
set_option maxHeartbeats 4000000 in
theorem oX8_bests_n {l : Launch} {G : xG} {h : List va_E} {bv : Value} {J : Nat} {P pv : Nat} {su wa : Int32} {pt ce : Nat → Int32} {m se ye fi : Nat → Nat} {W Sn Z Ro Co : Nat → Int32} {Ba : Nat → Int64} {nb sp fa ve : Nat} {a b : Nat} (h0 : h[0]? = some (oB 8 (lX G (.null) (bv)))) (h1 : h[1]? = some (oB 1 (lC G (nI nb) (nI sp) (nI fa) (nI ve)))) (h2 : h[2]? = some (aI 20 (nA m))) (h3 : h[3]? = some (aI 20 (nA se))) (h4 : h[4]? = some (aI 4 (nA ye))) (h5 : h[5]? = some (aI 4 (nA fi))) (h6 : h[6]? = some (aI 40 W)) (h7 : h[7]? = some (aI 40 Sn)) (h8 : h[8]? = some (aI 40 Z)) (h9 : h[9]? = some (aI 40 Ro)) (h10 : h[10]? = some (aI 40 Co)) (h11 : h[11]? = some (aL 40 Ba)) (h12 : h[12]? = some (aR 16 (xjo G.1 16))) (hP : h[P]? = some (oB 4 (lG G P su wa (nI pv)))) (hP_1 : h[P + 1]? = some (aI 10 pt)) (hP_2 : h[P + 2]? = some (aZ 10 ce)) (ba : a < 4) (bb : b < 4) (hab : a ≠ b) (hl : h.length = J) (hm : ∀ j, j < 20 → m j ≤ j) (hse : ∀ j, j < 20 → se j < 20) (hfi : ∀ j, j < 4 → fi j < 11) (hye : ∀ j, j < 4 → ye j < 1901) (qJ : 125 ≤ J) (qP : P + 2 < J) (qP1 : 12 < P) (hpt : pB pt) (eP : P = 13 + 3 * (a * 4 + b)) (bpv : pv ≤ 600) (bve : ve ≤ 600) (hvv : ¬ pv = ve) : CU l G yX8_bests cX8_bests 3 (some .int) 6 6 13430 [.ref (G.1 + 0), .int (nI a), .int (nI b)] h (fun r h1 => ∃ u1 : Nat, ∃ v1 : Nat, ∃ ro1 : Nat, ∃ co1 : Nat, ∃ rc1 : Nat → Nat, ∃ lk1 : Nat → Int32, ∃ bs1 : Nat → Int32, ∃ wy1 : Nat → Int32, ∃ nw1 : Nat → Int32, ∃ su1 : Int32, ∃ wa1 : Int32, ∃ pt1 : Nat → Int32, ∃ ce1 : Nat → Int32, h1[0]? = some (oB 8 (lX G (.ref (G.1 + J)) (bv))) ∧ h1[J]? = some (oB 3 (lJ G J (.ref (G.1 + u1)) (.ref (G.1 + v1)) (nI ro1) (nI co1))) ∧ h1[J + 1]? = some (aI 100 lk1) ∧ h1[J + 2]? = some (aI 11 (nA rc1)) ∧ h1[J + 3]? = some (aI 11264 bs1) ∧ h1[u1]? = some (aI 1024 wy1) ∧ h1[v1]? = some (aI 1024 nw1) ∧ h1[P]? = some (oB 4 (lG G P su1 wa1 (nI ve))) ∧ h1[P + 1]? = some (aI 10 pt1) ∧ h1[P + 2]? = some (aZ 10 ce1) ∧ grw 0 0 P (P + 2) h h1 ∧ (J + 4 ≤ u1 ∧ u1 ≤ J + 5) ∧ (J + 4 ≤ v1 ∧ v1 ≤ J + 5) ∧ u1 ≠ v1 ∧ (∀ j, j < 11 → rc1 j < 1024) ∧ pB pt1 ∧ h1.length = J + 6 ∧ True) := by
  refine cm_ofQ rfl (Nat.le_of_ble_eq_true rfl) [(0, .ref (G.1 + 0)), (1, .int (nI a)), (2, .int (nI b))] rfl (fun QF hQF => ?_)
  have tt_a : (nI a).toInt = (a : Int) := nI_toInt (by omega)
  have nn_a : tn (nI a) = a := tn_nI (by omega)
  have tt_b : (nI b).toInt = (b : Int) := nI_toInt (by omega)
  have nn_b : tn (nI b) = b := tn_nI (by omega)
  refine aw_iload_n 1 dX8_bests_0 rfl rfl ?_
  refine aw_iload_n 2 dX8_bests_1 rfl rfl ?_
  refine aw_dS [.int (nI a), .int (nI b)] [] lX8_104 sX8_areTwo mX8_areTwo dX8_bests_2 (bX8_areTwo (a := (nI a)) (b := (nI b)) ) rfl (Nat.le_of_ble_eq_true rfl) (by decide) (by decide) rfl ?_
  refine aw_if_ne 14 dX8_bests_5 (by decide) (fun c5 => ?_) (fun c5 => ?_)
  · have t5 := ite_1 c5
    refine aw_aload_n 0 dX8_bests_14 rfl rfl ?_
    refine aw_iload_n 1 dX8_bests_15 rfl rfl ?_
    refine aw_iload_n 2 dX8_bests_16 rfl rfl ?_
    refine aw_eV [.int (nI a), .int (nI b)] [] lX8_124 vX8_bestJoining mX8_bestJoining dX8_bests_17 (bJ_n (bv := bv) (P := P) (pv := pv) (su := su) (wa := wa) (pt := pt) (ce := ce) (m := m) (se := se) (ye := ye) (fi := fi) (W := W) (Sn := Sn) (Z := Z) (Ro := Ro) (Co := Co) (Ba := Ba) (nb := nb) (sp := sp) (fa := fa) (ve := ve) (a := a) (b := b) h0 h1 h2 h3 h4 h5 h6 h7 h8 h9 h10 h11 h12 hP hP_1 hP_2 (by omega) hm hse hfi hye (by omega) (by omega) (by omega) (by omega) (by omega) (by omega) (by omega) (by omega) (by omega) (by omega)) h0 rfl rfl rfl (Nat.le_of_ble_eq_true rfl) (by decide) (by decide) rfl (fun h4595 q4594 => ?_)
    obtain ⟨u14581, v14582, ro14583, co14584, rc14585, lk14586, bs14587, wy14588, nw14589, su14590, wa14591, pt14592, ce14593, f4596, f4597, f4598, f4599, f4600, f4601, f4602, f4603, f4604, f4605, k4606, p4607, p4608, p4609, p4610, p4611, p4612⟩ := q4594
    have f4613 := grw_at k4606 (by omega) h1
    have f4614 := grw_at k4606 (by omega) h2
    have f4615 := grw_at k4606 (by omega) h3
    have f4616 := grw_at k4606 (by omega) h4
    have f4617 := grw_at k4606 (by omega) h5
    have f4618 := grw_at k4606 (by omega) h6
    have f4619 := grw_at k4606 (by omega) h7
    have f4620 := grw_at k4606 (by omega) h8
    have f4621 := grw_at k4606 (by omega) h9
    have f4622 := grw_at k4606 (by omega) h10
    have f4623 := grw_at k4606 (by omega) h11
    have f4624 := grw_at k4606 (by omega) h12
    refine aw_get fX8_134 dX8_bests_20 f4603 rfl ?_
    subst hQF
    exact aw_iret rfl dX8_bests_23 (by decide) (by decide) ⟨_, rfl, _, _, _, _, _, _, _, _, _, _, _, _, _, f4596, f4597, f4598, f4599, f4600, f4601, f4602, f4603, f4604, f4605, grw_gg (grw_rf 0 0 P (P + 2) h) k4606 (fun j q1 q2 => by omega), p4607, p4608, p4609, p4610, p4611, p4612, trivial⟩
  · have t5 := ite_0 c5
    exfalso
    omega
