set_option maxHeartbeats 4000000 in
theorem oX8_joined_J {l : Launch} {G : xG} {h : List va_E} {bv : Value} {J u v ro co : Nat} {rc : Nat → Nat} {lk bs wy nw : Nat → Int32} {P pv : Nat} {su wa : Int32} {pt ce : Nat → Int32} {m se ye fi : Nat → Nat} {W Sn Z Ro Co : Nat → Int32} {Ba : Nat → Int64} {nb sp fa ve : Nat} {lx : Nat → Nat → Nat} {a b : Nat} {i : Nat} (h0 : h[0]? = some (oB 8 (lX G (.ref (G.1 + J)) (bv)))) (h1 : h[1]? = some (oB 1 (lC G (nI nb) (nI sp) (nI fa) (nI ve)))) (h2 : h[2]? = some (aI 20 (nA m))) (h3 : h[3]? = some (aI 20 (nA se))) (h4 : h[4]? = some (aI 4 (nA ye))) (h5 : h[5]? = some (aI 4 (nA fi))) (h6 : h[6]? = some (aI 40 W)) (h7 : h[7]? = some (aI 40 Sn)) (h8 : h[8]? = some (aI 40 Z)) (h9 : h[9]? = some (aI 40 Ro)) (h10 : h[10]? = some (aI 40 Co)) (h11 : h[11]? = some (aL 40 Ba)) (h12 : h[12]? = some (aR 16 (xjo G.1 16))) (hJ : h[J]? = some (oB 3 (lJ G J (.ref (G.1 + u)) (.ref (G.1 + v)) (nI ro) (nI co)))) (hJ_1 : h[J + 1]? = some (aI 100 lk)) (hJ_2 : h[J + 2]? = some (aI 11 (nA rc))) (hJ_3 : h[J + 3]? = some (aI 11264 bs)) (hu : h[u]? = some (aI 1024 wy)) (hv : h[v]? = some (aI 1024 nw)) (hP : h[P]? = some (oB 4 (lG G P su wa (nI pv)))) (hP_1 : h[P + 1]? = some (aI 10 pt)) (hP_2 : h[P + 2]? = some (aZ 10 ce)) (ba : a < 4) (bb : b < 4) (hab : a ≠ b) (bi : i < fi a) (qu : J + 4 ≤ u ∧ u ≤ J + 5) (qv : J + 4 ≤ v ∧ v ≤ J + 5) (quv : (u ≠ v ∧ wZ wy nw)) (hrc : ∀ j, j < 11 → rc j < 1024) (qP : P + 2 < J) (hm : ∀ j, j < 20 → m j ≤ j) (hse : ∀ j, j < 20 → se j < 20) (hfi : ∀ j, j < 4 → fi j < 11) (hye : ∀ j, j < 4 → ye j < 1901) (qJ : 125 ≤ J) (qP1 : 12 < P) (hpt : pB pt) (eP : P = 13 + 3 * (a * 4 + b)) (hlx : ∀ i, i < fi a → ∀ k, k < fi b → likeC ye Sn Z Ro Co Ba sp fa (a * 10 + i) (b * 10 + k) = nI (lx i k)) (hlx3 : ∀ i k, lx i k ≤ 300) (bpv : pv ≤ 600) (bve : ve ≤ 600) (hJK : pv = ve → jK lx (fi a) (fi b) su wa pt ce) : CU l G yX8_joined cX8_joined 4 (some .int) 6 0 0 [.ref (G.1 + 0), .int (nI a), .int (nI i), .int (nI b)] h (fun r h1 => ∃ u1 : Nat, ∃ v1 : Nat, ∃ ro1 : Nat, ∃ co1 : Nat, ∃ rc1 : Nat → Nat, ∃ lk1 : Nat → Int32, ∃ bs1 : Nat → Int32, ∃ wy1 : Nat → Int32, ∃ nw1 : Nat → Int32, ∃ su1 : Int32, ∃ wa1 : Int32, ∃ pt1 : Nat → Int32, ∃ ce1 : Nat → Int32, h1[J]? = some (oB 3 (lJ G J (.ref (G.1 + u1)) (.ref (G.1 + v1)) (nI ro1) (nI co1))) ∧ h1[J + 1]? = some (aI 100 lk1) ∧ h1[J + 2]? = some (aI 11 (nA rc1)) ∧ h1[J + 3]? = some (aI 11264 bs1) ∧ h1[u1]? = some (aI 1024 wy1) ∧ h1[v1]? = some (aI 1024 nw1) ∧ h1[P]? = some (oB 4 (lG G P su1 wa1 (nI ve))) ∧ h1[P + 1]? = some (aI 10 pt1) ∧ h1[P + 2]? = some (aZ 10 ce1) ∧ rg2 P (P + 2) J (J + 5) h h1 ∧ (J + 4 ≤ u1 ∧ u1 ≤ J + 5) ∧ (J + 4 ≤ v1 ∧ v1 ≤ J + 5) ∧ (u1 ≠ v1 ∧ wZ wy1 nw1) ∧ (∀ j, j < 11 → rc1 j < 1024) ∧ pB pt1 ∧ jK lx (fi a) (fi b) su1 wa1 pt1 ce1 ∧ r = jP lx (fi b) (fi a) i) := by
  refine cm_ofQ rfl (Nat.le_of_ble_eq_true rfl) [(0, .ref (G.1 + 0)), (1, .int (nI a)), (2, .int (nI i)), (3, .int (nI b))] rfl (fun QF hQF => ?_)
  have tt_a : (nI a).toInt = (a : Int) := nI_toInt (by omega)
  have nn_a : tn (nI a) = a := tn_nI (by omega)
  have tt_b : (nI b).toInt = (b : Int) := nI_toInt (by omega)
  have nn_b : tn (nI b) = b := tn_nI (by omega)
  have hf_a : fi (tn (nI a)) = fi a := by rw [nn_a]
  have hg_a := hfi a (by omega)
  have hf_b : fi (tn (nI b)) = fi b := by rw [nn_b]
  have hg_b := hfi b (by omega)
  have tt_i : (nI i).toInt = (i : Int) := nI_toInt (by omega)
  have nn_i : tn (nI i) = i := tn_nI (by omega)
  refine aw_iload_n 1 dX8_joined_0 rfl rfl ?_
  refine aw_iload_n 3 dX8_joined_1 rfl rfl ?_
  refine aw_dS [.int (nI a), .int (nI b)] [] lX8_104 sX8_areTwo mX8_areTwo dX8_joined_2 (bX8_areTwo (a := (nI a)) (b := (nI b)) ) rfl (Nat.le_of_ble_eq_true rfl) (by decide) (by decide) rfl ?_
  refine aw_if_eq 17 dX8_joined_5 (by decide) (fun c5 => ?_) (fun c5 => ?_)
  · have t5 := ite_0 c5
    exfalso
    omega
  · have t5 := ite_1 c5
    refine aw_aload_n 0 dX8_joined_8 rfl rfl ?_
    refine aw_iload_n 1 dX8_joined_9 rfl rfl ?_
    refine aw_iload_n 2 dX8_joined_10 rfl rfl ?_
    refine aw_dV [.int (nI a), .int (nI i)] [] lX8_107 vX8_isEntry mX8_isEntry dX8_joined_11 (bX8_isEntry (jv := .ref (G.1 + J)) (bv := bv) (fi := fi) (nb := nb) (sp := sp) (fa := fa) (ve := ve) (c := (nI a)) (i := (nI i)) h0 h1 h5 hfi) h0 rfl rfl rfl (Nat.le_of_ble_eq_true rfl) (by decide) (by decide) rfl ?_
    refine aw_if_ne 23 dX8_joined_14 (by decide) (fun c14 => ?_) (fun c14 => ?_)
    · have t14 := ite_1 c14
      refine aw_aload_n 0 dX8_joined_23 rfl rfl ?_
      refine aw_iload_n 1 dX8_joined_24 rfl rfl ?_
      refine aw_iload_n 3 dX8_joined_25 rfl rfl ?_
      refine aw_eV [.int (nI a), .int (nI b)] [] lX8_124 vX8_bestJoining mX8_bestJoining dX8_joined_26 (bJ (bv := bv) (J := J) (u := u) (v := v) (ro := ro) (co := co) (rc := rc) (lk := lk) (bs := bs) (wy := wy) (nw := nw) (P := P) (pv := pv) (su := su) (wa := wa) (pt := pt) (ce := ce) (m := m) (se := se) (ye := ye) (fi := fi) (W := W) (Sn := Sn) (Z := Z) (Ro := Ro) (Co := Co) (Ba := Ba) (nb := nb) (sp := sp) (fa := fa) (ve := ve) (a := a) (b := b) h0 h1 h2 h3 h4 h5 h6 h7 h8 h9 h10 h11 h12 hJ hJ_1 hJ_2 hJ_3 hu hv hP hP_1 hP_2 (by omega) (by omega) (by omega) hrc (by omega) hm hse hfi hye (by omega) (by omega) (by omega) (by omega) (by omega) (by omega) hlx hlx3 (by omega) (by omega) hJK) h0 rfl rfl rfl (Nat.le_of_ble_eq_true rfl) (by decide) (by decide) rfl (fun h4432 q4431 => ?_)
      obtain ⟨u14418, v14419, ro14420, co14421, rc14422, lk14423, bs14424, wy14425, nw14426, su14427, wa14428, pt14429, ce14430, f4433, f4434, f4435, f4436, f4437, f4438, f4439, f4440, f4441, k4442, p4443, p4444, p4445, p4446, p4447, p4448⟩ := q4431
      have f4449 := rg2_at k4442 (by omega) h0
      have f4450 := rg2_at k4442 (by omega) h1
      have f4451 := rg2_at k4442 (by omega) h2
      have f4452 := rg2_at k4442 (by omega) h3
      have f4453 := rg2_at k4442 (by omega) h4
      have f4454 := rg2_at k4442 (by omega) h5
      have f4455 := rg2_at k4442 (by omega) h6
      have f4456 := rg2_at k4442 (by omega) h7
      have f4457 := rg2_at k4442 (by omega) h8
      have f4458 := rg2_at k4442 (by omega) h9
      have f4459 := rg2_at k4442 (by omega) h10
      have f4460 := rg2_at k4442 (by omega) h11
      have f4461 := rg2_at k4442 (by omega) h12
      refine aw_get fX8_131 dX8_joined_29 f4439 rfl ?_
      refine aw_iload_n 2 dX8_joined_32 rfl rfl ?_
      refine aw_iald i (rfl) (by omega) (by decide) dX8_joined_33 f4440 ?_
      subst hQF
      exact aw_iret rfl dX8_joined_34 (by decide) (by decide) ⟨_, rfl, _, _, _, _, _, _, _, _, _, _, _, _, _, f4433, f4434, f4435, f4436, f4437, f4438, f4439, f4440, f4441, rg2_tr (rg2_rf P (P + 2) J (J + 5) h) (rg2_w2 k4442 (by omega) (by omega)), p4443, p4444, p4445, p4446, p4447, p4448, p4448.2.1 i bi⟩
    · have t14 := ite_0 c14
      exfalso
      omega
set_option maxHeartbeats 4000000 in
theorem oX8_joined_n {l : Launch} {G : xG} {h : List va_E} {bv : Value} {J : Nat} {P pv : Nat} {su wa : Int32} {pt ce : Nat → Int32} {m se ye fi : Nat → Nat} {W Sn Z Ro Co : Nat → Int32} {Ba : Nat → Int64} {nb sp fa ve : Nat} {lx : Nat → Nat → Nat} {a b : Nat} {i : Nat} (h0 : h[0]? = some (oB 8 (lX G (.null) (bv)))) (h1 : h[1]? = some (oB 1 (lC G (nI nb) (nI sp) (nI fa) (nI ve)))) (h2 : h[2]? = some (aI 20 (nA m))) (h3 : h[3]? = some (aI 20 (nA se))) (h4 : h[4]? = some (aI 4 (nA ye))) (h5 : h[5]? = some (aI 4 (nA fi))) (h6 : h[6]? = some (aI 40 W)) (h7 : h[7]? = some (aI 40 Sn)) (h8 : h[8]? = some (aI 40 Z)) (h9 : h[9]? = some (aI 40 Ro)) (h10 : h[10]? = some (aI 40 Co)) (h11 : h[11]? = some (aL 40 Ba)) (h12 : h[12]? = some (aR 16 (xjo G.1 16))) (hP : h[P]? = some (oB 4 (lG G P su wa (nI pv)))) (hP_1 : h[P + 1]? = some (aI 10 pt)) (hP_2 : h[P + 2]? = some (aZ 10 ce)) (ba : a < 4) (bb : b < 4) (hab : a ≠ b) (bi : i < fi a) (hl : h.length = J) (hm : ∀ j, j < 20 → m j ≤ j) (hse : ∀ j, j < 20 → se j < 20) (hfi : ∀ j, j < 4 → fi j < 11) (hye : ∀ j, j < 4 → ye j < 1901) (qJ : 125 ≤ J) (qP : P + 2 < J) (qP1 : 12 < P) (hpt : pB pt) (eP : P = 13 + 3 * (a * 4 + b)) (hlx : ∀ i, i < fi a → ∀ k, k < fi b → likeC ye Sn Z Ro Co Ba sp fa (a * 10 + i) (b * 10 + k) = nI (lx i k)) (hlx3 : ∀ i k, lx i k ≤ 300) (bpv : pv ≤ 600) (bve : ve ≤ 600) (hvv : ¬ pv = ve) : CU l G yX8_joined cX8_joined 4 (some .int) 6 6 13430 [.ref (G.1 + 0), .int (nI a), .int (nI i), .int (nI b)] h (fun r h1 => ∃ u1 : Nat, ∃ v1 : Nat, ∃ ro1 : Nat, ∃ co1 : Nat, ∃ rc1 : Nat → Nat, ∃ lk1 : Nat → Int32, ∃ bs1 : Nat → Int32, ∃ wy1 : Nat → Int32, ∃ nw1 : Nat → Int32, ∃ su1 : Int32, ∃ wa1 : Int32, ∃ pt1 : Nat → Int32, ∃ ce1 : Nat → Int32, h1[0]? = some (oB 8 (lX G (.ref (G.1 + J)) (bv))) ∧ h1[J]? = some (oB 3 (lJ G J (.ref (G.1 + u1)) (.ref (G.1 + v1)) (nI ro1) (nI co1))) ∧ h1[J + 1]? = some (aI 100 lk1) ∧ h1[J + 2]? = some (aI 11 (nA rc1)) ∧ h1[J + 3]? = some (aI 11264 bs1) ∧ h1[u1]? = some (aI 1024 wy1) ∧ h1[v1]? = some (aI 1024 nw1) ∧ h1[P]? = some (oB 4 (lG G P su1 wa1 (nI ve))) ∧ h1[P + 1]? = some (aI 10 pt1) ∧ h1[P + 2]? = some (aZ 10 ce1) ∧ grw 0 0 P (P + 2) h h1 ∧ (J + 4 ≤ u1 ∧ u1 ≤ J + 5) ∧ (J + 4 ≤ v1 ∧ v1 ≤ J + 5) ∧ (u1 ≠ v1 ∧ wZ wy1 nw1) ∧ (∀ j, j < 11 → rc1 j < 1024) ∧ pB pt1 ∧ jK lx (fi a) (fi b) su1 wa1 pt1 ce1 ∧ h1.length = J + 6 ∧ r = jP lx (fi b) (fi a) i) := by
  refine cm_ofQ rfl (Nat.le_of_ble_eq_true rfl) [(0, .ref (G.1 + 0)), (1, .int (nI a)), (2, .int (nI i)), (3, .int (nI b))] rfl (fun QF hQF => ?_)
  have tt_a : (nI a).toInt = (a : Int) := nI_toInt (by omega)
  have nn_a : tn (nI a) = a := tn_nI (by omega)
  have tt_b : (nI b).toInt = (b : Int) := nI_toInt (by omega)
  have nn_b : tn (nI b) = b := tn_nI (by omega)
  have hf_a : fi (tn (nI a)) = fi a := by rw [nn_a]
  have hg_a := hfi a (by omega)
  have hf_b : fi (tn (nI b)) = fi b := by rw [nn_b]
  have hg_b := hfi b (by omega)
  have tt_i : (nI i).toInt = (i : Int) := nI_toInt (by omega)
  have nn_i : tn (nI i) = i := tn_nI (by omega)
  refine aw_iload_n 1 dX8_joined_0 rfl rfl ?_
  refine aw_iload_n 3 dX8_joined_1 rfl rfl ?_
  refine aw_dS [.int (nI a), .int (nI b)] [] lX8_104 sX8_areTwo mX8_areTwo dX8_joined_2 (bX8_areTwo (a := (nI a)) (b := (nI b)) ) rfl (Nat.le_of_ble_eq_true rfl) (by decide) (by decide) rfl ?_
  refine aw_if_eq 17 dX8_joined_5 (by decide) (fun c5 => ?_) (fun c5 => ?_)
  · have t5 := ite_0 c5
    exfalso
    omega
  · have t5 := ite_1 c5
    refine aw_aload_n 0 dX8_joined_8 rfl rfl ?_
    refine aw_iload_n 1 dX8_joined_9 rfl rfl ?_
    refine aw_iload_n 2 dX8_joined_10 rfl rfl ?_
    refine aw_dV [.int (nI a), .int (nI i)] [] lX8_107 vX8_isEntry mX8_isEntry dX8_joined_11 (bX8_isEntry (jv := .null) (bv := bv) (fi := fi) (nb := nb) (sp := sp) (fa := fa) (ve := ve) (c := (nI a)) (i := (nI i)) h0 h1 h5 hfi) h0 rfl rfl rfl (Nat.le_of_ble_eq_true rfl) (by decide) (by decide) rfl ?_
    refine aw_if_ne 23 dX8_joined_14 (by decide) (fun c14 => ?_) (fun c14 => ?_)
    · have t14 := ite_1 c14
      refine aw_aload_n 0 dX8_joined_23 rfl rfl ?_
      refine aw_iload_n 1 dX8_joined_24 rfl rfl ?_
      refine aw_iload_n 3 dX8_joined_25 rfl rfl ?_
      refine aw_eV [.int (nI a), .int (nI b)] [] lX8_124 vX8_bestJoining mX8_bestJoining dX8_joined_26 (bJ_n (bv := bv) (P := P) (pv := pv) (su := su) (wa := wa) (pt := pt) (ce := ce) (m := m) (se := se) (ye := ye) (fi := fi) (W := W) (Sn := Sn) (Z := Z) (Ro := Ro) (Co := Co) (Ba := Ba) (nb := nb) (sp := sp) (fa := fa) (ve := ve) (a := a) (b := b) h0 h1 h2 h3 h4 h5 h6 h7 h8 h9 h10 h11 h12 hP hP_1 hP_2 (by omega) hm hse hfi hye (by omega) (by omega) (by omega) (by omega) (by omega) (by omega) (by omega) hlx hlx3 (by omega) (by omega) (by omega)) h0 rfl rfl rfl (Nat.le_of_ble_eq_true rfl) (by decide) (by decide) rfl (fun h4476 q4475 => ?_)
      obtain ⟨u14462, v14463, ro14464, co14465, rc14466, lk14467, bs14468, wy14469, nw14470, su14471, wa14472, pt14473, ce14474, f4477, f4478, f4479, f4480, f4481, f4482, f4483, f4484, f4485, f4486, k4487, p4488, p4489, p4490, p4491, p4492, p4493, p4494⟩ := q4475
      have f4495 := grw_at k4487 (by omega) h1
      have f4496 := grw_at k4487 (by omega) h2
      have f4497 := grw_at k4487 (by omega) h3
      have f4498 := grw_at k4487 (by omega) h4
      have f4499 := grw_at k4487 (by omega) h5
      have f4500 := grw_at k4487 (by omega) h6
      have f4501 := grw_at k4487 (by omega) h7
      have f4502 := grw_at k4487 (by omega) h8
      have f4503 := grw_at k4487 (by omega) h9
      have f4504 := grw_at k4487 (by omega) h10
      have f4505 := grw_at k4487 (by omega) h11
      have f4506 := grw_at k4487 (by omega) h12
      refine aw_get fX8_131 dX8_joined_29 f4484 rfl ?_
      refine aw_iload_n 2 dX8_joined_32 rfl rfl ?_
      refine aw_iald i (rfl) (by omega) (by decide) dX8_joined_33 f4485 ?_
      subst hQF
      exact aw_iret rfl dX8_joined_34 (by decide) (by decide) ⟨_, rfl, _, _, _, _, _, _, _, _, _, _, _, _, _, f4477, f4478, f4479, f4480, f4481, f4482, f4483, f4484, f4485, f4486, grw_gg (grw_rf 0 0 P (P + 2) h) k4487 (fun j q1 q2 => by omega), p4488, p4489, p4490, p4491, p4492, p4493, p4494, p4493.2.1 i bi⟩
    · have t14 := ite_0 c14
      exfalso
      omega
set_option maxHeartbeats 4000000 in
theorem oX8_bests_J {l : Launch} {G : xG} {h : List va_E} {bv : Value} {J u v ro co : Nat} {rc : Nat → Nat} {lk bs wy nw : Nat → Int32} {P pv : Nat} {su wa : Int32} {pt ce : Nat → Int32} {m se ye fi : Nat → Nat} {W Sn Z Ro Co : Nat → Int32} {Ba : Nat → Int64} {nb sp fa ve : Nat} {lx : Nat → Nat → Nat} {a b : Nat} (h0 : h[0]? = some (oB 8 (lX G (.ref (G.1 + J)) (bv)))) (h1 : h[1]? = some (oB 1 (lC G (nI nb) (nI sp) (nI fa) (nI ve)))) (h2 : h[2]? = some (aI 20 (nA m))) (h3 : h[3]? = some (aI 20 (nA se))) (h4 : h[4]? = some (aI 4 (nA ye))) (h5 : h[5]? = some (aI 4 (nA fi))) (h6 : h[6]? = some (aI 40 W)) (h7 : h[7]? = some (aI 40 Sn)) (h8 : h[8]? = some (aI 40 Z)) (h9 : h[9]? = some (aI 40 Ro)) (h10 : h[10]? = some (aI 40 Co)) (h11 : h[11]? = some (aL 40 Ba)) (h12 : h[12]? = some (aR 16 (xjo G.1 16))) (hJ : h[J]? = some (oB 3 (lJ G J (.ref (G.1 + u)) (.ref (G.1 + v)) (nI ro) (nI co)))) (hJ_1 : h[J + 1]? = some (aI 100 lk)) (hJ_2 : h[J + 2]? = some (aI 11 (nA rc))) (hJ_3 : h[J + 3]? = some (aI 11264 bs)) (hu : h[u]? = some (aI 1024 wy)) (hv : h[v]? = some (aI 1024 nw)) (hP : h[P]? = some (oB 4 (lG G P su wa (nI pv)))) (hP_1 : h[P + 1]? = some (aI 10 pt)) (hP_2 : h[P + 2]? = some (aZ 10 ce)) (ba : a < 4) (bb : b < 4) (hab : a ≠ b) (qu : J + 4 ≤ u ∧ u ≤ J + 5) (qv : J + 4 ≤ v ∧ v ≤ J + 5) (quv : (u ≠ v ∧ wZ wy nw)) (hrc : ∀ j, j < 11 → rc j < 1024) (qP : P + 2 < J) (hm : ∀ j, j < 20 → m j ≤ j) (hse : ∀ j, j < 20 → se j < 20) (hfi : ∀ j, j < 4 → fi j < 11) (hye : ∀ j, j < 4 → ye j < 1901) (qJ : 125 ≤ J) (qP1 : 12 < P) (hpt : pB pt) (eP : P = 13 + 3 * (a * 4 + b)) (hlx : ∀ i, i < fi a → ∀ k, k < fi b → likeC ye Sn Z Ro Co Ba sp fa (a * 10 + i) (b * 10 + k) = nI (lx i k)) (hlx3 : ∀ i k, lx i k ≤ 300) (bpv : pv ≤ 600) (bve : ve ≤ 600) (hJK : pv = ve → jK lx (fi a) (fi b) su wa pt ce) : CU l G yX8_bests cX8_bests 3 (some .int) 6 0 0 [.ref (G.1 + 0), .int (nI a), .int (nI b)] h (fun r h1 => ∃ u1 : Nat, ∃ v1 : Nat, ∃ ro1 : Nat, ∃ co1 : Nat, ∃ rc1 : Nat → Nat, ∃ lk1 : Nat → Int32, ∃ bs1 : Nat → Int32, ∃ wy1 : Nat → Int32, ∃ nw1 : Nat → Int32, ∃ su1 : Int32, ∃ wa1 : Int32, ∃ pt1 : Nat → Int32, ∃ ce1 : Nat → Int32, h1[J]? = some (oB 3 (lJ G J (.ref (G.1 + u1)) (.ref (G.1 + v1)) (nI ro1) (nI co1))) ∧ h1[J + 1]? = some (aI 100 lk1) ∧ h1[J + 2]? = some (aI 11 (nA rc1)) ∧ h1[J + 3]? = some (aI 11264 bs1) ∧ h1[u1]? = some (aI 1024 wy1) ∧ h1[v1]? = some (aI 1024 nw1) ∧ h1[P]? = some (oB 4 (lG G P su1 wa1 (nI ve))) ∧ h1[P + 1]? = some (aI 10 pt1) ∧ h1[P + 2]? = some (aZ 10 ce1) ∧ rg2 P (P + 2) J (J + 5) h h1 ∧ (J + 4 ≤ u1 ∧ u1 ≤ J + 5) ∧ (J + 4 ≤ v1 ∧ v1 ≤ J + 5) ∧ (u1 ≠ v1 ∧ wZ wy1 nw1) ∧ (∀ j, j < 11 → rc1 j < 1024) ∧ pB pt1 ∧ jK lx (fi a) (fi b) su1 wa1 pt1 ce1 ∧ r = nI (min 1000000 (jC lx (fi b) (fi a) 0 0))) := by
  refine cm_ofQ rfl (Nat.le_of_ble_eq_true rfl) [(0, .ref (G.1 + 0)), (1, .int (nI a)), (2, .int (nI b))] rfl (fun QF hQF => ?_)
  have tt_a : (nI a).toInt = (a : Int) := nI_toInt (by omega)
  have nn_a : tn (nI a) = a := tn_nI (by omega)
  have tt_b : (nI b).toInt = (b : Int) := nI_toInt (by omega)
  have nn_b : tn (nI b) = b := tn_nI (by omega)
  refine aw_iload_n 1 dX8_bests_0 rfl rfl ?_
  refine aw_iload_n 2 dX8_bests_1 rfl rfl ?_
  refine aw_dS [.int (nI a), .int (nI b)] [] lX8_104 sX8_areTwo mX8_areTwo dX8_bests_2 (bX8_areTwo (a := (nI a)) (b := (nI b)) ) rfl (Nat.le_of_ble_eq_true rfl) (by decide) (by decide) rfl ?_
  refine aw_if_ne 14 dX8_bests_5 (by decide) (fun c5 => ?_) (fun c5 => ?_)
  · have t5 := ite_1 c5
    refine aw_aload_n 0 dX8_bests_14 rfl rfl ?_
    refine aw_iload_n 1 dX8_bests_15 rfl rfl ?_
    refine aw_iload_n 2 dX8_bests_16 rfl rfl ?_
    refine aw_eV [.int (nI a), .int (nI b)] [] lX8_124 vX8_bestJoining mX8_bestJoining dX8_bests_17 (bJ (bv := bv) (J := J) (u := u) (v := v) (ro := ro) (co := co) (rc := rc) (lk := lk) (bs := bs) (wy := wy) (nw := nw) (P := P) (pv := pv) (su := su) (wa := wa) (pt := pt) (ce := ce) (m := m) (se := se) (ye := ye) (fi := fi) (W := W) (Sn := Sn) (Z := Z) (Ro := Ro) (Co := Co) (Ba := Ba) (nb := nb) (sp := sp) (fa := fa) (ve := ve) (a := a) (b := b) h0 h1 h2 h3 h4 h5 h6 h7 h8 h9 h10 h11 h12 hJ hJ_1 hJ_2 hJ_3 hu hv hP hP_1 hP_2 (by omega) (by omega) (by omega) hrc (by omega) hm hse hfi hye (by omega) (by omega) (by omega) (by omega) (by omega) (by omega) hlx hlx3 (by omega) (by omega) hJK) h0 rfl rfl rfl (Nat.le_of_ble_eq_true rfl) (by decide) (by decide) rfl (fun h4521 q4520 => ?_)
    obtain ⟨u14507, v14508, ro14509, co14510, rc14511, lk14512, bs14513, wy14514, nw14515, su14516, wa14517, pt14518, ce14519, f4522, f4523, f4524, f4525, f4526, f4527, f4528, f4529, f4530, k4531, p4532, p4533, p4534, p4535, p4536, p4537⟩ := q4520
    have f4538 := rg2_at k4531 (by omega) h0
    have f4539 := rg2_at k4531 (by omega) h1
    have f4540 := rg2_at k4531 (by omega) h2
    have f4541 := rg2_at k4531 (by omega) h3
    have f4542 := rg2_at k4531 (by omega) h4
    have f4543 := rg2_at k4531 (by omega) h5
    have f4544 := rg2_at k4531 (by omega) h6
    have f4545 := rg2_at k4531 (by omega) h7
    have f4546 := rg2_at k4531 (by omega) h8
    have f4547 := rg2_at k4531 (by omega) h9
    have f4548 := rg2_at k4531 (by omega) h10
    have f4549 := rg2_at k4531 (by omega) h11
    have f4550 := rg2_at k4531 (by omega) h12
    refine aw_get fX8_134 dX8_bests_20 f4528 rfl ?_
    subst hQF
    exact aw_iret rfl dX8_bests_23 (by decide) (by decide) ⟨_, rfl, _, _, _, _, _, _, _, _, _, _, _, _, _, f4522, f4523, f4524, f4525, f4526, f4527, f4528, f4529, f4530, rg2_tr (rg2_rf P (P + 2) J (J + 5) h) (rg2_w2 k4531 (by omega) (by omega)), p4532, p4533, p4534, p4535, p4536, p4537, p4537.2.2.1⟩
  · have t5 := ite_0 c5
    exfalso
    omega
set_option maxHeartbeats 4000000 in
theorem oX8_bests_n {l : Launch} {G : xG} {h : List va_E} {bv : Value} {J : Nat} {P pv : Nat} {su wa : Int32} {pt ce : Nat → Int32} {m se ye fi : Nat → Nat} {W Sn Z Ro Co : Nat → Int32} {Ba : Nat → Int64} {nb sp fa ve : Nat} {lx : Nat → Nat → Nat} {a b : Nat} (h0 : h[0]? = some (oB 8 (lX G (.null) (bv)))) (h1 : h[1]? = some (oB 1 (lC G (nI nb) (nI sp) (nI fa) (nI ve)))) (h2 : h[2]? = some (aI 20 (nA m))) (h3 : h[3]? = some (aI 20 (nA se))) (h4 : h[4]? = some (aI 4 (nA ye))) (h5 : h[5]? = some (aI 4 (nA fi))) (h6 : h[6]? = some (aI 40 W)) (h7 : h[7]? = some (aI 40 Sn)) (h8 : h[8]? = some (aI 40 Z)) (h9 : h[9]? = some (aI 40 Ro)) (h10 : h[10]? = some (aI 40 Co)) (h11 : h[11]? = some (aL 40 Ba)) (h12 : h[12]? = some (aR 16 (xjo G.1 16))) (hP : h[P]? = some (oB 4 (lG G P su wa (nI pv)))) (hP_1 : h[P + 1]? = some (aI 10 pt)) (hP_2 : h[P + 2]? = some (aZ 10 ce)) (ba : a < 4) (bb : b < 4) (hab : a ≠ b) (hl : h.length = J) (hm : ∀ j, j < 20 → m j ≤ j) (hse : ∀ j, j < 20 → se j < 20) (hfi : ∀ j, j < 4 → fi j < 11) (hye : ∀ j, j < 4 → ye j < 1901) (qJ : 125 ≤ J) (qP : P + 2 < J) (qP1 : 12 < P) (hpt : pB pt) (eP : P = 13 + 3 * (a * 4 + b)) (hlx : ∀ i, i < fi a → ∀ k, k < fi b → likeC ye Sn Z Ro Co Ba sp fa (a * 10 + i) (b * 10 + k) = nI (lx i k)) (hlx3 : ∀ i k, lx i k ≤ 300) (bpv : pv ≤ 600) (bve : ve ≤ 600) (hvv : ¬ pv = ve) : CU l G yX8_bests cX8_bests 3 (some .int) 6 6 13430 [.ref (G.1 + 0), .int (nI a), .int (nI b)] h (fun r h1 => ∃ u1 : Nat, ∃ v1 : Nat, ∃ ro1 : Nat, ∃ co1 : Nat, ∃ rc1 : Nat → Nat, ∃ lk1 : Nat → Int32, ∃ bs1 : Nat → Int32, ∃ wy1 : Nat → Int32, ∃ nw1 : Nat → Int32, ∃ su1 : Int32, ∃ wa1 : Int32, ∃ pt1 : Nat → Int32, ∃ ce1 : Nat → Int32, h1[0]? = some (oB 8 (lX G (.ref (G.1 + J)) (bv))) ∧ h1[J]? = some (oB 3 (lJ G J (.ref (G.1 + u1)) (.ref (G.1 + v1)) (nI ro1) (nI co1))) ∧ h1[J + 1]? = some (aI 100 lk1) ∧ h1[J + 2]? = some (aI 11 (nA rc1)) ∧ h1[J + 3]? = some (aI 11264 bs1) ∧ h1[u1]? = some (aI 1024 wy1) ∧ h1[v1]? = some (aI 1024 nw1) ∧ h1[P]? = some (oB 4 (lG G P su1 wa1 (nI ve))) ∧ h1[P + 1]? = some (aI 10 pt1) ∧ h1[P + 2]? = some (aZ 10 ce1) ∧ grw 0 0 P (P + 2) h h1 ∧ (J + 4 ≤ u1 ∧ u1 ≤ J + 5) ∧ (J + 4 ≤ v1 ∧ v1 ≤ J + 5) ∧ (u1 ≠ v1 ∧ wZ wy1 nw1) ∧ (∀ j, j < 11 → rc1 j < 1024) ∧ pB pt1 ∧ jK lx (fi a) (fi b) su1 wa1 pt1 ce1 ∧ h1.length = J + 6 ∧ r = nI (min 1000000 (jC lx (fi b) (fi a) 0 0))) := by
  refine cm_ofQ rfl (Nat.le_of_ble_eq_true rfl) [(0, .ref (G.1 + 0)), (1, .int (nI a)), (2, .int (nI b))] rfl (fun QF hQF => ?_)
  have tt_a : (nI a).toInt = (a : Int) := nI_toInt (by omega)
  have nn_a : tn (nI a) = a := tn_nI (by omega)
  have tt_b : (nI b).toInt = (b : Int) := nI_toInt (by omega)
  have nn_b : tn (nI b) = b := tn_nI (by omega)
  refine aw_iload_n 1 dX8_bests_0 rfl rfl ?_
  refine aw_iload_n 2 dX8_bests_1 rfl rfl ?_
  refine aw_dS [.int (nI a), .int (nI b)] [] lX8_104 sX8_areTwo mX8_areTwo dX8_bests_2 (bX8_areTwo (a := (nI a)) (b := (nI b)) ) rfl (Nat.le_of_ble_eq_true rfl) (by decide) (by decide) rfl ?_
  refine aw_if_ne 14 dX8_bests_5 (by decide) (fun c5 => ?_) (fun c5 => ?_)
  · have t5 := ite_1 c5
    refine aw_aload_n 0 dX8_bests_14 rfl rfl ?_
    refine aw_iload_n 1 dX8_bests_15 rfl rfl ?_
    refine aw_iload_n 2 dX8_bests_16 rfl rfl ?_
    refine aw_eV [.int (nI a), .int (nI b)] [] lX8_124 vX8_bestJoining mX8_bestJoining dX8_bests_17 (bJ_n (bv := bv) (P := P) (pv := pv) (su := su) (wa := wa) (pt := pt) (ce := ce) (m := m) (se := se) (ye := ye) (fi := fi) (W := W) (Sn := Sn) (Z := Z) (Ro := Ro) (Co := Co) (Ba := Ba) (nb := nb) (sp := sp) (fa := fa) (ve := ve) (a := a) (b := b) h0 h1 h2 h3 h4 h5 h6 h7 h8 h9 h10 h11 h12 hP hP_1 hP_2 (by omega) hm hse hfi hye (by omega) (by omega) (by omega) (by omega) (by omega) (by omega) (by omega) hlx hlx3 (by omega) (by omega) (by omega)) h0 rfl rfl rfl (Nat.le_of_ble_eq_true rfl) (by decide) (by decide) rfl (fun h4565 q4564 => ?_)
    obtain ⟨u14551, v14552, ro14553, co14554, rc14555, lk14556, bs14557, wy14558, nw14559, su14560, wa14561, pt14562, ce14563, f4566, f4567, f4568, f4569, f4570, f4571, f4572, f4573, f4574, f4575, k4576, p4577, p4578, p4579, p4580, p4581, p4582, p4583⟩ := q4564
    have f4584 := grw_at k4576 (by omega) h1
    have f4585 := grw_at k4576 (by omega) h2
    have f4586 := grw_at k4576 (by omega) h3
    have f4587 := grw_at k4576 (by omega) h4
    have f4588 := grw_at k4576 (by omega) h5
    have f4589 := grw_at k4576 (by omega) h6
    have f4590 := grw_at k4576 (by omega) h7
    have f4591 := grw_at k4576 (by omega) h8
    have f4592 := grw_at k4576 (by omega) h9
    have f4593 := grw_at k4576 (by omega) h10
    have f4594 := grw_at k4576 (by omega) h11
    have f4595 := grw_at k4576 (by omega) h12
    refine aw_get fX8_134 dX8_bests_20 f4573 rfl ?_
    subst hQF
    exact aw_iret rfl dX8_bests_23 (by decide) (by decide) ⟨_, rfl, _, _, _, _, _, _, _, _, _, _, _, _, _, f4566, f4567, f4568, f4569, f4570, f4571, f4572, f4573, f4574, f4575, grw_gg (grw_rf 0 0 P (P + 2) h) k4576 (fun j q1 q2 => by omega), p4577, p4578, p4579, p4580, p4581, p4582, p4583, p4582.2.2.1⟩
  · have t5 := ite_0 c5
    exfalso
    omega
set_option maxHeartbeats 4000000 in
theorem oX8_sure_J {l : Launch} {G : xG} {h : List va_E} {bv : Value} {J u v ro co : Nat} {rc : Nat → Nat} {lk bs wy nw : Nat → Int32} {P pv : Nat} {su wa : Int32} {pt ce : Nat → Int32} {m se ye fi : Nat → Nat} {W Sn Z Ro Co : Nat → Int32} {Ba : Nat → Int64} {nb sp fa ve : Nat} {lx : Nat → Nat → Nat} {a b : Nat} {i : Nat} (h0 : h[0]? = some (oB 8 (lX G (.ref (G.1 + J)) (bv)))) (h1 : h[1]? = some (oB 1 (lC G (nI nb) (nI sp) (nI fa) (nI ve)))) (h2 : h[2]? = some (aI 20 (nA m))) (h3 : h[3]? = some (aI 20 (nA se))) (h4 : h[4]? = some (aI 4 (nA ye))) (h5 : h[5]? = some (aI 4 (nA fi))) (h6 : h[6]? = some (aI 40 W)) (h7 : h[7]? = some (aI 40 Sn)) (h8 : h[8]? = some (aI 40 Z)) (h9 : h[9]? = some (aI 40 Ro)) (h10 : h[10]? = some (aI 40 Co)) (h11 : h[11]? = some (aL 40 Ba)) (h12 : h[12]? = some (aR 16 (xjo G.1 16))) (hJ : h[J]? = some (oB 3 (lJ G J (.ref (G.1 + u)) (.ref (G.1 + v)) (nI ro) (nI co)))) (hJ_1 : h[J + 1]? = some (aI 100 lk)) (hJ_2 : h[J + 2]? = some (aI 11 (nA rc))) (hJ_3 : h[J + 3]? = some (aI 11264 bs)) (hu : h[u]? = some (aI 1024 wy)) (hv : h[v]? = some (aI 1024 nw)) (hP : h[P]? = some (oB 4 (lG G P su wa (nI pv)))) (hP_1 : h[P + 1]? = some (aI 10 pt)) (hP_2 : h[P + 2]? = some (aZ 10 ce)) (ba : a < 4) (bb : b < 4) (hab : a ≠ b) (bi : i < fi a) (qu : J + 4 ≤ u ∧ u ≤ J + 5) (qv : J + 4 ≤ v ∧ v ≤ J + 5) (quv : (u ≠ v ∧ wZ wy nw)) (hrc : ∀ j, j < 11 → rc j < 1024) (qP : P + 2 < J) (hm : ∀ j, j < 20 → m j ≤ j) (hse : ∀ j, j < 20 → se j < 20) (hfi : ∀ j, j < 4 → fi j < 11) (hye : ∀ j, j < 4 → ye j < 1901) (qJ : 125 ≤ J) (qP1 : 12 < P) (hpt : pB pt) (eP : P = 13 + 3 * (a * 4 + b)) (hlx : ∀ i, i < fi a → ∀ k, k < fi b → likeC ye Sn Z Ro Co Ba sp fa (a * 10 + i) (b * 10 + k) = nI (lx i k)) (hlx3 : ∀ i k, lx i k ≤ 300) (bpv : pv ≤ 600) (bve : ve ≤ 600) (hJK : pv = ve → jK lx (fi a) (fi b) su wa pt ce) : CU l G yX8_sure cX8_sure 4 (some .int) 6 0 0 [.ref (G.1 + 0), .int (nI a), .int (nI i), .int (nI b)] h (fun r h1 => ∃ u1 : Nat, ∃ v1 : Nat, ∃ ro1 : Nat, ∃ co1 : Nat, ∃ rc1 : Nat → Nat, ∃ lk1 : Nat → Int32, ∃ bs1 : Nat → Int32, ∃ wy1 : Nat → Int32, ∃ nw1 : Nat → Int32, ∃ su1 : Int32, ∃ wa1 : Int32, ∃ pt1 : Nat → Int32, ∃ ce1 : Nat → Int32, h1[J]? = some (oB 3 (lJ G J (.ref (G.1 + u1)) (.ref (G.1 + v1)) (nI ro1) (nI co1))) ∧ h1[J + 1]? = some (aI 100 lk1) ∧ h1[J + 2]? = some (aI 11 (nA rc1)) ∧ h1[J + 3]? = some (aI 11264 bs1) ∧ h1[u1]? = some (aI 1024 wy1) ∧ h1[v1]? = some (aI 1024 nw1) ∧ h1[P]? = some (oB 4 (lG G P su1 wa1 (nI ve))) ∧ h1[P + 1]? = some (aI 10 pt1) ∧ h1[P + 2]? = some (aZ 10 ce1) ∧ rg2 P (P + 2) J (J + 5) h h1 ∧ (J + 4 ≤ u1 ∧ u1 ≤ J + 5) ∧ (J + 4 ≤ v1 ∧ v1 ≤ J + 5) ∧ (u1 ≠ v1 ∧ wZ wy1 nw1) ∧ (∀ j, j < 11 → rc1 j < 1024) ∧ pB pt1 ∧ jK lx (fi a) (fi b) su1 wa1 pt1 ce1 ∧ r = if jU lx (fi b) (fi a) i then 1 else 0) := by
  refine cm_ofQ rfl (Nat.le_of_ble_eq_true rfl) [(0, .ref (G.1 + 0)), (1, .int (nI a)), (2, .int (nI i)), (3, .int (nI b))] rfl (fun QF hQF => ?_)
  have tt_a : (nI a).toInt = (a : Int) := nI_toInt (by omega)
  have nn_a : tn (nI a) = a := tn_nI (by omega)
  have tt_b : (nI b).toInt = (b : Int) := nI_toInt (by omega)
  have nn_b : tn (nI b) = b := tn_nI (by omega)
  have hf_a : fi (tn (nI a)) = fi a := by rw [nn_a]
  have hg_a := hfi a (by omega)
  have hf_b : fi (tn (nI b)) = fi b := by rw [nn_b]
  have hg_b := hfi b (by omega)
  have tt_i : (nI i).toInt = (i : Int) := nI_toInt (by omega)
  have nn_i : tn (nI i) = i := tn_nI (by omega)
  refine aw_iload_n 1 dX8_sure_0 rfl rfl ?_
  refine aw_iload_n 3 dX8_sure_1 rfl rfl ?_
  refine aw_dS [.int (nI a), .int (nI b)] [] lX8_104 sX8_areTwo mX8_areTwo dX8_sure_2 (bX8_areTwo (a := (nI a)) (b := (nI b)) ) rfl (Nat.le_of_ble_eq_true rfl) (by decide) (by decide) rfl ?_
  refine aw_if_eq 17 dX8_sure_5 (by decide) (fun c5 => ?_) (fun c5 => ?_)
  · have t5 := ite_0 c5
    exfalso
    omega
  · have t5 := ite_1 c5
    refine aw_aload_n 0 dX8_sure_8 rfl rfl ?_
    refine aw_iload_n 1 dX8_sure_9 rfl rfl ?_
    refine aw_iload_n 2 dX8_sure_10 rfl rfl ?_
    refine aw_dV [.int (nI a), .int (nI i)] [] lX8_107 vX8_isEntry mX8_isEntry dX8_sure_11 (bX8_isEntry (jv := .ref (G.1 + J)) (bv := bv) (fi := fi) (nb := nb) (sp := sp) (fa := fa) (ve := ve) (c := (nI a)) (i := (nI i)) h0 h1 h5 hfi) h0 rfl rfl rfl (Nat.le_of_ble_eq_true rfl) (by decide) (by decide) rfl ?_
    refine aw_if_ne 23 dX8_sure_14 (by decide) (fun c14 => ?_) (fun c14 => ?_)
    · have t14 := ite_1 c14
      refine aw_aload_n 0 dX8_sure_23 rfl rfl ?_
      refine aw_iload_n 1 dX8_sure_24 rfl rfl ?_
      refine aw_iload_n 3 dX8_sure_25 rfl rfl ?_
      refine aw_eV [.int (nI a), .int (nI b)] [] lX8_124 vX8_bestJoining mX8_bestJoining dX8_sure_26 (bJ (bv := bv) (J := J) (u := u) (v := v) (ro := ro) (co := co) (rc := rc) (lk := lk) (bs := bs) (wy := wy) (nw := nw) (P := P) (pv := pv) (su := su) (wa := wa) (pt := pt) (ce := ce) (m := m) (se := se) (ye := ye) (fi := fi) (W := W) (Sn := Sn) (Z := Z) (Ro := Ro) (Co := Co) (Ba := Ba) (nb := nb) (sp := sp) (fa := fa) (ve := ve) (a := a) (b := b) h0 h1 h2 h3 h4 h5 h6 h7 h8 h9 h10 h11 h12 hJ hJ_1 hJ_2 hJ_3 hu hv hP hP_1 hP_2 (by omega) (by omega) (by omega) hrc (by omega) hm hse hfi hye (by omega) (by omega) (by omega) (by omega) (by omega) (by omega) hlx hlx3 (by omega) (by omega) hJK) h0 rfl rfl rfl (Nat.le_of_ble_eq_true rfl) (by decide) (by decide) rfl (fun h4610 q4609 => ?_)
      obtain ⟨u14596, v14597, ro14598, co14599, rc14600, lk14601, bs14602, wy14603, nw14604, su14605, wa14606, pt14607, ce14608, f4611, f4612, f4613, f4614, f4615, f4616, f4617, f4618, f4619, k4620, p4621, p4622, p4623, p4624, p4625, p4626⟩ := q4609
      have f4627 := rg2_at k4620 (by omega) h0
      have f4628 := rg2_at k4620 (by omega) h1
      have f4629 := rg2_at k4620 (by omega) h2
      have f4630 := rg2_at k4620 (by omega) h3
      have f4631 := rg2_at k4620 (by omega) h4
      have f4632 := rg2_at k4620 (by omega) h5
      have f4633 := rg2_at k4620 (by omega) h6
      have f4634 := rg2_at k4620 (by omega) h7
      have f4635 := rg2_at k4620 (by omega) h8
      have f4636 := rg2_at k4620 (by omega) h9
      have f4637 := rg2_at k4620 (by omega) h10
      have f4638 := rg2_at k4620 (by omega) h11
      have f4639 := rg2_at k4620 (by omega) h12
      refine aw_get fX8_137 dX8_sure_29 f4617 rfl ?_
      refine aw_iload_n 2 dX8_sure_32 rfl rfl ?_
      refine aw_zald i (rfl) (by omega) (by decide) dX8_sure_33 f4619 ?_
      refine aw_if_eq 41 dX8_sure_34 (by decide) (fun c34 => ?_) (fun c34 => ?_)
      · have d34 := (j_eq (a := (ce14608 i).toInt) (b := (0)) (rfl) (rfl)).mp c34
        refine aw_iconst (0) dX8_sure_41 (by decide) ?_
        subst hQF
        exact aw_iret rfl dX8_sure_42 (by decide) (by decide) ⟨_, rfl, _, _, _, _, _, _, _, _, _, _, _, _, _, f4611, f4612, f4613, f4614, f4615, f4616, f4617, f4618, f4619, rg2_tr (rg2_rf P (P + 2) J (J + 5) h) (rg2_w2 k4620 (by omega) (by omega)), p4621, p4622, p4623, p4624, p4625, p4626, ce_0 (p4626.2.2.2 i bi) c34⟩
      · have d34 := mt (j_eq (a := (ce14608 i).toInt) (b := (0)) (rfl) (rfl)).mpr c34
        refine aw_iconst (1) dX8_sure_37 (by decide) ?_
        refine aw_goto 42 dX8_sure_38 (by decide) ?_
        subst hQF
        exact aw_iret rfl dX8_sure_42 (by decide) (by decide) ⟨_, rfl, _, _, _, _, _, _, _, _, _, _, _, _, _, f4611, f4612, f4613, f4614, f4615, f4616, f4617, f4618, f4619, rg2_tr (rg2_rf P (P + 2) J (J + 5) h) (rg2_w2 k4620 (by omega) (by omega)), p4621, p4622, p4623, p4624, p4625, p4626, ce_1 (p4626.2.2.2 i bi) c34⟩
    · have t14 := ite_0 c14
      exfalso
      omega
set_option maxHeartbeats 4000000 in
theorem oX8_sure_n {l : Launch} {G : xG} {h : List va_E} {bv : Value} {J : Nat} {P pv : Nat} {su wa : Int32} {pt ce : Nat → Int32} {m se ye fi : Nat → Nat} {W Sn Z Ro Co : Nat → Int32} {Ba : Nat → Int64} {nb sp fa ve : Nat} {lx : Nat → Nat → Nat} {a b : Nat} {i : Nat} (h0 : h[0]? = some (oB 8 (lX G (.null) (bv)))) (h1 : h[1]? = some (oB 1 (lC G (nI nb) (nI sp) (nI fa) (nI ve)))) (h2 : h[2]? = some (aI 20 (nA m))) (h3 : h[3]? = some (aI 20 (nA se))) (h4 : h[4]? = some (aI 4 (nA ye))) (h5 : h[5]? = some (aI 4 (nA fi))) (h6 : h[6]? = some (aI 40 W)) (h7 : h[7]? = some (aI 40 Sn)) (h8 : h[8]? = some (aI 40 Z)) (h9 : h[9]? = some (aI 40 Ro)) (h10 : h[10]? = some (aI 40 Co)) (h11 : h[11]? = some (aL 40 Ba)) (h12 : h[12]? = some (aR 16 (xjo G.1 16))) (hP : h[P]? = some (oB 4 (lG G P su wa (nI pv)))) (hP_1 : h[P + 1]? = some (aI 10 pt)) (hP_2 : h[P + 2]? = some (aZ 10 ce)) (ba : a < 4) (bb : b < 4) (hab : a ≠ b) (bi : i < fi a) (hl : h.length = J) (hm : ∀ j, j < 20 → m j ≤ j) (hse : ∀ j, j < 20 → se j < 20) (hfi : ∀ j, j < 4 → fi j < 11) (hye : ∀ j, j < 4 → ye j < 1901) (qJ : 125 ≤ J) (qP : P + 2 < J) (qP1 : 12 < P) (hpt : pB pt) (eP : P = 13 + 3 * (a * 4 + b)) (hlx : ∀ i, i < fi a → ∀ k, k < fi b → likeC ye Sn Z Ro Co Ba sp fa (a * 10 + i) (b * 10 + k) = nI (lx i k)) (hlx3 : ∀ i k, lx i k ≤ 300) (bpv : pv ≤ 600) (bve : ve ≤ 600) (hvv : ¬ pv = ve) : CU l G yX8_sure cX8_sure 4 (some .int) 6 6 13430 [.ref (G.1 + 0), .int (nI a), .int (nI i), .int (nI b)] h (fun r h1 => ∃ u1 : Nat, ∃ v1 : Nat, ∃ ro1 : Nat, ∃ co1 : Nat, ∃ rc1 : Nat → Nat, ∃ lk1 : Nat → Int32, ∃ bs1 : Nat → Int32, ∃ wy1 : Nat → Int32, ∃ nw1 : Nat → Int32, ∃ su1 : Int32, ∃ wa1 : Int32, ∃ pt1 : Nat → Int32, ∃ ce1 : Nat → Int32, h1[0]? = some (oB 8 (lX G (.ref (G.1 + J)) (bv))) ∧ h1[J]? = some (oB 3 (lJ G J (.ref (G.1 + u1)) (.ref (G.1 + v1)) (nI ro1) (nI co1))) ∧ h1[J + 1]? = some (aI 100 lk1) ∧ h1[J + 2]? = some (aI 11 (nA rc1)) ∧ h1[J + 3]? = some (aI 11264 bs1) ∧ h1[u1]? = some (aI 1024 wy1) ∧ h1[v1]? = some (aI 1024 nw1) ∧ h1[P]? = some (oB 4 (lG G P su1 wa1 (nI ve))) ∧ h1[P + 1]? = some (aI 10 pt1) ∧ h1[P + 2]? = some (aZ 10 ce1) ∧ grw 0 0 P (P + 2) h h1 ∧ (J + 4 ≤ u1 ∧ u1 ≤ J + 5) ∧ (J + 4 ≤ v1 ∧ v1 ≤ J + 5) ∧ (u1 ≠ v1 ∧ wZ wy1 nw1) ∧ (∀ j, j < 11 → rc1 j < 1024) ∧ pB pt1 ∧ jK lx (fi a) (fi b) su1 wa1 pt1 ce1 ∧ h1.length = J + 6 ∧ r = if jU lx (fi b) (fi a) i then 1 else 0) := by
  refine cm_ofQ rfl (Nat.le_of_ble_eq_true rfl) [(0, .ref (G.1 + 0)), (1, .int (nI a)), (2, .int (nI i)), (3, .int (nI b))] rfl (fun QF hQF => ?_)
  have tt_a : (nI a).toInt = (a : Int) := nI_toInt (by omega)
  have nn_a : tn (nI a) = a := tn_nI (by omega)
  have tt_b : (nI b).toInt = (b : Int) := nI_toInt (by omega)
  have nn_b : tn (nI b) = b := tn_nI (by omega)
  have hf_a : fi (tn (nI a)) = fi a := by rw [nn_a]
  have hg_a := hfi a (by omega)
  have hf_b : fi (tn (nI b)) = fi b := by rw [nn_b]
  have hg_b := hfi b (by omega)
  have tt_i : (nI i).toInt = (i : Int) := nI_toInt (by omega)
  have nn_i : tn (nI i) = i := tn_nI (by omega)
  refine aw_iload_n 1 dX8_sure_0 rfl rfl ?_
  refine aw_iload_n 3 dX8_sure_1 rfl rfl ?_
  refine aw_dS [.int (nI a), .int (nI b)] [] lX8_104 sX8_areTwo mX8_areTwo dX8_sure_2 (bX8_areTwo (a := (nI a)) (b := (nI b)) ) rfl (Nat.le_of_ble_eq_true rfl) (by decide) (by decide) rfl ?_
  refine aw_if_eq 17 dX8_sure_5 (by decide) (fun c5 => ?_) (fun c5 => ?_)
  · have t5 := ite_0 c5
    exfalso
    omega
  · have t5 := ite_1 c5
    refine aw_aload_n 0 dX8_sure_8 rfl rfl ?_
    refine aw_iload_n 1 dX8_sure_9 rfl rfl ?_
    refine aw_iload_n 2 dX8_sure_10 rfl rfl ?_
    refine aw_dV [.int (nI a), .int (nI i)] [] lX8_107 vX8_isEntry mX8_isEntry dX8_sure_11 (bX8_isEntry (jv := .null) (bv := bv) (fi := fi) (nb := nb) (sp := sp) (fa := fa) (ve := ve) (c := (nI a)) (i := (nI i)) h0 h1 h5 hfi) h0 rfl rfl rfl (Nat.le_of_ble_eq_true rfl) (by decide) (by decide) rfl ?_
    refine aw_if_ne 23 dX8_sure_14 (by decide) (fun c14 => ?_) (fun c14 => ?_)
    · have t14 := ite_1 c14
      refine aw_aload_n 0 dX8_sure_23 rfl rfl ?_
      refine aw_iload_n 1 dX8_sure_24 rfl rfl ?_
      refine aw_iload_n 3 dX8_sure_25 rfl rfl ?_
      refine aw_eV [.int (nI a), .int (nI b)] [] lX8_124 vX8_bestJoining mX8_bestJoining dX8_sure_26 (bJ_n (bv := bv) (P := P) (pv := pv) (su := su) (wa := wa) (pt := pt) (ce := ce) (m := m) (se := se) (ye := ye) (fi := fi) (W := W) (Sn := Sn) (Z := Z) (Ro := Ro) (Co := Co) (Ba := Ba) (nb := nb) (sp := sp) (fa := fa) (ve := ve) (a := a) (b := b) h0 h1 h2 h3 h4 h5 h6 h7 h8 h9 h10 h11 h12 hP hP_1 hP_2 (by omega) hm hse hfi hye (by omega) (by omega) (by omega) (by omega) (by omega) (by omega) (by omega) hlx hlx3 (by omega) (by omega) (by omega)) h0 rfl rfl rfl (Nat.le_of_ble_eq_true rfl) (by decide) (by decide) rfl (fun h4654 q4653 => ?_)
      obtain ⟨u14640, v14641, ro14642, co14643, rc14644, lk14645, bs14646, wy14647, nw14648, su14649, wa14650, pt14651, ce14652, f4655, f4656, f4657, f4658, f4659, f4660, f4661, f4662, f4663, f4664, k4665, p4666, p4667, p4668, p4669, p4670, p4671, p4672⟩ := q4653
      have f4673 := grw_at k4665 (by omega) h1
      have f4674 := grw_at k4665 (by omega) h2
      have f4675 := grw_at k4665 (by omega) h3
      have f4676 := grw_at k4665 (by omega) h4
      have f4677 := grw_at k4665 (by omega) h5
      have f4678 := grw_at k4665 (by omega) h6
      have f4679 := grw_at k4665 (by omega) h7
      have f4680 := grw_at k4665 (by omega) h8
      have f4681 := grw_at k4665 (by omega) h9
      have f4682 := grw_at k4665 (by omega) h10
      have f4683 := grw_at k4665 (by omega) h11
      have f4684 := grw_at k4665 (by omega) h12
      refine aw_get fX8_137 dX8_sure_29 f4662 rfl ?_
      refine aw_iload_n 2 dX8_sure_32 rfl rfl ?_
      refine aw_zald i (rfl) (by omega) (by decide) dX8_sure_33 f4664 ?_
      refine aw_if_eq 41 dX8_sure_34 (by decide) (fun c34 => ?_) (fun c34 => ?_)
      · have d34 := (j_eq (a := (ce14652 i).toInt) (b := (0)) (rfl) (rfl)).mp c34
        refine aw_iconst (0) dX8_sure_41 (by decide) ?_
        subst hQF
        exact aw_iret rfl dX8_sure_42 (by decide) (by decide) ⟨_, rfl, _, _, _, _, _, _, _, _, _, _, _, _, _, f4655, f4656, f4657, f4658, f4659, f4660, f4661, f4662, f4663, f4664, grw_gg (grw_rf 0 0 P (P + 2) h) k4665 (fun j q1 q2 => by omega), p4666, p4667, p4668, p4669, p4670, p4671, p4672, ce_0 (p4671.2.2.2 i bi) c34⟩
      · have d34 := mt (j_eq (a := (ce14652 i).toInt) (b := (0)) (rfl) (rfl)).mpr c34
        refine aw_iconst (1) dX8_sure_37 (by decide) ?_
        refine aw_goto 42 dX8_sure_38 (by decide) ?_
        subst hQF
        exact aw_iret rfl dX8_sure_42 (by decide) (by decide) ⟨_, rfl, _, _, _, _, _, _, _, _, _, _, _, _, _, f4655, f4656, f4657, f4658, f4659, f4660, f4661, f4662, f4663, f4664, grw_gg (grw_rf 0 0 P (P + 2) h) k4665 (fun j q1 q2 => by omega), p4666, p4667, p4668, p4669, p4670, p4671, p4672, ce_1 (p4671.2.2.2 i bi) c34⟩
    · have t14 := ite_0 c14
      exfalso
      omega
set_option maxHeartbeats 4000000 in
theorem oX8_copied_J {l : Launch} {G : xG} {h : List va_E} {bv : Value} {J u v ro co : Nat} {rc : Nat → Nat} {lk bs wy nw : Nat → Int32} {P pv : Nat} {su wa : Int32} {pt ce : Nat → Int32} {m se ye fi : Nat → Nat} {W Sn Z Ro Co : Nat → Int32} {Ba : Nat → Int64} {nb sp fa ve : Nat} {lx : Nat → Nat → Nat} {a b : Nat} {k : Nat} (h0 : h[0]? = some (oB 8 (lX G (.ref (G.1 + J)) (bv)))) (h1 : h[1]? = some (oB 1 (lC G (nI nb) (nI sp) (nI fa) (nI ve)))) (h2 : h[2]? = some (aI 20 (nA m))) (h3 : h[3]? = some (aI 20 (nA se))) (h4 : h[4]? = some (aI 4 (nA ye))) (h5 : h[5]? = some (aI 4 (nA fi))) (h6 : h[6]? = some (aI 40 W)) (h7 : h[7]? = some (aI 40 Sn)) (h8 : h[8]? = some (aI 40 Z)) (h9 : h[9]? = some (aI 40 Ro)) (h10 : h[10]? = some (aI 40 Co)) (h11 : h[11]? = some (aL 40 Ba)) (h12 : h[12]? = some (aR 16 (xjo G.1 16))) (hJ : h[J]? = some (oB 3 (lJ G J (.ref (G.1 + u)) (.ref (G.1 + v)) (nI ro) (nI co)))) (hJ_1 : h[J + 1]? = some (aI 100 lk)) (hJ_2 : h[J + 2]? = some (aI 11 (nA rc))) (hJ_3 : h[J + 3]? = some (aI 11264 bs)) (hu : h[u]? = some (aI 1024 wy)) (hv : h[v]? = some (aI 1024 nw)) (hP : h[P]? = some (oB 4 (lG G P su wa (nI pv)))) (hP_1 : h[P + 1]? = some (aI 10 pt)) (hP_2 : h[P + 2]? = some (aZ 10 ce)) (ba : a < 4) (bb : b < 4) (bk : k < fi b) (hy : ye a < ye b) (qu : J + 4 ≤ u ∧ u ≤ J + 5) (qv : J + 4 ≤ v ∧ v ≤ J + 5) (quv : (u ≠ v ∧ wZ wy nw)) (hrc : ∀ j, j < 11 → rc j < 1024) (qP : P + 2 < J) (hm : ∀ j, j < 20 → m j ≤ j) (hse : ∀ j, j < 20 → se j < 20) (hfi : ∀ j, j < 4 → fi j < 11) (hye : ∀ j, j < 4 → ye j < 1901) (qJ : 125 ≤ J) (qP1 : 12 < P) (hpt : pB pt) (eP : P = 13 + 3 * (a * 4 + b)) (hlx : ∀ i, i < fi a → ∀ k, k < fi b → likeC ye Sn Z Ro Co Ba sp fa (a * 10 + i) (b * 10 + k) = nI (lx i k)) (hlx3 : ∀ i k, lx i k ≤ 300) (bpv : pv ≤ 600) (bve : ve ≤ 600) (hJK : pv = ve → jK lx (fi a) (fi b) su wa pt ce) : CU l G yX8_copied cX8_copied 6 (some .int) 6 0 0 [.ref (G.1 + 0), .int (nI a), .int (nI b), .int (nI k)] h (fun r h1 => ∃ u1 : Nat, ∃ v1 : Nat, ∃ ro1 : Nat, ∃ co1 : Nat, ∃ rc1 : Nat → Nat, ∃ lk1 : Nat → Int32, ∃ bs1 : Nat → Int32, ∃ wy1 : Nat → Int32, ∃ nw1 : Nat → Int32, ∃ su1 : Int32, ∃ wa1 : Int32, ∃ pt1 : Nat → Int32, ∃ ce1 : Nat → Int32, h1[J]? = some (oB 3 (lJ G J (.ref (G.1 + u1)) (.ref (G.1 + v1)) (nI ro1) (nI co1))) ∧ h1[J + 1]? = some (aI 100 lk1) ∧ h1[J + 2]? = some (aI 11 (nA rc1)) ∧ h1[J + 3]? = some (aI 11264 bs1) ∧ h1[u1]? = some (aI 1024 wy1) ∧ h1[v1]? = some (aI 1024 nw1) ∧ h1[P]? = some (oB 4 (lG G P su1 wa1 (nI ve))) ∧ h1[P + 1]? = some (aI 10 pt1) ∧ h1[P + 2]? = some (aZ 10 ce1) ∧ rg2 P (P + 2) J (J + 5) h h1 ∧ (J + 4 ≤ u1 ∧ u1 ≤ J + 5) ∧ (J + 4 ≤ v1 ∧ v1 ≤ J + 5) ∧ (u1 ≠ v1 ∧ wZ wy1 nw1) ∧ (∀ j, j < 11 → rc1 j < 1024) ∧ pB pt1 ∧ jK lx (fi a) (fi b) su1 wa1 pt1 ce1 ∧ True) := by
  refine cm_ofQ rfl (Nat.le_of_ble_eq_true rfl) [(0, .ref (G.1 + 0)), (1, .int (nI a)), (2, .int (nI b)), (3, .int (nI k))] rfl (fun QF hQF => ?_)
  have tt_a : (nI a).toInt = (a : Int) := nI_toInt (by omega)
  have nn_a : tn (nI a) = a := tn_nI (by omega)
  have tt_b : (nI b).toInt = (b : Int) := nI_toInt (by omega)
  have nn_b : tn (nI b) = b := tn_nI (by omega)
  have hf_a : fi (tn (nI a)) = fi a := by rw [nn_a]
  have hg_a := hfi a (by omega)
  have hf_b : fi (tn (nI b)) = fi b := by rw [nn_b]
  have hg_b := hfi b (by omega)
  have tt_k : (nI k).toInt = (k : Int) := nI_toInt (by omega)
  have nn_k : tn (nI k) = k := tn_nI (by omega)
  refine aw_iload_n 1 dX8_copied_0 rfl rfl ?_
  refine aw_dS [.int (nI a)] [] lX8_81 sX8_isCatalogue mX8_isCatalogue dX8_copied_1 (bX8_isCatalogue (x := (nI a)) ) rfl (Nat.le_of_ble_eq_true rfl) (by decide) (by decide) rfl ?_
  refine aw_if_eq 16 dX8_copied_4 (by decide) (fun c4 => ?_) (fun c4 => ?_)
  · have t4 := ite_0 c4
    exfalso
    omega
  · have t4 := ite_1 c4
    refine aw_aload_n 0 dX8_copied_7 rfl rfl ?_
    refine aw_iload_n 2 dX8_copied_8 rfl rfl ?_
    refine aw_iload_n 3 dX8_copied_9 rfl rfl ?_
    refine aw_dV [.int (nI b), .int (nI k)] [] lX8_107 vX8_isEntry mX8_isEntry dX8_copied_10 (bX8_isEntry (jv := .ref (G.1 + J)) (bv := bv) (fi := fi) (nb := nb) (sp := sp) (fa := fa) (ve := ve) (c := (nI b)) (i := (nI k)) h0 h1 h5 hfi) h0 rfl rfl rfl (Nat.le_of_ble_eq_true rfl) (by decide) (by decide) rfl ?_
    refine aw_if_ne 22 dX8_copied_13 (by decide) (fun c13 => ?_) (fun c13 => ?_)
    · have t13 := ite_1 c13
      refine aw_aload_n 0 dX8_copied_22 rfl rfl ?_
      refine aw_get fX8_20 dX8_copied_23 h0 rfl ?_
      refine aw_get fX8_148 dX8_copied_26 h1 rfl ?_
      refine aw_iload_n 2 dX8_copied_29 rfl rfl ?_
      refine aw_iald b (rfl) (by omega) (by decide) dX8_copied_30 h4 ?_
      refine aw_toe (nI (ye b)) (rfl) ?_
      have b4685 := hye b (by omega)
      refine aw_aload_n 0 dX8_copied_31 rfl rfl ?_
      refine aw_get fX8_20 dX8_copied_32 h0 rfl ?_
      refine aw_get fX8_148 dX8_copied_35 h1 rfl ?_
      refine aw_iload_n 1 dX8_copied_38 rfl rfl ?_
      refine aw_iald a (rfl) (by omega) (by decide) dX8_copied_39 h4 ?_
      refine aw_toe (nI (ye a)) (rfl) ?_
      have b4686 := hye a (by omega)
      refine aw_icmp_gt 50 dX8_copied_40 (by decide) (fun c40 => ?_) (fun c40 => ?_)
      · have d40 := (nv_lt (a := ye a) (b := ye b) (rfl) (rfl) (by omega) (by omega)).mp c40
        refine aw_aload_n 0 dX8_copied_50 rfl rfl ?_
        refine aw_iload_n 1 dX8_copied_51 rfl rfl ?_
        refine aw_iload_n 2 dX8_copied_52 rfl rfl ?_
        refine aw_eV [.int (nI a), .int (nI b)] [] lX8_124 vX8_bestJoining mX8_bestJoining dX8_copied_53 (bJ (bv := bv) (J := J) (u := u) (v := v) (ro := ro) (co := co) (rc := rc) (lk := lk) (bs := bs) (wy := wy) (nw := nw) (P := P) (pv := pv) (su := su) (wa := wa) (pt := pt) (ce := ce) (m := m) (se := se) (ye := ye) (fi := fi) (W := W) (Sn := Sn) (Z := Z) (Ro := Ro) (Co := Co) (Ba := Ba) (nb := nb) (sp := sp) (fa := fa) (ve := ve) (a := a) (b := b) h0 h1 h2 h3 h4 h5 h6 h7 h8 h9 h10 h11 h12 hJ hJ_1 hJ_2 hJ_3 hu hv hP hP_1 hP_2 (by omega) (by omega) (by omega) hrc (by omega) hm hse hfi hye (by omega) (by omega) (by omega) (by omega) (by omega) (by omega) hlx hlx3 (by omega) (by omega) hJK) h0 rfl rfl rfl (Nat.le_of_ble_eq_true rfl) (by decide) (by decide) rfl (fun h4701 q4700 => ?_)
        obtain ⟨u14687, v14688, ro14689, co14690, rc14691, lk14692, bs14693, wy14694, nw14695, su14696, wa14697, pt14698, ce14699, f4702, f4703, f4704, f4705, f4706, f4707, f4708, f4709, f4710, k4711, p4712, p4713, p4714, p4715, p4716, p4717⟩ := q4700
        have f4718 := rg2_at k4711 (by omega) h0
        have f4719 := rg2_at k4711 (by omega) h1
        have f4720 := rg2_at k4711 (by omega) h2
        have f4721 := rg2_at k4711 (by omega) h3
        have f4722 := rg2_at k4711 (by omega) h4
        have f4723 := rg2_at k4711 (by omega) h5
        have f4724 := rg2_at k4711 (by omega) h6
        have f4725 := rg2_at k4711 (by omega) h7
        have f4726 := rg2_at k4711 (by omega) h8
        have f4727 := rg2_at k4711 (by omega) h9
        have f4728 := rg2_at k4711 (by omega) h10
        have f4729 := rg2_at k4711 (by omega) h11
        have f4730 := rg2_at k4711 (by omega) h12
        refine aw_astore [(4, .ref (G.1 + P)), (0, .ref (G.1 + 0)), (1, .int (nI a)), (2, .int (nI b)), (3, .int (nI k))] dX8_copied_56 (by decide) rfl ?_
        refine aw_iconst (0) dX8_copied_58 (by decide) ?_
        refine aw_istore [(5, .int 0), (4, .ref (G.1 + P)), (0, .ref (G.1 + 0)), (1, .int (nI a)), (2, .int (nI b)), (3, .int (nI k))] dX8_copied_59 (by decide) rfl ?_
        refine aw_lv [(5, .int 0), (4, .ref (G.1 + P)), (3, .int (nI k)), (2, .int (nI b)), (1, .int (nI a)), (0, .ref (G.1 + 0))] [0, 1, 5, 4, 3, 2] rfl ?_
        suffices L4755 : ∀ (mm : Nat) (i : Nat) (h4731 : List va_E), fi a - i < mm → (i ≤ fi a) → h4731[J]? = some (oB 3 (lJ G J (.ref (G.1 + u14687)) (.ref (G.1 + v14688)) (nI ro14689) (nI co14690))) → h4731[J + 1]? = some (aI 100 lk14692) → h4731[J + 2]? = some (aI 11 (nA rc14691)) → h4731[J + 3]? = some (aI 11264 bs14693) → h4731[u14687]? = some (aI 1024 wy14694) → h4731[v14688]? = some (aI 1024 nw14695) → h4731[P]? = some (oB 4 (lG G P su14696 wa14697 (nI ve))) → h4731[P + 1]? = some (aI 10 pt14698) → h4731[P + 2]? = some (aZ 10 ce14699) → h4731[0]? = some (oB 8 (lX G (.ref (G.1 + J)) (bv))) → h4731[1]? = some (oB 1 (lC G (nI nb) (nI sp) (nI fa) (nI ve))) → h4731[2]? = some (aI 20 (nA m)) → h4731[3]? = some (aI 20 (nA se)) → h4731[4]? = some (aI 4 (nA ye)) → h4731[5]? = some (aI 4 (nA fi)) → h4731[6]? = some (aI 40 W) → h4731[7]? = some (aI 40 Sn) → h4731[8]? = some (aI 40 Z) → h4731[9]? = some (aI 40 Ro) → h4731[10]? = some (aI 40 Co) → h4731[11]? = some (aL 40 Ba) → h4731[12]? = some (aR 16 (xjo G.1 16)) → rg2 P (P + 2) J (J + 5) h h4731 → AW l G yX8_copied cX8_copied 6 (some .int) (xR 6 0 0) (fun _ _ => True) QF 0 0 61 [(5, .int (nI i)), (4, .ref (G.1 + P)), (3, .int (nI k)), (2, .int (nI b)), (1, .int (nI a)), (0, .ref (G.1 + 0))] [] h4731 from L4755 (fi a - 0 + 1) 0 _ (Nat.lt_succ_self _) (Nat.zero_le _) f4702 f4703 f4704 f4705 f4706 f4707 f4708 f4709 f4710 f4718 f4719 f4720 f4721 f4722 f4723 f4724 f4725 f4726 f4727 f4728 f4729 f4730 (rg2_tr (rg2_rf P (P + 2) J (J + 5) h) (rg2_w2 k4711 (by omega) (by omega)))
        intro mm
        induction mm with
        | zero =>
          intro i h4731 hmm hi f4732 f4733 f4734 f4735 f4736 f4737 f4738 f4739 f4740 f4741 f4742 f4743 f4744 f4745 f4746 f4747 f4748 f4749 f4750 f4751 f4752 f4753 k4754
          exact absurd hmm (Nat.not_lt_zero _)
        | succ mm ih4755 =>
          intro i h4731 hmm hi f4732 f4733 f4734 f4735 f4736 f4737 f4738 f4739 f4740 f4741 f4742 f4743 f4744 f4745 f4746 f4747 f4748 f4749 f4750 f4751 f4752 f4753 k4754
          refine aw_iload 0 dX8_copied_61 rfl ?_
          refine aw_aload_n 5 dX8_copied_63 rfl rfl ?_
          refine aw_get fX8_20 dX8_copied_64 f4741 rfl ?_
          refine aw_get fX8_91 dX8_copied_67 f4742 rfl ?_
          refine aw_iload_n 4 dX8_copied_70 rfl rfl ?_
          refine aw_iald a (rfl) (by omega) (by decide) dX8_copied_71 f4746 ?_
          refine aw_toe (nI (fi a)) (rfl) ?_
          have b4756 := hfi a (by omega)
          refine aw_icmp_ge 119 dX8_copied_72 (by decide) (fun c72 => ?_) (fun c72 => ?_)
          · have d72 := (nv_le (a := fi a) (b := i) (rfl) (rfl) (by omega) (by omega)).mp c72
            refine aw_bipush (-9) dX8_copied_119 (by decide) ?_
            subst hQF
            exact aw_iret rfl dX8_copied_121 (by decide) (by decide) ⟨_, rfl, _, _, _, _, _, _, _, _, _, _, _, _, _, f4732, f4733, f4734, f4735, f4736, f4737, f4738, f4739, f4740, k4754, p4712, p4713, p4714, p4715, p4716, p4717, trivial⟩
          · have d72 := mt (nv_le (a := fi a) (b := i) (rfl) (rfl) (by omega) (by omega)).mpr c72
            refine aw_aload 1 dX8_copied_75 rfl ?_
            refine aw_get fX8_131 dX8_copied_77 f4738 rfl ?_
            refine aw_iload 0 dX8_copied_80 rfl ?_
            refine aw_iald i (rfl) (by omega) (by decide) dX8_copied_82 f4739 ?_
            refine aw_iload_n 2 dX8_copied_83 rfl rfl ?_
            refine aw_icmp_eq 113 dX8_copied_84 (by decide) (fun c84 => ?_) (fun c84 => ?_)
            · have d84 := (j_eq (a := (pt14698 i).toInt) (b := ((k : Nat) : Int)) (rfl) (i_toNat (rfl) (by omega))).mp c84
              refine aw_iinc (j := 0) (nI (i + 1)) [(5, .int (nI (i + 1))), (4, .ref (G.1 + P)), (3, .int (nI k)), (2, .int (nI b)), (1, .int (nI a)), (0, .ref (G.1 + 0))] dX8_copied_113 rfl (nv_inc (rfl)) (by decide) rfl ?_
              refine aw_goto 61 dX8_copied_116 (by decide) ?_
              refine aw_lv [(5, .int (nI (i + 1))), (4, .ref (G.1 + P)), (3, .int (nI k)), (2, .int (nI b)), (1, .int (nI a)), (0, .ref (G.1 + 0))] [0, 1, 2, 3, 4, 5] rfl ?_
              exact ih4755 (i + 1) _ (by omega) (by omega) f4732 f4733 f4734 f4735 f4736 f4737 f4738 f4739 f4740 f4741 f4742 f4743 f4744 f4745 f4746 f4747 f4748 f4749 f4750 f4751 f4752 f4753 (k4754)
            · have d84 := mt (j_eq (a := (pt14698 i).toInt) (b := ((k : Nat) : Int)) (rfl) (i_toNat (rfl) (by omega))).mpr c84
              refine aw_aload_n 5 dX8_copied_87 rfl rfl ?_
              refine aw_get fX8_20 dX8_copied_88 f4741 rfl ?_
              refine aw_iload_n 4 dX8_copied_91 rfl rfl ?_
              refine aw_bipush (10) dX8_copied_92 (by decide) ?_
              refine aw_imul dX8_copied_94 ?_
              refine aw_toe (nI (a * 10)) (nv_mul (rfl) (rfl)) ?_
              refine aw_iload 0 dX8_copied_95 rfl ?_
              refine aw_iadd dX8_copied_97 ?_
              refine aw_toe (nI ((a * 10) + i)) (nv_add (rfl) (rfl)) ?_
              refine aw_iload_n 3 dX8_copied_98 rfl rfl ?_
              refine aw_bipush (10) dX8_copied_99 (by decide) ?_
              refine aw_imul dX8_copied_101 ?_
              refine aw_toe (nI (b * 10)) (nv_mul (rfl) (rfl)) ?_
              refine aw_iload_n 2 dX8_copied_102 rfl rfl ?_
              refine aw_iadd dX8_copied_103 ?_
              refine aw_toe (nI ((b * 10) + k)) (nv_add (rfl) (rfl)) ?_
              refine aw_dV [.int (nI ((a * 10) + i)), .int (nI ((b * 10) + k))] [] lX8_151 vX1_isSameText mX1_isSameText dX8_copied_104 (aX1_isSameText (m := m) (se := se) (ye := ye) (fi := fi) (W := W) (Sn := Sn) (Z := Z) (Ro := Ro) (Co := Co) (Ba := Ba) (nb := nb) (sp := sp) (fa := fa) (ve := ve) (e := (a * 10) + i) (f := (b * 10) + k) f4742 f4743 f4744 f4745 f4746 f4747 f4748 f4749 f4750 f4751 f4752 hm hse hfi hye (by omega) (by omega)) f4742 rfl rfl rfl (Nat.le_of_ble_eq_true rfl) (by decide) (by decide) rfl ?_
              refine aw_if_eq 113 dX8_copied_107 (by decide) (fun c107 => ?_) (fun c107 => ?_)
              · have t107 := ite_0 c107
                refine aw_iinc (j := 0) (nI (i + 1)) [(5, .int (nI (i + 1))), (4, .ref (G.1 + P)), (3, .int (nI k)), (2, .int (nI b)), (1, .int (nI a)), (0, .ref (G.1 + 0))] dX8_copied_113 rfl (nv_inc (rfl)) (by decide) rfl ?_
                refine aw_goto 61 dX8_copied_116 (by decide) ?_
                refine aw_lv [(5, .int (nI (i + 1))), (4, .ref (G.1 + P)), (3, .int (nI k)), (2, .int (nI b)), (1, .int (nI a)), (0, .ref (G.1 + 0))] [0, 1, 2, 3, 4, 5] rfl ?_
                exact ih4755 (i + 1) _ (by omega) (by omega) f4732 f4733 f4734 f4735 f4736 f4737 f4738 f4739 f4740 f4741 f4742 f4743 f4744 f4745 f4746 f4747 f4748 f4749 f4750 f4751 f4752 f4753 (k4754)
              · have t107 := ite_1 c107
                refine aw_iload 0 dX8_copied_110 rfl ?_
                subst hQF
                exact aw_iret rfl dX8_copied_112 (by decide) (by decide) ⟨_, rfl, _, _, _, _, _, _, _, _, _, _, _, _, _, f4732, f4733, f4734, f4735, f4736, f4737, f4738, f4739, f4740, k4754, p4712, p4713, p4714, p4715, p4716, p4717, trivial⟩
      · have d40 := mt (nv_lt (a := ye a) (b := ye b) (rfl) (rfl) (by omega) (by omega)).mpr c40
        exfalso
        omega
    · have t13 := ite_0 c13
      exfalso
      omega
set_option maxHeartbeats 4000000 in
theorem oX8_copied_n {l : Launch} {G : xG} {h : List va_E} {bv : Value} {J : Nat} {P pv : Nat} {su wa : Int32} {pt ce : Nat → Int32} {m se ye fi : Nat → Nat} {W Sn Z Ro Co : Nat → Int32} {Ba : Nat → Int64} {nb sp fa ve : Nat} {lx : Nat → Nat → Nat} {a b : Nat} {k : Nat} (h0 : h[0]? = some (oB 8 (lX G (.null) (bv)))) (h1 : h[1]? = some (oB 1 (lC G (nI nb) (nI sp) (nI fa) (nI ve)))) (h2 : h[2]? = some (aI 20 (nA m))) (h3 : h[3]? = some (aI 20 (nA se))) (h4 : h[4]? = some (aI 4 (nA ye))) (h5 : h[5]? = some (aI 4 (nA fi))) (h6 : h[6]? = some (aI 40 W)) (h7 : h[7]? = some (aI 40 Sn)) (h8 : h[8]? = some (aI 40 Z)) (h9 : h[9]? = some (aI 40 Ro)) (h10 : h[10]? = some (aI 40 Co)) (h11 : h[11]? = some (aL 40 Ba)) (h12 : h[12]? = some (aR 16 (xjo G.1 16))) (hP : h[P]? = some (oB 4 (lG G P su wa (nI pv)))) (hP_1 : h[P + 1]? = some (aI 10 pt)) (hP_2 : h[P + 2]? = some (aZ 10 ce)) (ba : a < 4) (bb : b < 4) (bk : k < fi b) (hy : ye a < ye b) (hl : h.length = J) (hm : ∀ j, j < 20 → m j ≤ j) (hse : ∀ j, j < 20 → se j < 20) (hfi : ∀ j, j < 4 → fi j < 11) (hye : ∀ j, j < 4 → ye j < 1901) (qJ : 125 ≤ J) (qP : P + 2 < J) (qP1 : 12 < P) (hpt : pB pt) (eP : P = 13 + 3 * (a * 4 + b)) (hlx : ∀ i, i < fi a → ∀ k, k < fi b → likeC ye Sn Z Ro Co Ba sp fa (a * 10 + i) (b * 10 + k) = nI (lx i k)) (hlx3 : ∀ i k, lx i k ≤ 300) (bpv : pv ≤ 600) (bve : ve ≤ 600) (hvv : ¬ pv = ve) : CU l G yX8_copied cX8_copied 6 (some .int) 6 6 13430 [.ref (G.1 + 0), .int (nI a), .int (nI b), .int (nI k)] h (fun r h1 => ∃ u1 : Nat, ∃ v1 : Nat, ∃ ro1 : Nat, ∃ co1 : Nat, ∃ rc1 : Nat → Nat, ∃ lk1 : Nat → Int32, ∃ bs1 : Nat → Int32, ∃ wy1 : Nat → Int32, ∃ nw1 : Nat → Int32, ∃ su1 : Int32, ∃ wa1 : Int32, ∃ pt1 : Nat → Int32, ∃ ce1 : Nat → Int32, h1[0]? = some (oB 8 (lX G (.ref (G.1 + J)) (bv))) ∧ h1[J]? = some (oB 3 (lJ G J (.ref (G.1 + u1)) (.ref (G.1 + v1)) (nI ro1) (nI co1))) ∧ h1[J + 1]? = some (aI 100 lk1) ∧ h1[J + 2]? = some (aI 11 (nA rc1)) ∧ h1[J + 3]? = some (aI 11264 bs1) ∧ h1[u1]? = some (aI 1024 wy1) ∧ h1[v1]? = some (aI 1024 nw1) ∧ h1[P]? = some (oB 4 (lG G P su1 wa1 (nI ve))) ∧ h1[P + 1]? = some (aI 10 pt1) ∧ h1[P + 2]? = some (aZ 10 ce1) ∧ grw 0 0 P (P + 2) h h1 ∧ (J + 4 ≤ u1 ∧ u1 ≤ J + 5) ∧ (J + 4 ≤ v1 ∧ v1 ≤ J + 5) ∧ (u1 ≠ v1 ∧ wZ wy1 nw1) ∧ (∀ j, j < 11 → rc1 j < 1024) ∧ pB pt1 ∧ jK lx (fi a) (fi b) su1 wa1 pt1 ce1 ∧ h1.length = J + 6 ∧ True) := by
  refine cm_ofQ rfl (Nat.le_of_ble_eq_true rfl) [(0, .ref (G.1 + 0)), (1, .int (nI a)), (2, .int (nI b)), (3, .int (nI k))] rfl (fun QF hQF => ?_)
  have tt_a : (nI a).toInt = (a : Int) := nI_toInt (by omega)
  have nn_a : tn (nI a) = a := tn_nI (by omega)
  have tt_b : (nI b).toInt = (b : Int) := nI_toInt (by omega)
  have nn_b : tn (nI b) = b := tn_nI (by omega)
  have hf_a : fi (tn (nI a)) = fi a := by rw [nn_a]
  have hg_a := hfi a (by omega)
  have hf_b : fi (tn (nI b)) = fi b := by rw [nn_b]
  have hg_b := hfi b (by omega)
  have tt_k : (nI k).toInt = (k : Int) := nI_toInt (by omega)
  have nn_k : tn (nI k) = k := tn_nI (by omega)
  refine aw_iload_n 1 dX8_copied_0 rfl rfl ?_
  refine aw_dS [.int (nI a)] [] lX8_81 sX8_isCatalogue mX8_isCatalogue dX8_copied_1 (bX8_isCatalogue (x := (nI a)) ) rfl (Nat.le_of_ble_eq_true rfl) (by decide) (by decide) rfl ?_
  refine aw_if_eq 16 dX8_copied_4 (by decide) (fun c4 => ?_) (fun c4 => ?_)
  · have t4 := ite_0 c4
    exfalso
    omega
  · have t4 := ite_1 c4
    refine aw_aload_n 0 dX8_copied_7 rfl rfl ?_
    refine aw_iload_n 2 dX8_copied_8 rfl rfl ?_
    refine aw_iload_n 3 dX8_copied_9 rfl rfl ?_
    refine aw_dV [.int (nI b), .int (nI k)] [] lX8_107 vX8_isEntry mX8_isEntry dX8_copied_10 (bX8_isEntry (jv := .null) (bv := bv) (fi := fi) (nb := nb) (sp := sp) (fa := fa) (ve := ve) (c := (nI b)) (i := (nI k)) h0 h1 h5 hfi) h0 rfl rfl rfl (Nat.le_of_ble_eq_true rfl) (by decide) (by decide) rfl ?_
    refine aw_if_ne 22 dX8_copied_13 (by decide) (fun c13 => ?_) (fun c13 => ?_)
    · have t13 := ite_1 c13
      refine aw_aload_n 0 dX8_copied_22 rfl rfl ?_
      refine aw_get fX8_20 dX8_copied_23 h0 rfl ?_
      refine aw_get fX8_148 dX8_copied_26 h1 rfl ?_
      refine aw_iload_n 2 dX8_copied_29 rfl rfl ?_
      refine aw_iald b (rfl) (by omega) (by decide) dX8_copied_30 h4 ?_
      refine aw_toe (nI (ye b)) (rfl) ?_
      have b4757 := hye b (by omega)
      refine aw_aload_n 0 dX8_copied_31 rfl rfl ?_
      refine aw_get fX8_20 dX8_copied_32 h0 rfl ?_
      refine aw_get fX8_148 dX8_copied_35 h1 rfl ?_
      refine aw_iload_n 1 dX8_copied_38 rfl rfl ?_
      refine aw_iald a (rfl) (by omega) (by decide) dX8_copied_39 h4 ?_
      refine aw_toe (nI (ye a)) (rfl) ?_
      have b4758 := hye a (by omega)
      refine aw_icmp_gt 50 dX8_copied_40 (by decide) (fun c40 => ?_) (fun c40 => ?_)
      · have d40 := (nv_lt (a := ye a) (b := ye b) (rfl) (rfl) (by omega) (by omega)).mp c40
        refine aw_aload_n 0 dX8_copied_50 rfl rfl ?_
        refine aw_iload_n 1 dX8_copied_51 rfl rfl ?_
        refine aw_iload_n 2 dX8_copied_52 rfl rfl ?_
        refine aw_eV [.int (nI a), .int (nI b)] [] lX8_124 vX8_bestJoining mX8_bestJoining dX8_copied_53 (bJ_n (bv := bv) (P := P) (pv := pv) (su := su) (wa := wa) (pt := pt) (ce := ce) (m := m) (se := se) (ye := ye) (fi := fi) (W := W) (Sn := Sn) (Z := Z) (Ro := Ro) (Co := Co) (Ba := Ba) (nb := nb) (sp := sp) (fa := fa) (ve := ve) (a := a) (b := b) h0 h1 h2 h3 h4 h5 h6 h7 h8 h9 h10 h11 h12 hP hP_1 hP_2 (by omega) hm hse hfi hye (by omega) (by omega) (by omega) (by omega) (by omega) (by omega) (by omega) hlx hlx3 (by omega) (by omega) (by omega)) h0 rfl rfl rfl (Nat.le_of_ble_eq_true rfl) (by decide) (by decide) rfl (fun h4773 q4772 => ?_)
        obtain ⟨u14759, v14760, ro14761, co14762, rc14763, lk14764, bs14765, wy14766, nw14767, su14768, wa14769, pt14770, ce14771, f4774, f4775, f4776, f4777, f4778, f4779, f4780, f4781, f4782, f4783, k4784, p4785, p4786, p4787, p4788, p4789, p4790, p4791⟩ := q4772
        have f4792 := grw_at k4784 (by omega) h1
        have f4793 := grw_at k4784 (by omega) h2
        have f4794 := grw_at k4784 (by omega) h3
        have f4795 := grw_at k4784 (by omega) h4
        have f4796 := grw_at k4784 (by omega) h5
        have f4797 := grw_at k4784 (by omega) h6
        have f4798 := grw_at k4784 (by omega) h7
        have f4799 := grw_at k4784 (by omega) h8
        have f4800 := grw_at k4784 (by omega) h9
        have f4801 := grw_at k4784 (by omega) h10
        have f4802 := grw_at k4784 (by omega) h11
        have f4803 := grw_at k4784 (by omega) h12
        refine aw_astore [(4, .ref (G.1 + P)), (0, .ref (G.1 + 0)), (1, .int (nI a)), (2, .int (nI b)), (3, .int (nI k))] dX8_copied_56 (by decide) rfl ?_
        refine aw_iconst (0) dX8_copied_58 (by decide) ?_
        refine aw_istore [(5, .int 0), (4, .ref (G.1 + P)), (0, .ref (G.1 + 0)), (1, .int (nI a)), (2, .int (nI b)), (3, .int (nI k))] dX8_copied_59 (by decide) rfl ?_
        have hln := p4791
        refine aw_lv [(5, .int 0), (4, .ref (G.1 + P)), (3, .int (nI k)), (2, .int (nI b)), (1, .int (nI a)), (0, .ref (G.1 + 0))] [0, 1, 5, 4, 3, 2] rfl ?_
        suffices L4804 : ∀ (mm : Nat) (i : Nat), fi a - i < mm → (i ≤ fi a) → AW l G yX8_copied cX8_copied 6 (some .int) (xR 6 6 13430) (fun _ _ => True) QF (0 + 6) (0 + 13430) 61 [(5, .int (nI i)), (4, .ref (G.1 + P)), (3, .int (nI k)), (2, .int (nI b)), (1, .int (nI a)), (0, .ref (G.1 + 0))] [] h4773 from L4804 (fi a - 0 + 1) 0 (Nat.lt_succ_self _) (Nat.zero_le _)
        intro mm
        induction mm with
        | zero =>
          intro i hmm hi
          exact absurd hmm (Nat.not_lt_zero _)
        | succ mm ih4804 =>
          intro i hmm hi
          refine aw_iload 0 dX8_copied_61 rfl ?_
          refine aw_aload_n 5 dX8_copied_63 rfl rfl ?_
          refine aw_get fX8_20 dX8_copied_64 f4774 rfl ?_
          refine aw_get fX8_91 dX8_copied_67 f4792 rfl ?_
          refine aw_iload_n 4 dX8_copied_70 rfl rfl ?_
          refine aw_iald a (rfl) (by omega) (by decide) dX8_copied_71 f4796 ?_
          refine aw_toe (nI (fi a)) (rfl) ?_
          have b4805 := hfi a (by omega)
          refine aw_icmp_ge 119 dX8_copied_72 (by decide) (fun c72 => ?_) (fun c72 => ?_)
          · have d72 := (nv_le (a := fi a) (b := i) (rfl) (rfl) (by omega) (by omega)).mp c72
            refine aw_bipush (-9) dX8_copied_119 (by decide) ?_
            subst hQF
            exact aw_iret rfl dX8_copied_121 (by decide) (by decide) ⟨_, rfl, _, _, _, _, _, _, _, _, _, _, _, _, _, f4774, f4775, f4776, f4777, f4778, f4779, f4780, f4781, f4782, f4783, grw_gg (grw_rf 0 0 P (P + 2) h) k4784 (fun j q1 q2 => by omega), p4785, p4786, p4787, p4788, p4789, p4790, hln, trivial⟩
          · have d72 := mt (nv_le (a := fi a) (b := i) (rfl) (rfl) (by omega) (by omega)).mpr c72
            refine aw_aload 1 dX8_copied_75 rfl ?_
            refine aw_get fX8_131 dX8_copied_77 f4781 rfl ?_
            refine aw_iload 0 dX8_copied_80 rfl ?_
            refine aw_iald i (rfl) (by omega) (by decide) dX8_copied_82 f4782 ?_
            refine aw_iload_n 2 dX8_copied_83 rfl rfl ?_
            refine aw_icmp_eq 113 dX8_copied_84 (by decide) (fun c84 => ?_) (fun c84 => ?_)
            · have d84 := (j_eq (a := (pt14770 i).toInt) (b := ((k : Nat) : Int)) (rfl) (i_toNat (rfl) (by omega))).mp c84
              refine aw_iinc (j := 0) (nI (i + 1)) [(5, .int (nI (i + 1))), (4, .ref (G.1 + P)), (3, .int (nI k)), (2, .int (nI b)), (1, .int (nI a)), (0, .ref (G.1 + 0))] dX8_copied_113 rfl (nv_inc (rfl)) (by decide) rfl ?_
              refine aw_goto 61 dX8_copied_116 (by decide) ?_
              refine aw_lv [(5, .int (nI (i + 1))), (4, .ref (G.1 + P)), (3, .int (nI k)), (2, .int (nI b)), (1, .int (nI a)), (0, .ref (G.1 + 0))] [0, 1, 2, 3, 4, 5] rfl ?_
              exact ih4804 (i + 1) (by omega) (by omega)
            · have d84 := mt (j_eq (a := (pt14770 i).toInt) (b := ((k : Nat) : Int)) (rfl) (i_toNat (rfl) (by omega))).mpr c84
              refine aw_aload_n 5 dX8_copied_87 rfl rfl ?_
              refine aw_get fX8_20 dX8_copied_88 f4774 rfl ?_
              refine aw_iload_n 4 dX8_copied_91 rfl rfl ?_
              refine aw_bipush (10) dX8_copied_92 (by decide) ?_
              refine aw_imul dX8_copied_94 ?_
              refine aw_toe (nI (a * 10)) (nv_mul (rfl) (rfl)) ?_
              refine aw_iload 0 dX8_copied_95 rfl ?_
              refine aw_iadd dX8_copied_97 ?_
              refine aw_toe (nI ((a * 10) + i)) (nv_add (rfl) (rfl)) ?_
              refine aw_iload_n 3 dX8_copied_98 rfl rfl ?_
              refine aw_bipush (10) dX8_copied_99 (by decide) ?_
              refine aw_imul dX8_copied_101 ?_
              refine aw_toe (nI (b * 10)) (nv_mul (rfl) (rfl)) ?_
              refine aw_iload_n 2 dX8_copied_102 rfl rfl ?_
              refine aw_iadd dX8_copied_103 ?_
              refine aw_toe (nI ((b * 10) + k)) (nv_add (rfl) (rfl)) ?_
              refine aw_dV [.int (nI ((a * 10) + i)), .int (nI ((b * 10) + k))] [] lX8_151 vX1_isSameText mX1_isSameText dX8_copied_104 (aX1_isSameText (m := m) (se := se) (ye := ye) (fi := fi) (W := W) (Sn := Sn) (Z := Z) (Ro := Ro) (Co := Co) (Ba := Ba) (nb := nb) (sp := sp) (fa := fa) (ve := ve) (e := (a * 10) + i) (f := (b * 10) + k) f4792 f4793 f4794 f4795 f4796 f4797 f4798 f4799 f4800 f4801 f4802 hm hse hfi hye (by omega) (by omega)) f4792 rfl rfl rfl (Nat.le_of_ble_eq_true rfl) (by decide) (by decide) rfl ?_
              refine aw_if_eq 113 dX8_copied_107 (by decide) (fun c107 => ?_) (fun c107 => ?_)
              · have t107 := ite_0 c107
                refine aw_iinc (j := 0) (nI (i + 1)) [(5, .int (nI (i + 1))), (4, .ref (G.1 + P)), (3, .int (nI k)), (2, .int (nI b)), (1, .int (nI a)), (0, .ref (G.1 + 0))] dX8_copied_113 rfl (nv_inc (rfl)) (by decide) rfl ?_
                refine aw_goto 61 dX8_copied_116 (by decide) ?_
                refine aw_lv [(5, .int (nI (i + 1))), (4, .ref (G.1 + P)), (3, .int (nI k)), (2, .int (nI b)), (1, .int (nI a)), (0, .ref (G.1 + 0))] [0, 1, 2, 3, 4, 5] rfl ?_
                exact ih4804 (i + 1) (by omega) (by omega)
              · have t107 := ite_1 c107
                refine aw_iload 0 dX8_copied_110 rfl ?_
                subst hQF
                exact aw_iret rfl dX8_copied_112 (by decide) (by decide) ⟨_, rfl, _, _, _, _, _, _, _, _, _, _, _, _, _, f4774, f4775, f4776, f4777, f4778, f4779, f4780, f4781, f4782, f4783, grw_gg (grw_rf 0 0 P (P + 2) h) k4784 (fun j q1 q2 => by omega), p4785, p4786, p4787, p4788, p4789, p4790, hln, trivial⟩
      · have d40 := mt (nv_lt (a := ye a) (b := ye b) (rfl) (rfl) (by omega) (by omega)).mpr c40
        exfalso
        omega
    · have t13 := ite_0 c13
      exfalso
      omega
set_option maxHeartbeats 4000000 in
theorem oX8_join_r {l : Launch} {G : xG} {h : List va_E} {jv bv : Value} {rf : Nat → Int32} {a b : Int32} (h0 : h[0]? = some (oB 8 (lX G (jv) (bv)))) (h87 : h[87]? = some (aI 7 rf)) (hr : ¬ ((0 ≤ a.toInt ∧ a.toInt < 4) ∧ (0 ≤ b.toInt ∧ b.toInt < 4) ∧ a.toInt ≠ b.toInt)) : CU l G yX8_join cX8_join 3 (some .int) 3 0 0 [.ref (G.1 + 0), .int a, .int b] h (fun r h1 => ∃ rf1 : Nat → Int32, h1[87]? = some (aI 7 rf1) ∧ rng 87 87 h h1 ∧ r = -1) := by
  refine cm_ofQ rfl (Nat.le_of_ble_eq_true rfl) [(0, .ref (G.1 + 0)), (1, .int a), (2, .int b)] rfl (fun QF hQF => ?_)
  refine aw_iload_n 1 dX8_join_0 rfl rfl ?_
  refine aw_iload_n 2 dX8_join_1 rfl rfl ?_
  refine aw_dS [.int a, .int b] [] lX8_104 sX8_areTwo mX8_areTwo dX8_join_2 (bX8_areTwo (a := a) (b := b) ) rfl (Nat.le_of_ble_eq_true rfl) (by decide) (by decide) rfl ?_
  refine aw_if_ne 14 dX8_join_5 (by decide) (fun c5 => ?_) (fun c5 => ?_)
  · have t5 := ite_1 c5
    exfalso
    omega
  · have t5 := ite_0 c5
    refine aw_aload_n 0 dX8_join_8 rfl rfl ?_
    refine aw_iconst (-1) dX8_join_9 (by decide) ?_
    refine aw_eV [.int (-1)] [] lX8_70 vX8_refuse mX8_refuse dX8_join_10 (bX8_refuse (jv := jv) (bv := bv) (rf := rf) (x := (-1)) (q := 1) h0 h87 (by decide) (by decide)) h0 rfl rfl rfl (Nat.le_of_ble_eq_true rfl) (by decide) (by decide) rfl (fun h4808 q4807 => ?_)
    obtain ⟨rf14806, f4809, k4810⟩ := q4807
    have f4811 := rng_at k4810 (by decide) h0
    subst hQF
    exact aw_iret rfl dX8_join_13 (by decide) (by decide) ⟨_, rfl, _, f4809, rng_tr (rng_rf 87 87 h) (rng_w k4810 (by decide) (by decide)), rfl⟩
set_option maxHeartbeats 4000000 in
theorem oX8_bests_r {l : Launch} {G : xG} {h : List va_E} {jv bv : Value} {rf : Nat → Int32} {a b : Int32} (h0 : h[0]? = some (oB 8 (lX G (jv) (bv)))) (h87 : h[87]? = some (aI 7 rf)) (hr : ¬ ((0 ≤ a.toInt ∧ a.toInt < 4) ∧ (0 ≤ b.toInt ∧ b.toInt < 4) ∧ a.toInt ≠ b.toInt)) : CU l G yX8_bests cX8_bests 3 (some .int) 3 0 0 [.ref (G.1 + 0), .int a, .int b] h (fun r h1 => ∃ rf1 : Nat → Int32, h1[87]? = some (aI 7 rf1) ∧ rng 87 87 h h1 ∧ r = -1) := by
  refine cm_ofQ rfl (Nat.le_of_ble_eq_true rfl) [(0, .ref (G.1 + 0)), (1, .int a), (2, .int b)] rfl (fun QF hQF => ?_)
  refine aw_iload_n 1 dX8_bests_0 rfl rfl ?_
  refine aw_iload_n 2 dX8_bests_1 rfl rfl ?_
  refine aw_dS [.int a, .int b] [] lX8_104 sX8_areTwo mX8_areTwo dX8_bests_2 (bX8_areTwo (a := a) (b := b) ) rfl (Nat.le_of_ble_eq_true rfl) (by decide) (by decide) rfl ?_
  refine aw_if_ne 14 dX8_bests_5 (by decide) (fun c5 => ?_) (fun c5 => ?_)
  · have t5 := ite_1 c5
    exfalso
    omega
  · have t5 := ite_0 c5
    refine aw_aload_n 0 dX8_bests_8 rfl rfl ?_
    refine aw_iconst (-1) dX8_bests_9 (by decide) ?_
    refine aw_eV [.int (-1)] [] lX8_70 vX8_refuse mX8_refuse dX8_bests_10 (bX8_refuse (jv := jv) (bv := bv) (rf := rf) (x := (-1)) (q := 1) h0 h87 (by decide) (by decide)) h0 rfl rfl rfl (Nat.le_of_ble_eq_true rfl) (by decide) (by decide) rfl (fun h4814 q4813 => ?_)
    obtain ⟨rf14812, f4815, k4816⟩ := q4813
    have f4817 := rng_at k4816 (by decide) h0
    subst hQF
    exact aw_iret rfl dX8_bests_13 (by decide) (by decide) ⟨_, rfl, _, f4815, rng_tr (rng_rf 87 87 h) (rng_w k4816 (by decide) (by decide)), rfl⟩
set_option maxHeartbeats 4000000 in
theorem oX8_joined_r {l : Launch} {G : xG} {h : List va_E} {jv bv : Value} {rf : Nat → Int32} {fi : Nat → Nat} {nb sp fa ve : Nat} {a i b : Int32} (h0 : h[0]? = some (oB 8 (lX G (jv) (bv)))) (h87 : h[87]? = some (aI 7 rf)) (h1 : h[1]? = some (oB 1 (lC G (nI nb) (nI sp) (nI fa) (nI ve)))) (h5 : h[5]? = some (aI 4 (nA fi))) (hfi : ∀ j, j < 4 → fi j < 11) (hr : ¬ (((0 ≤ a.toInt ∧ a.toInt < 4) ∧ (0 ≤ b.toInt ∧ b.toInt < 4) ∧ a.toInt ≠ b.toInt) ∧ ((0 ≤ a.toInt ∧ a.toInt < 4) ∧ 0 ≤ i.toInt ∧ i.toInt < (fi (tn a) : Int)))) : CU l G yX8_joined cX8_joined 4 (some .int) 3 0 0 [.ref (G.1 + 0), .int a, .int i, .int b] h (fun r h1 => ∃ rf1 : Nat → Int32, h1[87]? = some (aI 7 rf1) ∧ rng 87 87 h h1 ∧ r = -1) := by
  refine cm_ofQ rfl (Nat.le_of_ble_eq_true rfl) [(0, .ref (G.1 + 0)), (1, .int a), (2, .int i), (3, .int b)] rfl (fun QF hQF => ?_)
  refine aw_iload_n 1 dX8_joined_0 rfl rfl ?_
  refine aw_iload_n 3 dX8_joined_1 rfl rfl ?_
  refine aw_dS [.int a, .int b] [] lX8_104 sX8_areTwo mX8_areTwo dX8_joined_2 (bX8_areTwo (a := a) (b := b) ) rfl (Nat.le_of_ble_eq_true rfl) (by decide) (by decide) rfl ?_
  refine aw_if_eq 17 dX8_joined_5 (by decide) (fun c5 => ?_) (fun c5 => ?_)
  · have t5 := ite_0 c5
    refine aw_aload_n 0 dX8_joined_17 rfl rfl ?_
    refine aw_iconst (-1) dX8_joined_18 (by decide) ?_
    refine aw_eV [.int (-1)] [] lX8_70 vX8_refuse mX8_refuse dX8_joined_19 (bX8_refuse (jv := jv) (bv := bv) (rf := rf) (x := (-1)) (q := 1) h0 h87 (by decide) (by decide)) h0 rfl rfl rfl (Nat.le_of_ble_eq_true rfl) (by decide) (by decide) rfl (fun h4820 q4819 => ?_)
    obtain ⟨rf14818, f4821, k4822⟩ := q4819
    have f4823 := rng_at k4822 (by decide) h0
    have f4824 := rng_at k4822 (by decide) h1
    have f4825 := rng_at k4822 (by decide) h5
    subst hQF
    exact aw_iret rfl dX8_joined_22 (by decide) (by decide) ⟨_, rfl, _, f4821, rng_tr (rng_rf 87 87 h) (rng_w k4822 (by decide) (by decide)), rfl⟩
  · have t5 := ite_1 c5
    refine aw_aload_n 0 dX8_joined_8 rfl rfl ?_
    refine aw_iload_n 1 dX8_joined_9 rfl rfl ?_
    refine aw_iload_n 2 dX8_joined_10 rfl rfl ?_
    refine aw_dV [.int a, .int i] [] lX8_107 vX8_isEntry mX8_isEntry dX8_joined_11 (bX8_isEntry (jv := jv) (bv := bv) (fi := fi) (nb := nb) (sp := sp) (fa := fa) (ve := ve) (c := a) (i := i) h0 h1 h5 hfi) h0 rfl rfl rfl (Nat.le_of_ble_eq_true rfl) (by decide) (by decide) rfl ?_
    refine aw_if_ne 23 dX8_joined_14 (by decide) (fun c14 => ?_) (fun c14 => ?_)
    · have t14 := ite_1 c14
      exfalso
      omega
    · have t14 := ite_0 c14
      refine aw_aload_n 0 dX8_joined_17 rfl rfl ?_
      refine aw_iconst (-1) dX8_joined_18 (by decide) ?_
      refine aw_eV [.int (-1)] [] lX8_70 vX8_refuse mX8_refuse dX8_joined_19 (bX8_refuse (jv := jv) (bv := bv) (rf := rf) (x := (-1)) (q := 1) h0 h87 (by decide) (by decide)) h0 rfl rfl rfl (Nat.le_of_ble_eq_true rfl) (by decide) (by decide) rfl (fun h4828 q4827 => ?_)
      obtain ⟨rf14826, f4829, k4830⟩ := q4827
      have f4831 := rng_at k4830 (by decide) h0
      have f4832 := rng_at k4830 (by decide) h1
      have f4833 := rng_at k4830 (by decide) h5
      subst hQF
      exact aw_iret rfl dX8_joined_22 (by decide) (by decide) ⟨_, rfl, _, f4829, rng_tr (rng_rf 87 87 h) (rng_w k4830 (by decide) (by decide)), rfl⟩
set_option maxHeartbeats 4000000 in
theorem oX8_sure_r {l : Launch} {G : xG} {h : List va_E} {jv bv : Value} {rf : Nat → Int32} {fi : Nat → Nat} {nb sp fa ve : Nat} {a i b : Int32} (h0 : h[0]? = some (oB 8 (lX G (jv) (bv)))) (h87 : h[87]? = some (aI 7 rf)) (h1 : h[1]? = some (oB 1 (lC G (nI nb) (nI sp) (nI fa) (nI ve)))) (h5 : h[5]? = some (aI 4 (nA fi))) (hfi : ∀ j, j < 4 → fi j < 11) (hr : ¬ (((0 ≤ a.toInt ∧ a.toInt < 4) ∧ (0 ≤ b.toInt ∧ b.toInt < 4) ∧ a.toInt ≠ b.toInt) ∧ ((0 ≤ a.toInt ∧ a.toInt < 4) ∧ 0 ≤ i.toInt ∧ i.toInt < (fi (tn a) : Int)))) : CU l G yX8_sure cX8_sure 4 (some .int) 3 0 0 [.ref (G.1 + 0), .int a, .int i, .int b] h (fun r h1 => ∃ rf1 : Nat → Int32, h1[87]? = some (aI 7 rf1) ∧ rng 87 87 h h1 ∧ r = -1) := by
  refine cm_ofQ rfl (Nat.le_of_ble_eq_true rfl) [(0, .ref (G.1 + 0)), (1, .int a), (2, .int i), (3, .int b)] rfl (fun QF hQF => ?_)
  refine aw_iload_n 1 dX8_sure_0 rfl rfl ?_
  refine aw_iload_n 3 dX8_sure_1 rfl rfl ?_
  refine aw_dS [.int a, .int b] [] lX8_104 sX8_areTwo mX8_areTwo dX8_sure_2 (bX8_areTwo (a := a) (b := b) ) rfl (Nat.le_of_ble_eq_true rfl) (by decide) (by decide) rfl ?_
  refine aw_if_eq 17 dX8_sure_5 (by decide) (fun c5 => ?_) (fun c5 => ?_)
  · have t5 := ite_0 c5
    refine aw_aload_n 0 dX8_sure_17 rfl rfl ?_
    refine aw_iconst (-1) dX8_sure_18 (by decide) ?_
    refine aw_eV [.int (-1)] [] lX8_70 vX8_refuse mX8_refuse dX8_sure_19 (bX8_refuse (jv := jv) (bv := bv) (rf := rf) (x := (-1)) (q := 1) h0 h87 (by decide) (by decide)) h0 rfl rfl rfl (Nat.le_of_ble_eq_true rfl) (by decide) (by decide) rfl (fun h4836 q4835 => ?_)
    obtain ⟨rf14834, f4837, k4838⟩ := q4835
    have f4839 := rng_at k4838 (by decide) h0
    have f4840 := rng_at k4838 (by decide) h1
    have f4841 := rng_at k4838 (by decide) h5
    subst hQF
    exact aw_iret rfl dX8_sure_22 (by decide) (by decide) ⟨_, rfl, _, f4837, rng_tr (rng_rf 87 87 h) (rng_w k4838 (by decide) (by decide)), rfl⟩
  · have t5 := ite_1 c5
    refine aw_aload_n 0 dX8_sure_8 rfl rfl ?_
    refine aw_iload_n 1 dX8_sure_9 rfl rfl ?_
    refine aw_iload_n 2 dX8_sure_10 rfl rfl ?_
    refine aw_dV [.int a, .int i] [] lX8_107 vX8_isEntry mX8_isEntry dX8_sure_11 (bX8_isEntry (jv := jv) (bv := bv) (fi := fi) (nb := nb) (sp := sp) (fa := fa) (ve := ve) (c := a) (i := i) h0 h1 h5 hfi) h0 rfl rfl rfl (Nat.le_of_ble_eq_true rfl) (by decide) (by decide) rfl ?_
    refine aw_if_ne 23 dX8_sure_14 (by decide) (fun c14 => ?_) (fun c14 => ?_)
    · have t14 := ite_1 c14
      exfalso
      omega
    · have t14 := ite_0 c14
      refine aw_aload_n 0 dX8_sure_17 rfl rfl ?_
      refine aw_iconst (-1) dX8_sure_18 (by decide) ?_
      refine aw_eV [.int (-1)] [] lX8_70 vX8_refuse mX8_refuse dX8_sure_19 (bX8_refuse (jv := jv) (bv := bv) (rf := rf) (x := (-1)) (q := 1) h0 h87 (by decide) (by decide)) h0 rfl rfl rfl (Nat.le_of_ble_eq_true rfl) (by decide) (by decide) rfl (fun h4844 q4843 => ?_)
      obtain ⟨rf14842, f4845, k4846⟩ := q4843
      have f4847 := rng_at k4846 (by decide) h0
      have f4848 := rng_at k4846 (by decide) h1
      have f4849 := rng_at k4846 (by decide) h5
      subst hQF
      exact aw_iret rfl dX8_sure_22 (by decide) (by decide) ⟨_, rfl, _, f4845, rng_tr (rng_rf 87 87 h) (rng_w k4846 (by decide) (by decide)), rfl⟩
set_option maxHeartbeats 4000000 in
theorem oX8_copied_r {l : Launch} {G : xG} {h : List va_E} {jv bv : Value} {rf : Nat → Int32} {fi ye : Nat → Nat} {nb sp fa ve : Nat} {a b k : Int32} (h0 : h[0]? = some (oB 8 (lX G (jv) (bv)))) (h87 : h[87]? = some (aI 7 rf)) (h1 : h[1]? = some (oB 1 (lC G (nI nb) (nI sp) (nI fa) (nI ve)))) (h4 : h[4]? = some (aI 4 (nA ye))) (h5 : h[5]? = some (aI 4 (nA fi))) (hfi : ∀ j, j < 4 → fi j < 11) (hye : ∀ j, j < 4 → ye j < 1901) (hr : ¬ ((0 ≤ a.toInt ∧ a.toInt < 4) ∧ ((0 ≤ b.toInt ∧ b.toInt < 4) ∧ 0 ≤ k.toInt ∧ k.toInt < (fi (tn b) : Int)) ∧ ye (tn a) < ye (tn b))) : CU l G yX8_copied cX8_copied 6 (some .int) 3 0 0 [.ref (G.1 + 0), .int a, .int b, .int k] h (fun r h1 => ∃ rf1 : Nat → Int32, h1[87]? = some (aI 7 rf1) ∧ rng 87 87 h h1 ∧ True) := by
  refine cm_ofQ rfl (Nat.le_of_ble_eq_true rfl) [(0, .ref (G.1 + 0)), (1, .int a), (2, .int b), (3, .int k)] rfl (fun QF hQF => ?_)
  refine aw_iload_n 1 dX8_copied_0 rfl rfl ?_
  refine aw_dS [.int a] [] lX8_81 sX8_isCatalogue mX8_isCatalogue dX8_copied_1 (bX8_isCatalogue (x := a) ) rfl (Nat.le_of_ble_eq_true rfl) (by decide) (by decide) rfl ?_
  refine aw_if_eq 16 dX8_copied_4 (by decide) (fun c4 => ?_) (fun c4 => ?_)
  · have t4 := ite_0 c4
    refine aw_aload_n 0 dX8_copied_16 rfl rfl ?_
    refine aw_iconst (-1) dX8_copied_17 (by decide) ?_
    refine aw_eV [.int (-1)] [] lX8_70 vX8_refuse mX8_refuse dX8_copied_18 (bX8_refuse (jv := jv) (bv := bv) (rf := rf) (x := (-1)) (q := 1) h0 h87 (by decide) (by decide)) h0 rfl rfl rfl (Nat.le_of_ble_eq_true rfl) (by decide) (by decide) rfl (fun h4852 q4851 => ?_)
    obtain ⟨rf14850, f4853, k4854⟩ := q4851
    have f4855 := rng_at k4854 (by decide) h0
    have f4856 := rng_at k4854 (by decide) h1
    have f4857 := rng_at k4854 (by decide) h4
    have f4858 := rng_at k4854 (by decide) h5
    subst hQF
    exact aw_iret rfl dX8_copied_21 (by decide) (by decide) ⟨_, rfl, _, f4853, rng_tr (rng_rf 87 87 h) (rng_w k4854 (by decide) (by decide)), trivial⟩
  · have t4 := ite_1 c4
    refine aw_aload_n 0 dX8_copied_7 rfl rfl ?_
    refine aw_iload_n 2 dX8_copied_8 rfl rfl ?_
    refine aw_iload_n 3 dX8_copied_9 rfl rfl ?_
    refine aw_dV [.int b, .int k] [] lX8_107 vX8_isEntry mX8_isEntry dX8_copied_10 (bX8_isEntry (jv := jv) (bv := bv) (fi := fi) (nb := nb) (sp := sp) (fa := fa) (ve := ve) (c := b) (i := k) h0 h1 h5 hfi) h0 rfl rfl rfl (Nat.le_of_ble_eq_true rfl) (by decide) (by decide) rfl ?_
    refine aw_if_ne 22 dX8_copied_13 (by decide) (fun c13 => ?_) (fun c13 => ?_)
    · have t13 := ite_1 c13
      obtain ⟨a0, bb_a0, ee_a0⟩ := i_nat (x := a) (N := 4) (by omega) (by omega)
      subst ee_a0
      have tt_a0 : (nI a0).toInt = (a0 : Int) := nI_toInt (by omega)
      have nn_a0 : tn (nI a0) = a0 := tn_nI (by omega)
      obtain ⟨b0, bb_b0, ee_b0⟩ := i_nat (x := b) (N := 4) (by omega) (by omega)
      subst ee_b0
      have tt_b0 : (nI b0).toInt = (b0 : Int) := nI_toInt (by omega)
      have nn_b0 : tn (nI b0) = b0 := tn_nI (by omega)
      simp only [nn_a0, nn_b0] at hr t13
      refine aw_aload_n 0 dX8_copied_22 rfl rfl ?_
      refine aw_get fX8_20 dX8_copied_23 h0 rfl ?_
      refine aw_get fX8_148 dX8_copied_26 h1 rfl ?_
      refine aw_iload_n 2 dX8_copied_29 rfl rfl ?_
      refine aw_iald b0 (rfl) (by omega) (by decide) dX8_copied_30 h4 ?_
      refine aw_toe (nI (ye b0)) (rfl) ?_
      have b4859 := hye b0 (by omega)
      refine aw_aload_n 0 dX8_copied_31 rfl rfl ?_
      refine aw_get fX8_20 dX8_copied_32 h0 rfl ?_
      refine aw_get fX8_148 dX8_copied_35 h1 rfl ?_
      refine aw_iload_n 1 dX8_copied_38 rfl rfl ?_
      refine aw_iald a0 (rfl) (by omega) (by decide) dX8_copied_39 h4 ?_
      refine aw_toe (nI (ye a0)) (rfl) ?_
      have b4860 := hye a0 (by omega)
      refine aw_icmp_gt 50 dX8_copied_40 (by decide) (fun c40 => ?_) (fun c40 => ?_)
      · have d40 := (nv_lt (a := ye a0) (b := ye b0) (rfl) (rfl) (by omega) (by omega)).mp c40
        exfalso
        omega
      · have d40 := mt (nv_lt (a := ye a0) (b := ye b0) (rfl) (rfl) (by omega) (by omega)).mpr c40
        refine aw_aload_n 0 dX8_copied_43 rfl rfl ?_
        refine aw_bipush (-3) dX8_copied_44 (by decide) ?_
        refine aw_eV [.int (-3)] [] lX8_70 vX8_refuse mX8_refuse dX8_copied_46 (bX8_refuse (jv := jv) (bv := bv) (rf := rf) (x := (-3)) (q := 3) h0 h87 (by decide) (by decide)) h0 rfl rfl rfl (Nat.le_of_ble_eq_true rfl) (by decide) (by decide) rfl (fun h4863 q4862 => ?_)
        obtain ⟨rf14861, f4864, k4865⟩ := q4862
        have f4866 := rng_at k4865 (by decide) h0
        have f4867 := rng_at k4865 (by decide) h1
        have f4868 := rng_at k4865 (by decide) h4
        have f4869 := rng_at k4865 (by decide) h5
        subst hQF
        exact aw_iret rfl dX8_copied_49 (by decide) (by decide) ⟨_, rfl, _, f4864, rng_tr (rng_rf 87 87 h) (rng_w k4865 (by decide) (by decide)), trivial⟩
    · have t13 := ite_0 c13
      refine aw_aload_n 0 dX8_copied_16 rfl rfl ?_
      refine aw_iconst (-1) dX8_copied_17 (by decide) ?_
      refine aw_eV [.int (-1)] [] lX8_70 vX8_refuse mX8_refuse dX8_copied_18 (bX8_refuse (jv := jv) (bv := bv) (rf := rf) (x := (-1)) (q := 1) h0 h87 (by decide) (by decide)) h0 rfl rfl rfl (Nat.le_of_ble_eq_true rfl) (by decide) (by decide) rfl (fun h4872 q4871 => ?_)
      obtain ⟨rf14870, f4873, k4874⟩ := q4871
      have f4875 := rng_at k4874 (by decide) h0
      have f4876 := rng_at k4874 (by decide) h1
      have f4877 := rng_at k4874 (by decide) h4
      have f4878 := rng_at k4874 (by decide) h5
      subst hQF
      exact aw_iret rfl dX8_copied_21 (by decide) (by decide) ⟨_, rfl, _, f4873, rng_tr (rng_rf 87 87 h) (rng_w k4874 (by decide) (by decide)), trivial⟩
set_option maxHeartbeats 4000000 in
theorem bX8_isWay {l : Launch} {G : xG} {h : List va_E} {a : Nat} {y : Int32}  (ba : a < 4) : CD l G yX8_isWay cX8_isWay 5 (some .boolean) 3 0 0 [.int (nI a), .int y] h (some (.int (if (wyF a y = true) then 1 else 0))) h := by
  refine cm_ofQ rfl (Nat.le_of_ble_eq_true rfl) [(0, .int (nI a)), (1, .int y)] rfl (fun QF hQF => ?_)
  refine aw_iload_n 1 dX8_isWay_0 rfl rfl ?_
  refine aw_iconst (1) dX8_isWay_1 (by decide) ?_
  refine aw_icmp_lt 12 dX8_isWay_2 (by decide) (fun c2 => ?_) (fun c2 => ?_)
  · have d2 := (j_lt (a := y.toInt) (b := (1)) (rfl) (rfl)).mp c2
    refine aw_iconst (0) dX8_isWay_12 (by decide) ?_
    subst hQF
    exact aw_zret rfl rfl dX8_isWay_13 (by decide) (by decide) ⟨by rw [if_neg (by unfold wyF; simp only [Bool.and_eq_true, decide_eq_true_eq]; omega)], rfl⟩
  · have d2 := mt (j_lt (a := y.toInt) (b := (1)) (rfl) (rfl)).mpr c2
    refine aw_iload_n 1 dX8_isWay_5 rfl rfl ?_
    refine aw_sipush (999) dX8_isWay_6 (by decide) ?_
    refine aw_icmp_le 14 dX8_isWay_9 (by decide) (fun c9 => ?_) (fun c9 => ?_)
    · have d9 := (j_le (a := y.toInt) (b := (999)) (rfl) (rfl)).mp c9
      obtain ⟨y0, bb_y0, ee_y0⟩ := i_nat (x := y) (N := 1000) (by omega) (by omega)
      subst ee_y0
      have tt_y0 : (nI y0).toInt = (y0 : Int) := nI_toInt (by omega)
      have nn_y0 : tn (nI y0) = y0 := tn_nI (by omega)
      have pwa := pw4 a ba
      refine aw_iconst (1) dX8_isWay_14 (by decide) ?_
      refine aw_iload_n 0 dX8_isWay_15 rfl rfl ?_
      refine aw_ishl dX8_isWay_16 ?_
      refine aw_toe (nI (2 ^ a)) (nv_shl1 (rfl) (by omega)) ?_
      refine aw_istore_n [(2, .int (nI (2 ^ a))), (0, .int (nI a)), (1, .int (nI y0))] dX8_isWay_17 rfl (by decide) rfl ?_
      refine aw_iload_n 2 dX8_isWay_18 rfl rfl ?_
      refine aw_istore_n [(3, .int (nI y0)), (2, .int (nI (2 ^ a))), (0, .int (nI a)), (1, .int (nI y0))] dX8_isWay_19 rfl (by decide) rfl ?_
      refine aw_lv [(3, .int (nI y0)), (2, .int (nI (2 ^ a))), (1, .int (nI y0)), (0, .int (nI a))] [0, 1, 3, 2] rfl ?_
      suffices L4879 : ∀ (mm : Nat) (f : Nat) (se : Nat) (v : Nat), v < mm → (v < 1000) → (se < 16) → (wyG 3 (2 ^ a) y0 = wyG f se v) → (v < 10 ^ f) → AW l G yX8_isWay cX8_isWay 5 (some .boolean) (xR 3 0 0) (fun _ _ => True) QF 0 0 20 [(3, .int (nI v)), (2, .int (nI se)), (1, .int (nI y0)), (0, .int (nI a))] [] h from L4879 (y0 + 1) 3 (2 ^ a) y0 (Nat.lt_succ_self _) (by omega) (pw4 a ba) (rfl) (by omega)
      intro mm
      induction mm with
      | zero =>
        intro f se v hmm hv3 hse hw hv
        exact absurd hmm (Nat.not_lt_zero _)
      | succ mm ih4879 =>
        intro f se v hmm hv3 hse hw hv
        refine aw_iload_n 0 dX8_isWay_20 rfl rfl ?_
        refine aw_if_le 66 dX8_isWay_21 (by decide) (fun c21 => ?_) (fun c21 => ?_)
        · have d21 := (nv_le (a := v) (b := 0) (rfl) (rfl) (by omega) (by omega)).mp c21
          refine aw_iconst (1) dX8_isWay_66 (by decide) ?_
          subst hQF
          exact aw_zret rfl rfl dX8_isWay_67 (by decide) (by decide) ⟨by rw [if_pos (by unfold wyF; rw [nn_y0, hw, show v = 0 by omega, wyG_0]; simp only [Bool.and_true, decide_eq_true_eq]; omega)], rfl⟩
        · have d21 := mt (nv_le (a := v) (b := 0) (rfl) (rfl) (by omega) (by omega)).mpr c21
          rcases f with _ | f
          · exfalso; rw [Nat.pow_zero] at hv; omega
          refine aw_iload_n 0 dX8_isWay_24 rfl rfl ?_
          refine aw_bipush (10) dX8_isWay_25 (by decide) ?_
          refine aw_irem dX8_isWay_27 (by decide) ?_
          refine aw_toe (nI (v % 10)) (nv_rem (rfl) (rfl) (by omega) (by decide) (by decide)) ?_
          refine aw_iconst (1) dX8_isWay_28 (by decide) ?_
          refine aw_isub dX8_isWay_29 ?_
          refine aw_istore [(4, .int ((nI (v % 10)) - 1)), (3, .int (nI v)), (2, .int (nI se)), (1, .int (nI y0)), (0, .int (nI a))] dX8_isWay_30 (by decide) rfl ?_
          refine aw_iload 0 dX8_isWay_32 rfl ?_
          refine aw_dS [.int ((nI (v % 10)) - 1)] [] lX8_81 sX8_isCatalogue mX8_isCatalogue dX8_isWay_34 (bX8_isCatalogue (x := (nI (v % 10)) - 1) ) rfl (Nat.le_of_ble_eq_true rfl) (by decide) (by decide) rfl ?_
          refine aw_if_eq 49 dX8_isWay_37 (by decide) (fun c37 => ?_) (fun c37 => ?_)
          · have t37 := ite_0 c37
            refine aw_iconst (0) dX8_isWay_49 (by decide) ?_
            subst hQF
            exact aw_zret rfl rfl dX8_isWay_50 (by decide) (by decide) ⟨by rw [if_neg (by unfold wyF; rw [nn_y0, hw, wyG_n (by omega) (fun q => t37 (by rw [dig_i (by omega)]; omega))]; simp)], rfl⟩
          · have t37 := ite_1 c37
            have g0 : 1 ≤ v % 10 ∧ v % 10 ≤ 4 := by rw [dig_i (by omega)] at t37; omega
            rw [dig_e g0.1]
            refine aw_iload_n 2 dX8_isWay_40 rfl rfl ?_
            refine aw_iload 0 dX8_isWay_41 rfl ?_
            refine aw_ishr dX8_isWay_43 ?_
            refine aw_iconst (1) dX8_isWay_44 (by decide) ?_
            refine aw_iand dX8_isWay_45 ?_
            refine aw_toe (if se.testBit (v % 10 - 1) = true then 1 else 0) (nv_bit (rfl) (rfl) (by omega) (by omega)) ?_
            refine aw_if_eq 51 dX8_isWay_46 (by decide) (fun c46 => ?_) (fun c46 => ?_)
            · have t46 := ite_0 c46
              refine aw_iload_n 2 dX8_isWay_51 rfl rfl ?_
              refine aw_iconst (1) dX8_isWay_52 (by decide) ?_
              refine aw_iload 0 dX8_isWay_53 rfl ?_
              refine aw_ishl dX8_isWay_55 ?_
              refine aw_toe (nI (2 ^ (v % 10 - 1))) (nv_shl1 (rfl) (by omega)) ?_
              refine aw_ior dX8_isWay_56 ?_
              refine aw_toe (nI (se ||| (2 ^ (v % 10 - 1)))) (nv_or (rfl) (rfl)) ?_
              refine aw_istore_n [(2, .int (nI (se ||| (2 ^ (v % 10 - 1))))), (4, .int (nI (v % 10 - 1))), (3, .int (nI v)), (1, .int (nI y0)), (0, .int (nI a))] dX8_isWay_57 rfl (by decide) rfl ?_
              refine aw_iload_n 2 dX8_isWay_58 rfl rfl ?_
              refine aw_bipush (10) dX8_isWay_59 (by decide) ?_
              refine aw_idiv dX8_isWay_61 (by decide) ?_
              refine aw_toe (nI (v / 10)) (nv_div (rfl) (rfl) (by omega) (by decide) (by decide)) ?_
              refine aw_istore_n [(3, .int (nI (v / 10))), (2, .int (nI (se ||| (2 ^ (v % 10 - 1))))), (4, .int (nI (v % 10 - 1))), (1, .int (nI y0)), (0, .int (nI a))] dX8_isWay_62 rfl (by decide) rfl ?_
              refine aw_goto 20 dX8_isWay_63 (by decide) ?_
              refine aw_lv [(3, .int (nI (v / 10))), (2, .int (nI (se ||| (2 ^ (v % 10 - 1))))), (1, .int (nI y0)), (0, .int (nI a))] [0, 1, 3, 4] rfl ?_
              exact ih4879 f (se ||| 2 ^ (v % 10 - 1)) (v / 10) (by omega) (by omega) (or_16 hse (by omega)) (hw.trans (wyG_y (by omega) g0 t46)) (by rw [Nat.pow_succ] at hv; omega)
            · have t46 := ite_1 c46
              refine aw_iconst (0) dX8_isWay_49 (by decide) ?_
              subst hQF
              exact aw_zret rfl rfl dX8_isWay_50 (by decide) (by decide) ⟨by rw [if_neg (by unfold wyF; rw [nn_y0, hw, wyG_n (by omega) (fun q => q.2 t46)]; simp)], rfl⟩
    · have d9 := mt (j_le (a := y.toInt) (b := (999)) (rfl) (rfl)).mpr c9
      refine aw_iconst (0) dX8_isWay_12 (by decide) ?_
      subst hQF
      exact aw_zret rfl rfl dX8_isWay_13 (by decide) (by decide) ⟨by rw [if_neg (by unfold wyF; simp only [Bool.and_eq_true, decide_eq_true_eq]; omega)], rfl⟩
/-- what a rebuilt shelf holds -/
def SHok (st : Nat) (so x y tr : Nat → Nat) (n sz : Nat) (tt su : Int32) (to : Nat → Int32) : Prop :=
  ∃ (tg0 : Nat → Int32) (po0 : Nat → Nat) (tg1 : Nat → Int32) (po1 : Nat → Nat) (lf0 be0 le0 re0 : Nat → Int32) (T1 : trT) (bs0 gg0 bs1 gg1 to0 : Nat → Int32),
    (∀ j, j < 12 → po0 j < 8) ∧ (sz, tg1, po1) = rtF st tg0 po0 12 ∧ (∀ j, j < 64 → lf0 j = 0 ∧ be0 j = 0) ∧ (∀ j, j < 8 → le0 j = 0 ∧ re0 j = 0) ∧ (tt, T1) = twF st so x y tr po1 (lf0, be0, le0, re0) n ∧
    bs1 = (wtF T1.2.2.1 T1.2.2.2 T1.1 T1.2.1 sz (2 ^ sz - 1 - 1) (wzF (2 ^ sz - 1) bs0 sz, gg0)).1 ∧ gg1 = gaF T1.2.2.1 T1.2.2.2 T1.1 sz 0 (wtF T1.2.2.1 T1.2.2.2 T1.1 T1.2.1 sz (2 ^ sz - 1 - 1) (wzF (2 ^ sz - 1) bs0 sz, gg0)).2 sz ∧ su = wsF gg1 bs1 T1.2.1 0 0 sz ∧ to = (trF T1.2.2.1 T1.2.2.2 T1.1 T1.2.1 bs1 tg1 sz gg1 to0 sz).2.2.2
set_option maxHeartbeats 4000000 in
theorem bR_h {l : Launch} {G : xG} {h : List va_E} {jv : Value} {S sz b0 y0 : Nat} {tt su : Int32} {po : Nat → Nat} {tg lf be le re gg bs to : Nat → Int32} {so x y tr : Nat → Nat} {n st : Nat} (h0 : h[0]? = some (oB 8 (lX G (jv) (.ref (G.1 + S))))) (hS : h[S]? = some (oB 7 (lSh G S (nI sz) tt su (nI b0) (nI y0)))) (hS_1 : h[S + 1]? = some (aI 8 tg)) (hS_2 : h[S + 2]? = some (aI 12 (nA po))) (hS_3 : h[S + 3]? = some (aI 64 lf)) (hS_4 : h[S + 4]? = some (aI 64 be)) (hS_5 : h[S + 5]? = some (aI 8 le)) (hS_6 : h[S + 6]? = some (aI 8 re)) (hS_7 : h[S + 7]? = some (aI 8 gg)) (hS_8 : h[S + 8]? = some (aI 2048 bs)) (hS_9 : h[S + 9]? = some (aI 8 to)) (h79 : h[79]? = some (oB 6 (lS G (nI n)))) (h80 : h[80]? = some (aI 40 (nA so))) (h81 : h[81]? = some (aI 40 (nA x))) (h82 : h[82]? = some (aI 40 (nA y))) (h83 : h[83]? = some (aI 40 (nA tr))) (bst : st < 4096) (hst : st ≠ 0) (hpo : ∀ j, j < 12 → po j < 8) (bb0 : b0 < 4096) (by0 : y0 ≤ 40) (hS1 : 125 ≤ S) (hsz : sz ≤ 8) (hn : n ≤ 40) (bso : ∀ j, j < 40 → so j < 4) (bx : ∀ j, j < 40 → x j < 12) (by_ : ∀ j, j < 40 → y j < 12) (hb : b0 = st ∧ y0 = n) : CD l G yX8_bestRow cX8_bestRow 2 (some (.object RX7)) 5 0 0 [.ref (G.1 + 0), .int (nI st)] h (some (.ref (G.1 + S))) h := by
  refine cm_ofQ rfl (Nat.le_of_ble_eq_true rfl) [(0, .ref (G.1 + 0)), (1, .int (nI st))] rfl (fun QF hQF => ?_)
  refine aw_aload_n 0 dX8_bestRow_0 rfl rfl ?_
  refine aw_get fX8_13 dX8_bestRow_1 h0 rfl ?_
  refine aw_nonnull 18 dX8_bestRow_4 (by decide) ?_
  refine aw_aload_n 0 dX8_bestRow_18 rfl rfl ?_
  refine aw_get fX8_13 dX8_bestRow_19 h0 rfl ?_
  refine aw_iload_n 1 dX8_bestRow_22 rfl rfl ?_
  refine aw_aload_n 0 dX8_bestRow_23 rfl rfl ?_
  refine aw_get fX8_51 dX8_bestRow_24 h0 rfl ?_
  refine aw_dW [.int (nI st), .ref (G.1 + 79)] [] lX8_268 vX7_rebuild mX7_rebuild dX8_bestRow_27 (aX7_rebuild_h (S := S) (sz := sz) (b0 := b0) (y0 := y0) (tt := tt) (su := su) (po := po) (tg := tg) (lf := lf) (be := be) (le := le) (re := re) (gg := gg) (bs := bs) (to := to) (so := so) (x := x) (y := y) (tr := tr) (n := n) (st := st) hS hS_1 hS_2 hS_3 hS_4 hS_5 hS_6 hS_7 hS_8 hS_9 h79 h80 h81 h82 h83 (by omega) (by omega) hpo (by omega) (by omega) (by omega) (by omega) bso bx by_ (by omega)) hS rfl rfl rfl (Nat.le_of_ble_eq_true rfl) (by decide) (by decide) rfl ?_
  refine aw_aload_n 0 dX8_bestRow_30 rfl rfl ?_
  refine aw_get fX8_13 dX8_bestRow_31 h0 rfl ?_
  subst hQF
  exact aw_aret rfl dX8_bestRow_34 (by decide) (by decide) ⟨rfl, rfl⟩
set_option maxHeartbeats 4000000 in
theorem bR_m {l : Launch} {G : xG} {h : List va_E} {jv : Value} {S sz b0 y0 : Nat} {tt su : Int32} {po : Nat → Nat} {tg lf be le re gg bs to : Nat → Int32} {so x y tr : Nat → Nat} {n st : Nat} (h0 : h[0]? = some (oB 8 (lX G (jv) (.ref (G.1 + S))))) (hS : h[S]? = some (oB 7 (lSh G S (nI sz) tt su (nI b0) (nI y0)))) (hS_1 : h[S + 1]? = some (aI 8 tg)) (hS_2 : h[S + 2]? = some (aI 12 (nA po))) (hS_3 : h[S + 3]? = some (aI 64 lf)) (hS_4 : h[S + 4]? = some (aI 64 be)) (hS_5 : h[S + 5]? = some (aI 8 le)) (hS_6 : h[S + 6]? = some (aI 8 re)) (hS_7 : h[S + 7]? = some (aI 8 gg)) (hS_8 : h[S + 8]? = some (aI 2048 bs)) (hS_9 : h[S + 9]? = some (aI 8 to)) (h79 : h[79]? = some (oB 6 (lS G (nI n)))) (h80 : h[80]? = some (aI 40 (nA so))) (h81 : h[81]? = some (aI 40 (nA x))) (h82 : h[82]? = some (aI 40 (nA y))) (h83 : h[83]? = some (aI 40 (nA tr))) (bst : st < 4096) (hst : st ≠ 0) (hpo : ∀ j, j < 12 → po j < 8) (bb0 : b0 < 4096) (by0 : y0 ≤ 40) (hS1 : 125 ≤ S) (hsz : sz ≤ 8) (hn : n ≤ 40) (bso : ∀ j, j < 40 → so j < 4) (bx : ∀ j, j < 40 → x j < 12) (by_ : ∀ j, j < 40 → y j < 12) (hb : ¬ (b0 = st ∧ y0 = n)) : CE l G yX8_bestRow cX8_bestRow 2 (some (.object RX7)) 5 0 0 [.ref (G.1 + 0), .int (nI st)] h (some (.ref (G.1 + S))) (fun h1 => ∃ sz1 : Nat, ∃ tt1 : Int32, ∃ su1 : Int32, ∃ po1 : Nat → Nat, ∃ tg1 : Nat → Int32, ∃ lf1 : Nat → Int32, ∃ be1 : Nat → Int32, ∃ le1 : Nat → Int32, ∃ re1 : Nat → Int32, ∃ gg1 : Nat → Int32, ∃ bs1 : Nat → Int32, ∃ to1 : Nat → Int32, h1[S]? = some (oB 7 (lSh G S (nI sz1) tt1 su1 (nI st) (nI n))) ∧ h1[S + 1]? = some (aI 8 tg1) ∧ h1[S + 2]? = some (aI 12 (nA po1)) ∧ h1[S + 3]? = some (aI 64 lf1) ∧ h1[S + 4]? = some (aI 64 be1) ∧ h1[S + 5]? = some (aI 8 le1) ∧ h1[S + 6]? = some (aI 8 re1) ∧ h1[S + 7]? = some (aI 8 gg1) ∧ h1[S + 8]? = some (aI 2048 bs1) ∧ h1[S + 9]? = some (aI 8 to1) ∧ rng S (S + 9) h h1 ∧ (∀ j, j < 12 → po1 j < 8) ∧ sz1 ≤ 8 ∧ SHok st so x y tr n sz1 tt1 su1 to1) := by
  refine cm_ofQ rfl (Nat.le_of_ble_eq_true rfl) [(0, .ref (G.1 + 0)), (1, .int (nI st))] rfl (fun QF hQF => ?_)
  refine aw_aload_n 0 dX8_bestRow_0 rfl rfl ?_
  refine aw_get fX8_13 dX8_bestRow_1 h0 rfl ?_
  refine aw_nonnull 18 dX8_bestRow_4 (by decide) ?_
  refine aw_aload_n 0 dX8_bestRow_18 rfl rfl ?_
  refine aw_get fX8_13 dX8_bestRow_19 h0 rfl ?_
  refine aw_iload_n 1 dX8_bestRow_22 rfl rfl ?_
  refine aw_aload_n 0 dX8_bestRow_23 rfl rfl ?_
  refine aw_get fX8_51 dX8_bestRow_24 h0 rfl ?_
  refine aw_eW [.int (nI st), .ref (G.1 + 79)] [] lX8_268 vX7_rebuild mX7_rebuild dX8_bestRow_27 (aX7_rebuild_m (S := S) (sz := sz) (b0 := b0) (y0 := y0) (tt := tt) (su := su) (po := po) (tg := tg) (lf := lf) (be := be) (le := le) (re := re) (gg := gg) (bs := bs) (to := to) (so := so) (x := x) (y := y) (tr := tr) (n := n) (st := st) hS hS_1 hS_2 hS_3 hS_4 hS_5 hS_6 hS_7 hS_8 hS_9 h79 h80 h81 h82 h83 (by omega) (by omega) hpo (by omega) (by omega) (by omega) (by omega) bso bx by_ (by omega)) hS rfl rfl rfl (Nat.le_of_ble_eq_true rfl) (by decide) (by decide) rfl (fun h5333 q5332 => ?_)
  obtain ⟨sz15318, tt15319, su15320, po15321, tg15322, lf05323, be05324, le05325, re05326, T15327, gg15328, gg25329, bs15330, to15331, f5334, f5335, f5336, f5337, f5338, f5339, f5340, f5341, f5342, f5343, k5344, p5345, p5346, p5347, p5348, p5349, p5350, p5351, p5352⟩ := q5332
  have f5353 := rng_at k5344 (by omega) h0
  have f5354 := rng_at k5344 (by omega) h79
  have f5355 := rng_at k5344 (by omega) h80
  have f5356 := rng_at k5344 (by omega) h81
  have f5357 := rng_at k5344 (by omega) h82
  have f5358 := rng_at k5344 (by omega) h83
  refine aw_aload_n 0 dX8_bestRow_30 rfl rfl ?_
  refine aw_get fX8_13 dX8_bestRow_31 f5353 rfl ?_
  subst hQF
  exact aw_aret rfl dX8_bestRow_34 (by decide) (by decide) ⟨rfl, _, _, _, _, _, _, _, _, _, _, _, _, f5334, f5335, f5336, f5337, f5338, f5339, f5340, f5341, f5342, f5343, rng_tr (rng_rf S (S + 9) h) (rng_w k5344 (by omega) (by omega)), by have q := (rtF_ok (st := st) (tg := tg) (po := po) hpo 12).2; rw [← p5345] at q; exact q, by have q := (rtF_ok (st := st) (tg := tg) (po := po) hpo 12).1; rw [← p5345] at q; exact q, ⟨tg, po, _, _, _, _, _, _, _, bs, gg, _, _, to, hpo, p5345, p5346, p5347, p5348, p5349, p5350, p5351, p5352⟩⟩
set_option maxHeartbeats 4000000 in
theorem bR {l : Launch} {G : xG} {h : List va_E} {jv : Value} {S sz b0 y0 : Nat} {tt su : Int32} {po : Nat → Nat} {tg lf be le re gg bs to : Nat → Int32} {so x y tr : Nat → Nat} {n st : Nat} (h0 : h[0]? = some (oB 8 (lX G (jv) (.ref (G.1 + S))))) (hS : h[S]? = some (oB 7 (lSh G S (nI sz) tt su (nI b0) (nI y0)))) (hS_1 : h[S + 1]? = some (aI 8 tg)) (hS_2 : h[S + 2]? = some (aI 12 (nA po))) (hS_3 : h[S + 3]? = some (aI 64 lf)) (hS_4 : h[S + 4]? = some (aI 64 be)) (hS_5 : h[S + 5]? = some (aI 8 le)) (hS_6 : h[S + 6]? = some (aI 8 re)) (hS_7 : h[S + 7]? = some (aI 8 gg)) (hS_8 : h[S + 8]? = some (aI 2048 bs)) (hS_9 : h[S + 9]? = some (aI 8 to)) (h79 : h[79]? = some (oB 6 (lS G (nI n)))) (h80 : h[80]? = some (aI 40 (nA so))) (h81 : h[81]? = some (aI 40 (nA x))) (h82 : h[82]? = some (aI 40 (nA y))) (h83 : h[83]? = some (aI 40 (nA tr))) (bst : st < 4096) (hst : st ≠ 0) (hpo : ∀ j, j < 12 → po j < 8) (bb0 : b0 < 4096) (by0 : y0 ≤ 40) (hS1 : 125 ≤ S) (hsz : sz ≤ 8) (hn : n ≤ 40) (bso : ∀ j, j < 40 → so j < 4) (bx : ∀ j, j < 40 → x j < 12) (by_ : ∀ j, j < 40 → y j < 12) (hok : b0 = st → y0 = n → SHok st so x y tr n sz tt su to) : CE l G yX8_bestRow cX8_bestRow 2 (some (.object RX7)) 5 0 0 [.ref (G.1 + 0), .int (nI st)] h (some (.ref (G.1 + S))) (fun h1 => ∃ sz1 : Nat, ∃ tt1 : Int32, ∃ su1 : Int32, ∃ po1 : Nat → Nat, ∃ tg1 : Nat → Int32, ∃ lf1 : Nat → Int32, ∃ be1 : Nat → Int32, ∃ le1 : Nat → Int32, ∃ re1 : Nat → Int32, ∃ gg1 : Nat → Int32, ∃ bs1 : Nat → Int32, ∃ to1 : Nat → Int32, h1[S]? = some (oB 7 (lSh G S (nI sz1) tt1 su1 (nI st) (nI n))) ∧ h1[S + 1]? = some (aI 8 tg1) ∧ h1[S + 2]? = some (aI 12 (nA po1)) ∧ h1[S + 3]? = some (aI 64 lf1) ∧ h1[S + 4]? = some (aI 64 be1) ∧ h1[S + 5]? = some (aI 8 le1) ∧ h1[S + 6]? = some (aI 8 re1) ∧ h1[S + 7]? = some (aI 8 gg1) ∧ h1[S + 8]? = some (aI 2048 bs1) ∧ h1[S + 9]? = some (aI 8 to1) ∧ rng S (S + 9) h h1 ∧ (∀ j, j < 12 → po1 j < 8) ∧ sz1 ≤ 8 ∧ SHok st so x y tr n sz1 tt1 su1 to1) := by
  by_cases hb : b0 = st ∧ y0 = n
  · exact CD.e (bR_h h0 hS hS_1 hS_2 hS_3 hS_4 hS_5 hS_6 hS_7 hS_8 hS_9 h79 h80 h81 h82 h83 bst hst hpo bb0 by0 hS1 hsz hn bso bx by_ hb) ⟨sz, tt, su, po, tg, lf, be, le, re, gg, bs, to, (by rw [← hb.1, ← hb.2]; exact hS), hS_1, hS_2, hS_3, hS_4, hS_5, hS_6, hS_7, hS_8, hS_9, rng_rf _ _ _, hpo, hsz, hok hb.1 hb.2⟩
  · exact bR_m h0 hS hS_1 hS_2 hS_3 hS_4 hS_5 hS_6 hS_7 hS_8 hS_9 h79 h80 h81 h82 h83 bst hst hpo bb0 by0 hS1 hsz hn bso bx by_ hb
set_option maxHeartbeats 4000000 in
theorem bR_n {l : Launch} {G : xG} {h : List va_E} {jv : Value} {S : Nat} {so x y tr : Nat → Nat} {n st : Nat} (h0 : h[0]? = some (oB 8 (lX G (jv) (.null)))) (h79 : h[79]? = some (oB 6 (lS G (nI n)))) (h80 : h[80]? = some (aI 40 (nA so))) (h81 : h[81]? = some (aI 40 (nA x))) (h82 : h[82]? = some (aI 40 (nA y))) (h83 : h[83]? = some (aI 40 (nA tr))) (hl : h.length = S) (bst : st < 4096) (hst : st ≠ 0) (hS1 : 125 ≤ S) (hn : n ≤ 40) (bso : ∀ j, j < 40 → so j < 4) (bx : ∀ j, j < 40 → x j < 12) (by_ : ∀ j, j < 40 → y j < 12) : CE l G yX8_bestRow cX8_bestRow 2 (some (.object RX7)) 5 10 2242 [.ref (G.1 + 0), .int (nI st)] h (some (.ref (G.1 + S))) (fun h1 => ∃ sz1 : Nat, ∃ tt1 : Int32, ∃ su1 : Int32, ∃ po1 : Nat → Nat, ∃ tg1 : Nat → Int32, ∃ lf1 : Nat → Int32, ∃ be1 : Nat → Int32, ∃ le1 : Nat → Int32, ∃ re1 : Nat → Int32, ∃ gg1 : Nat → Int32, ∃ bs1 : Nat → Int32, ∃ to1 : Nat → Int32, h1[0]? = some (oB 8 (lX G (jv) (.ref (G.1 + S)))) ∧ h1[S]? = some (oB 7 (lSh G S (nI sz1) tt1 su1 (nI st) (nI n))) ∧ h1[S + 1]? = some (aI 8 tg1) ∧ h1[S + 2]? = some (aI 12 (nA po1)) ∧ h1[S + 3]? = some (aI 64 lf1) ∧ h1[S + 4]? = some (aI 64 be1) ∧ h1[S + 5]? = some (aI 8 le1) ∧ h1[S + 6]? = some (aI 8 re1) ∧ h1[S + 7]? = some (aI 8 gg1) ∧ h1[S + 8]? = some (aI 2048 bs1) ∧ h1[S + 9]? = some (aI 8 to1) ∧ grw 0 0 0 0 h h1 ∧ (∀ j, j < 12 → po1 j < 8) ∧ sz1 ≤ 8 ∧ SHok st so x y tr n sz1 tt1 su1 to1 ∧ h1.length = S + 10) := by
  refine cm_ofQ rfl (Nat.le_of_ble_eq_true rfl) [(0, .ref (G.1 + 0)), (1, .int (nI st))] rfl (fun QF hQF => ?_)
  refine aw_aload_n 0 dX8_bestRow_0 rfl rfl ?_
  refine aw_get fX8_13 dX8_bestRow_1 h0 rfl ?_
  refine aw_nonnullN dX8_bestRow_4 ?_
  refine aw_aload_n 0 dX8_bestRow_7 rfl rfl ?_
  refine aw_newQ S nX8_216 dX8_bestRow_8 [.null, .null, .null, .null, .null, .null, .null, .null, .null, .int 0, .int 0, .int 0, .int 0, .int 0] (by decide) (by decide) (by decide) (by simp [hl] <;> omega) ?_
  refine aw_dup dX8_bestRow_11 rfl ?_
  refine aw_eN [] [.ref (G.1 + S), .ref (G.1 + 0)] lX8_267 vX7_init mX7_init dX8_bestRow_12 (KX7_init (a := S) (by simp [hl]) (gp (by simp [hl] <;> omega))) rfl (Nat.le_of_ble_eq_true rfl) (by decide) (by decide) rfl (fun h5360 q5359 => ?_)
  obtain ⟨l5361, f5363, f5364, f5365, f5366, f5367, f5368, f5369, f5370, f5371, f5372, k5362⟩ := q5359
  have f5373 := lo_at k5362 (by omega) (ga (h0))
  have f5374 := lo_at k5362 (by omega) (ga (h79))
  have f5375 := lo_at k5362 (by omega) (ga (h80))
  have f5376 := lo_at k5362 (by omega) (ga (h81))
  have f5377 := lo_at k5362 (by omega) (ga (h82))
  have f5378 := lo_at k5362 (by omega) (ga (h83))
  refine aw_putQ fX8_13 dX8_bestRow_15 (lX G (jv) (.ref (G.1 + S))) f5373 rfl rfl rfl (Nat.le_of_ble_eq_true rfl) rfl ?_
  refine aw_aload_n 0 dX8_bestRow_18 rfl rfl ?_
  refine aw_get fX8_13 dX8_bestRow_19 (gs f5373) rfl ?_
  refine aw_iload_n 1 dX8_bestRow_22 rfl rfl ?_
  refine aw_aload_n 0 dX8_bestRow_23 rfl rfl ?_
  refine aw_get fX8_51 dX8_bestRow_24 (gs f5373) rfl ?_
  refine aw_eW [.int (nI st), .ref (G.1 + 79)] [] lX8_268 vX7_rebuild mX7_rebuild dX8_bestRow_27 (aX7_rebuild_m (S := S) (sz := 0) (b0 := 0) (y0 := 0) (tt := 0) (su := 0) (po := fun _ => 0) (tg := fun _ => 0) (lf := fun _ => 0) (be := fun _ => 0) (le := fun _ => 0) (re := fun _ => 0) (gg := fun _ => 0) (bs := fun _ => 0) (to := fun _ => 0) (so := so) (x := x) (y := y) (tr := tr) (n := n) (st := st) (gn (by omega) (f5363)) (gn (by omega) (f5364)) (gn (by omega) (f5365)) (gn (by omega) (f5366)) (gn (by omega) (f5367)) (gn (by omega) (f5368)) (gn (by omega) (f5369)) (gn (by omega) (f5370)) (gn (by omega) (f5371)) (gn (by omega) (f5372)) (gn (by decide) (f5374)) (gn (by decide) (f5375)) (gn (by decide) (f5376)) (gn (by decide) (f5377)) (gn (by decide) (f5378)) (by omega) (by omega) (fun _ _ => (by decide : 0 < 8)) (by decide) (by decide) (by omega) (by omega) bso bx by_ (fun q => hst q.1.symm)) (gn (by omega) (f5363)) rfl rfl rfl (Nat.le_of_ble_eq_true rfl) (by decide) (by decide) rfl (fun h5394 q5393 => ?_)
  obtain ⟨sz15379, tt15380, su15381, po15382, tg15383, lf05384, be05385, le05386, re05387, T15388, gg15389, gg25390, bs15391, to15392, f5395, f5396, f5397, f5398, f5399, f5400, f5401, f5402, f5403, f5404, k5405, p5406, p5407, p5408, p5409, p5410, p5411, p5412, p5413⟩ := q5393
  have f5414 := rng_at k5405 (by omega) (gs f5373)
  have f5415 := rng_at k5405 (by omega) (gn (by decide) (f5374))
  have f5416 := rng_at k5405 (by omega) (gn (by decide) (f5375))
  have f5417 := rng_at k5405 (by omega) (gn (by decide) (f5376))
  have f5418 := rng_at k5405 (by omega) (gn (by decide) (f5377))
  have f5419 := rng_at k5405 (by omega) (gn (by decide) (f5378))
  refine aw_aload_n 0 dX8_bestRow_30 rfl rfl ?_
  refine aw_get fX8_13 dX8_bestRow_31 f5414 rfl ?_
  subst hQF
  exact aw_aret rfl dX8_bestRow_34 (by decide) (by decide) ⟨rfl, _, _, _, _, _, _, _, _, _, _, _, _, f5414, f5395, f5396, f5397, f5398, f5399, f5400, f5401, f5402, f5403, f5404, grw_r2 (grw_set (grw_lo (grw_app (grw_rf 0 0 0 0 h)) k5362 (by omega) (by simp [hl, l5361])) (by omega)) k5405 (fun j q1 q2 => by omega), by have q := (rtF_ok (st := st) (tg := (fun _ => 0)) (po := (fun _ => 0)) (fun _ _ => (by decide : 0 < 8)) 12).2; rw [← p5406] at q; exact q, by have q := (rtF_ok (st := st) (tg := (fun _ => 0)) (po := (fun _ => 0)) (fun _ _ => (by decide : 0 < 8)) 12).1; rw [← p5406] at q; exact q, ⟨(fun _ => 0), (fun _ => 0), _, _, _, _, _, _, _, (fun _ => 0), (fun _ => 0), _, _, (fun _ => 0), (fun _ _ => (by decide : 0 < 8)), p5406, p5407, p5408, p5409, p5410, p5411, p5412, p5413⟩, by rw [k5405.1, List.length_set, l5361]⟩
set_option maxHeartbeats 4000000 in
theorem oX8_shelf_r {l : Launch} {G : xG} {h : List va_E} {jv bv : Value} {rf : Nat → Int32} {w : Int32} (h0 : h[0]? = some (oB 8 (lX G (jv) (bv)))) (h87 : h[87]? = some (aI 7 rf)) (hr : ¬ shR w = 0) : CE l G yX8_shelf cX8_shelf 3 (some .int) 3 0 0 [.ref (G.1 + 0), .int w] h (some (.int (shR w))) (fun h1 => ∃ rf1 : Nat → Int32, h1[87]? = some (aI 7 rf1) ∧ rng 87 87 h h1) := by
  refine cm_ofQ rfl (Nat.le_of_ble_eq_true rfl) [(0, .ref (G.1 + 0)), (1, .int w)] rfl (fun QF hQF => ?_)
  refine aw_iload_n 1 dX8_shelf_0 rfl rfl ?_
  refine aw_dS [.int w] [] lX8_208 sX8_shelfRefusal mX8_shelfRefusal dX8_shelf_1 (bX8_shelfRefusal (x := w) ) rfl (Nat.le_of_ble_eq_true rfl) (by decide) (by decide) rfl ?_
  refine aw_istore_n [(2, .int (shR w)), (0, .ref (G.1 + 0)), (1, .int w)] dX8_shelf_4 rfl (by decide) rfl ?_
  refine aw_iload_n 0 dX8_shelf_5 rfl rfl ?_
  refine aw_if_eq 15 dX8_shelf_6 (by decide) (fun c6 => absurd c6 (hr)) (fun c6 => ?_)
  have c6_ := hr
  refine aw_aload_n 1 dX8_shelf_9 rfl rfl ?_
  refine aw_iload_n 0 dX8_shelf_10 rfl rfl ?_
  obtain ⟨q5420, bq5420, eq5420⟩ := Or.resolve_left (shR_q w) (by assumption)
  refine aw_eV [.int (shR w)] [] lX8_70 vX8_refuse mX8_refuse dX8_shelf_11 (bX8_refuse (jv := jv) (bv := bv) (rf := rf) (x := (shR w)) (q := q5420) h0 h87 bq5420 eq5420) h0 rfl rfl rfl (Nat.le_of_ble_eq_true rfl) (by decide) (by decide) rfl (fun h5423 q5422 => ?_)
  obtain ⟨rf15421, f5424, k5425⟩ := q5422
  have f5426 := rng_at k5425 (by decide) h0
  subst hQF
  exact aw_iret rfl dX8_shelf_14 (by decide) (by decide) ⟨rfl, _, f5424, rng_tr (rng_rf 87 87 h) (rng_w k5425 (by decide) (by decide))⟩
set_option maxHeartbeats 4000000 in
theorem oX8_shelf_o {l : Launch} {G : xG} {h : List va_E} {jv : Value} {S sz b0 y0 : Nat} {tt su : Int32} {po : Nat → Nat} {tg lf be le re gg bs to : Nat → Int32} {so x y tr : Nat → Nat} {n st : Nat} (h0 : h[0]? = some (oB 8 (lX G (jv) (.ref (G.1 + S))))) (hS : h[S]? = some (oB 7 (lSh G S (nI sz) tt su (nI b0) (nI y0)))) (hS_1 : h[S + 1]? = some (aI 8 tg)) (hS_2 : h[S + 2]? = some (aI 12 (nA po))) (hS_3 : h[S + 3]? = some (aI 64 lf)) (hS_4 : h[S + 4]? = some (aI 64 be)) (hS_5 : h[S + 5]? = some (aI 8 le)) (hS_6 : h[S + 6]? = some (aI 8 re)) (hS_7 : h[S + 7]? = some (aI 8 gg)) (hS_8 : h[S + 8]? = some (aI 2048 bs)) (hS_9 : h[S + 9]? = some (aI 8 to)) (h79 : h[79]? = some (oB 6 (lS G (nI n)))) (h80 : h[80]? = some (aI 40 (nA so))) (h81 : h[81]? = some (aI 40 (nA x))) (h82 : h[82]? = some (aI 40 (nA y))) (h83 : h[83]? = some (aI 40 (nA tr))) (bst : st < 4096) (hst : st ≠ 0) (hpo : ∀ j, j < 12 → po j < 8) (bb0 : b0 < 4096) (by0 : y0 ≤ 40) (hS1 : 125 ≤ S) (hsz : sz ≤ 8) (hn : n ≤ 40) (bso : ∀ j, j < 40 → so j < 4) (bx : ∀ j, j < 40 → x j < 12) (by_ : ∀ j, j < 40 → y j < 12) (hok : b0 = st → y0 = n → SHok st so x y tr n sz tt su to) (hz : shR (nI st) = 0) : CU l G yX8_shelf cX8_shelf 3 (some .int) 6 0 0 [.ref (G.1 + 0), .int (nI st)] h (fun r h1 => ∃ sz1 : Nat, ∃ tt1 : Int32, ∃ su1 : Int32, ∃ po1 : Nat → Nat, ∃ tg1 : Nat → Int32, ∃ lf1 : Nat → Int32, ∃ be1 : Nat → Int32, ∃ le1 : Nat → Int32, ∃ re1 : Nat → Int32, ∃ gg1 : Nat → Int32, ∃ bs1 : Nat → Int32, ∃ to1 : Nat → Int32, h1[S]? = some (oB 7 (lSh G S (nI sz1) tt1 su1 (nI st) (nI n))) ∧ h1[S + 1]? = some (aI 8 tg1) ∧ h1[S + 2]? = some (aI 12 (nA po1)) ∧ h1[S + 3]? = some (aI 64 lf1) ∧ h1[S + 4]? = some (aI 64 be1) ∧ h1[S + 5]? = some (aI 8 le1) ∧ h1[S + 6]? = some (aI 8 re1) ∧ h1[S + 7]? = some (aI 8 gg1) ∧ h1[S + 8]? = some (aI 2048 bs1) ∧ h1[S + 9]? = some (aI 8 to1) ∧ rng S (S + 9) h h1 ∧ (∀ j, j < 12 → po1 j < 8) ∧ sz1 ≤ 8 ∧ SHok st so x y tr n sz1 tt1 su1 to1 ∧ r = su1) := by
  refine cm_ofQ rfl (Nat.le_of_ble_eq_true rfl) [(0, .ref (G.1 + 0)), (1, .int (nI st))] rfl (fun QF hQF => ?_)
  refine aw_iload_n 1 dX8_shelf_0 rfl rfl ?_
  refine aw_dS [.int (nI st)] [] lX8_208 sX8_shelfRefusal mX8_shelfRefusal dX8_shelf_1 (bX8_shelfRefusal (x := (nI st)) ) rfl (Nat.le_of_ble_eq_true rfl) (by decide) (by decide) rfl ?_
  refine aw_istore_n [(2, .int (shR (nI st))), (0, .ref (G.1 + 0)), (1, .int (nI st))] dX8_shelf_4 rfl (by decide) rfl ?_
  refine aw_iload_n 0 dX8_shelf_5 rfl rfl ?_
  refine aw_if_eq 15 dX8_shelf_6 (by decide) (fun c6 => ?_) (fun c6 => absurd (hz) c6)
  refine aw_aload_n 1 dX8_shelf_15 rfl rfl ?_
  refine aw_iload_n 2 dX8_shelf_16 rfl rfl ?_
  refine aw_eV [.int (nI st)] [] lX8_211 vX8_bestRow mX8_bestRow dX8_shelf_17 (bR (jv := jv) (S := S) (sz := sz) (b0 := b0) (y0 := y0) (tt := tt) (su := su) (po := po) (tg := tg) (lf := lf) (be := be) (le := le) (re := re) (gg := gg) (bs := bs) (to := to) (so := so) (x := x) (y := y) (tr := tr) (n := n) (st := st) h0 hS hS_1 hS_2 hS_3 hS_4 hS_5 hS_6 hS_7 hS_8 hS_9 h79 h80 h81 h82 h83 (by omega) (by omega) hpo (by omega) (by omega) (by omega) (by omega) (by omega) bso bx by_ hok) h0 rfl rfl rfl (Nat.le_of_ble_eq_true rfl) (by decide) (by decide) rfl (fun h5440 q5439 => ?_)
  obtain ⟨sz15427, tt15428, su15429, po15430, tg15431, lf15432, be15433, le15434, re15435, gg15436, bs15437, to15438, f5441, f5442, f5443, f5444, f5445, f5446, f5447, f5448, f5449, f5450, k5451, p5452, p5453, p5454⟩ := q5439
  have f5455 := rng_at k5451 (by omega) h0
  have f5456 := rng_at k5451 (by omega) h79
  have f5457 := rng_at k5451 (by omega) h80
  have f5458 := rng_at k5451 (by omega) h81
  have f5459 := rng_at k5451 (by omega) h82
  have f5460 := rng_at k5451 (by omega) h83
  refine aw_get fX8_215 dX8_shelf_20 f5441 rfl ?_
  subst hQF
  exact aw_iret rfl dX8_shelf_23 (by decide) (by decide) ⟨_, rfl, _, _, _, _, _, _, _, _, _, _, _, _, f5441, f5442, f5443, f5444, f5445, f5446, f5447, f5448, f5449, f5450, rng_tr (rng_rf S (S + 9) h) (rng_w k5451 (by omega) (by omega)), p5452, p5453, p5454, rfl⟩
set_option maxHeartbeats 4000000 in
theorem oX8_shelf_n {l : Launch} {G : xG} {h : List va_E} {jv : Value} {S : Nat} {so x y tr : Nat → Nat} {n st : Nat} (h0 : h[0]? = some (oB 8 (lX G (jv) (.null)))) (h79 : h[79]? = some (oB 6 (lS G (nI n)))) (h80 : h[80]? = some (aI 40 (nA so))) (h81 : h[81]? = some (aI 40 (nA x))) (h82 : h[82]? = some (aI 40 (nA y))) (h83 : h[83]? = some (aI 40 (nA tr))) (hl : h.length = S) (bst : st < 4096) (hst : st ≠ 0) (hS1 : 125 ≤ S) (hn : n ≤ 40) (bso : ∀ j, j < 40 → so j < 4) (bx : ∀ j, j < 40 → x j < 12) (by_ : ∀ j, j < 40 → y j < 12) (hz : shR (nI st) = 0) : CU l G yX8_shelf cX8_shelf 3 (some .int) 6 10 2242 [.ref (G.1 + 0), .int (nI st)] h (fun r h1 => ∃ sz1 : Nat, ∃ tt1 : Int32, ∃ su1 : Int32, ∃ po1 : Nat → Nat, ∃ tg1 : Nat → Int32, ∃ lf1 : Nat → Int32, ∃ be1 : Nat → Int32, ∃ le1 : Nat → Int32, ∃ re1 : Nat → Int32, ∃ gg1 : Nat → Int32, ∃ bs1 : Nat → Int32, ∃ to1 : Nat → Int32, h1[0]? = some (oB 8 (lX G (jv) (.ref (G.1 + S)))) ∧ h1[S]? = some (oB 7 (lSh G S (nI sz1) tt1 su1 (nI st) (nI n))) ∧ h1[S + 1]? = some (aI 8 tg1) ∧ h1[S + 2]? = some (aI 12 (nA po1)) ∧ h1[S + 3]? = some (aI 64 lf1) ∧ h1[S + 4]? = some (aI 64 be1) ∧ h1[S + 5]? = some (aI 8 le1) ∧ h1[S + 6]? = some (aI 8 re1) ∧ h1[S + 7]? = some (aI 8 gg1) ∧ h1[S + 8]? = some (aI 2048 bs1) ∧ h1[S + 9]? = some (aI 8 to1) ∧ grw 0 0 0 0 h h1 ∧ (∀ j, j < 12 → po1 j < 8) ∧ sz1 ≤ 8 ∧ SHok st so x y tr n sz1 tt1 su1 to1 ∧ h1.length = S + 10 ∧ r = su1) := by
  refine cm_ofQ rfl (Nat.le_of_ble_eq_true rfl) [(0, .ref (G.1 + 0)), (1, .int (nI st))] rfl (fun QF hQF => ?_)
  refine aw_iload_n 1 dX8_shelf_0 rfl rfl ?_
  refine aw_dS [.int (nI st)] [] lX8_208 sX8_shelfRefusal mX8_shelfRefusal dX8_shelf_1 (bX8_shelfRefusal (x := (nI st)) ) rfl (Nat.le_of_ble_eq_true rfl) (by decide) (by decide) rfl ?_
  refine aw_istore_n [(2, .int (shR (nI st))), (0, .ref (G.1 + 0)), (1, .int (nI st))] dX8_shelf_4 rfl (by decide) rfl ?_
  refine aw_iload_n 0 dX8_shelf_5 rfl rfl ?_
  refine aw_if_eq 15 dX8_shelf_6 (by decide) (fun c6 => ?_) (fun c6 => absurd (hz) c6)
  refine aw_aload_n 1 dX8_shelf_15 rfl rfl ?_
  refine aw_iload_n 2 dX8_shelf_16 rfl rfl ?_
  refine aw_eV [.int (nI st)] [] lX8_211 vX8_bestRow mX8_bestRow dX8_shelf_17 (bR_n (jv := jv) (so := so) (x := x) (y := y) (tr := tr) (n := n) (st := st) h0 h79 h80 h81 h82 h83 (by omega) (by omega) (by omega) (by omega) (by omega) bso bx by_) h0 rfl rfl rfl (Nat.le_of_ble_eq_true rfl) (by decide) (by decide) rfl (fun h5474 q5473 => ?_)
  obtain ⟨sz15461, tt15462, su15463, po15464, tg15465, lf15466, be15467, le15468, re15469, gg15470, bs15471, to15472, f5475, f5476, f5477, f5478, f5479, f5480, f5481, f5482, f5483, f5484, f5485, k5486, p5487, p5488, p5489, p5490⟩ := q5473
  have f5491 := grw_at k5486 (by decide) h79
  have f5492 := grw_at k5486 (by decide) h80
  have f5493 := grw_at k5486 (by decide) h81
  have f5494 := grw_at k5486 (by decide) h82
  have f5495 := grw_at k5486 (by decide) h83
  refine aw_get fX8_215 dX8_shelf_20 f5476 rfl ?_
  subst hQF
  exact aw_iret rfl dX8_shelf_23 (by decide) (by decide) ⟨_, rfl, _, _, _, _, _, _, _, _, _, _, _, _, f5475, f5476, f5477, f5478, f5479, f5480, f5481, f5482, f5483, f5484, f5485, grw_gg (grw_rf 0 0 0 0 h) k5486 (fun j q1 q2 => by omega), p5487, p5488, p5489, p5490, rfl⟩
set_option maxHeartbeats 4000000 in
theorem oX8_row_r {l : Launch} {G : xG} {h : List va_E} {jv bv : Value} {rf : Nat → Int32} {w k : Int32} (h0 : h[0]? = some (oB 8 (lX G (jv) (bv)))) (h87 : h[87]? = some (aI 7 rf)) (hr : ¬ shR w = 0) : CE l G yX8_row cX8_row 5 (some .int) 3 0 0 [.ref (G.1 + 0), .int w, .int k] h (some (.int (shR w))) (fun h1 => ∃ rf1 : Nat → Int32, h1[87]? = some (aI 7 rf1) ∧ rng 87 87 h h1) := by
  refine cm_ofQ rfl (Nat.le_of_ble_eq_true rfl) [(0, .ref (G.1 + 0)), (1, .int w), (2, .int k)] rfl (fun QF hQF => ?_)
  refine aw_iload_n 1 dX8_row_0 rfl rfl ?_
  refine aw_dS [.int w] [] lX8_208 sX8_shelfRefusal mX8_shelfRefusal dX8_row_1 (bX8_shelfRefusal (x := w) ) rfl (Nat.le_of_ble_eq_true rfl) (by decide) (by decide) rfl ?_
  refine aw_istore_n [(3, .int (shR w)), (0, .ref (G.1 + 0)), (1, .int w), (2, .int k)] dX8_row_4 rfl (by decide) rfl ?_
  refine aw_iload_n 0 dX8_row_5 rfl rfl ?_
  refine aw_if_eq 15 dX8_row_6 (by decide) (fun c6 => absurd c6 (hr)) (fun c6 => ?_)
  have c6_ := hr
  refine aw_aload_n 1 dX8_row_9 rfl rfl ?_
  refine aw_iload_n 0 dX8_row_10 rfl rfl ?_
  obtain ⟨q5496, bq5496, eq5496⟩ := Or.resolve_left (shR_q w) (by assumption)
  refine aw_eV [.int (shR w)] [] lX8_70 vX8_refuse mX8_refuse dX8_row_11 (bX8_refuse (jv := jv) (bv := bv) (rf := rf) (x := (shR w)) (q := q5496) h0 h87 bq5496 eq5496) h0 rfl rfl rfl (Nat.le_of_ble_eq_true rfl) (by decide) (by decide) rfl (fun h5499 q5498 => ?_)
  obtain ⟨rf15497, f5500, k5501⟩ := q5498
  have f5502 := rng_at k5501 (by decide) h0
  subst hQF
  exact aw_iret rfl dX8_row_14 (by decide) (by decide) ⟨rfl, _, f5500, rng_tr (rng_rf 87 87 h) (rng_w k5501 (by decide) (by decide))⟩
set_option maxHeartbeats 4000000 in
theorem oX8_row_o {l : Launch} {G : xG} {h : List va_E} {jv : Value} {S sz b0 y0 : Nat} {tt su : Int32} {po : Nat → Nat} {tg lf be le re gg bs to : Nat → Int32} {so x y tr : Nat → Nat} {n st : Nat} {k : Int32} (h0 : h[0]? = some (oB 8 (lX G (jv) (.ref (G.1 + S))))) (hS : h[S]? = some (oB 7 (lSh G S (nI sz) tt su (nI b0) (nI y0)))) (hS_1 : h[S + 1]? = some (aI 8 tg)) (hS_2 : h[S + 2]? = some (aI 12 (nA po))) (hS_3 : h[S + 3]? = some (aI 64 lf)) (hS_4 : h[S + 4]? = some (aI 64 be)) (hS_5 : h[S + 5]? = some (aI 8 le)) (hS_6 : h[S + 6]? = some (aI 8 re)) (hS_7 : h[S + 7]? = some (aI 8 gg)) (hS_8 : h[S + 8]? = some (aI 2048 bs)) (hS_9 : h[S + 9]? = some (aI 8 to)) (h79 : h[79]? = some (oB 6 (lS G (nI n)))) (h80 : h[80]? = some (aI 40 (nA so))) (h81 : h[81]? = some (aI 40 (nA x))) (h82 : h[82]? = some (aI 40 (nA y))) (h83 : h[83]? = some (aI 40 (nA tr))) (bst : st < 4096) (hst : st ≠ 0) (hpo : ∀ j, j < 12 → po j < 8) (bb0 : b0 < 4096) (by0 : y0 ≤ 40) (hS1 : 125 ≤ S) (hsz : sz ≤ 8) (hn : n ≤ 40) (bso : ∀ j, j < 40 → so j < 4) (bx : ∀ j, j < 40 → x j < 12) (by_ : ∀ j, j < 40 → y j < 12) (hok : b0 = st → y0 = n → SHok st so x y tr n sz tt su to) (hz : shR (nI st) = 0) : CU l G yX8_row cX8_row 5 (some .int) 6 0 0 [.ref (G.1 + 0), .int (nI st), .int k] h (fun r h1 => ∃ sz1 : Nat, ∃ tt1 : Int32, ∃ su1 : Int32, ∃ po1 : Nat → Nat, ∃ tg1 : Nat → Int32, ∃ lf1 : Nat → Int32, ∃ be1 : Nat → Int32, ∃ le1 : Nat → Int32, ∃ re1 : Nat → Int32, ∃ gg1 : Nat → Int32, ∃ bs1 : Nat → Int32, ∃ to1 : Nat → Int32, h1[S]? = some (oB 7 (lSh G S (nI sz1) tt1 su1 (nI st) (nI n))) ∧ h1[S + 1]? = some (aI 8 tg1) ∧ h1[S + 2]? = some (aI 12 (nA po1)) ∧ h1[S + 3]? = some (aI 64 lf1) ∧ h1[S + 4]? = some (aI 64 be1) ∧ h1[S + 5]? = some (aI 8 le1) ∧ h1[S + 6]? = some (aI 8 re1) ∧ h1[S + 7]? = some (aI 8 gg1) ∧ h1[S + 8]? = some (aI 2048 bs1) ∧ h1[S + 9]? = some (aI 8 to1) ∧ rng S (S + 9) h h1 ∧ (∀ j, j < 12 → po1 j < 8) ∧ sz1 ≤ 8 ∧ SHok st so x y tr n sz1 tt1 su1 to1 ∧ r = (if 0 ≤ k.toInt ∧ k.toInt < (sz1 : Int) then to1 (tn k) else -9)) := by
  refine cm_ofQ rfl (Nat.le_of_ble_eq_true rfl) [(0, .ref (G.1 + 0)), (1, .int (nI st)), (2, .int k)] rfl (fun QF hQF => ?_)
  refine aw_iload_n 1 dX8_row_0 rfl rfl ?_
  refine aw_dS [.int (nI st)] [] lX8_208 sX8_shelfRefusal mX8_shelfRefusal dX8_row_1 (bX8_shelfRefusal (x := (nI st)) ) rfl (Nat.le_of_ble_eq_true rfl) (by decide) (by decide) rfl ?_
  refine aw_istore_n [(3, .int (shR (nI st))), (0, .ref (G.1 + 0)), (1, .int (nI st)), (2, .int k)] dX8_row_4 rfl (by decide) rfl ?_
  refine aw_iload_n 0 dX8_row_5 rfl rfl ?_
  refine aw_if_eq 15 dX8_row_6 (by decide) (fun c6 => ?_) (fun c6 => absurd (hz) c6)
  refine aw_aload_n 1 dX8_row_15 rfl rfl ?_
  refine aw_iload_n 2 dX8_row_16 rfl rfl ?_
  refine aw_eV [.int (nI st)] [] lX8_211 vX8_bestRow mX8_bestRow dX8_row_17 (bR (jv := jv) (S := S) (sz := sz) (b0 := b0) (y0 := y0) (tt := tt) (su := su) (po := po) (tg := tg) (lf := lf) (be := be) (le := le) (re := re) (gg := gg) (bs := bs) (to := to) (so := so) (x := x) (y := y) (tr := tr) (n := n) (st := st) h0 hS hS_1 hS_2 hS_3 hS_4 hS_5 hS_6 hS_7 hS_8 hS_9 h79 h80 h81 h82 h83 (by omega) (by omega) hpo (by omega) (by omega) (by omega) (by omega) (by omega) bso bx by_ hok) h0 rfl rfl rfl (Nat.le_of_ble_eq_true rfl) (by decide) (by decide) rfl (fun h5516 q5515 => ?_)
  obtain ⟨sz15503, tt15504, su15505, po15506, tg15507, lf15508, be15509, le15510, re15511, gg15512, bs15513, to15514, f5517, f5518, f5519, f5520, f5521, f5522, f5523, f5524, f5525, f5526, k5527, p5528, p5529, p5530⟩ := q5515
  have f5531 := rng_at k5527 (by omega) h0
  have f5532 := rng_at k5527 (by omega) h79
  have f5533 := rng_at k5527 (by omega) h80
  have f5534 := rng_at k5527 (by omega) h81
  have f5535 := rng_at k5527 (by omega) h82
  have f5536 := rng_at k5527 (by omega) h83
  refine aw_astore [(4, .ref (G.1 + S)), (3, .int (shR (nI st))), (0, .ref (G.1 + 0)), (1, .int (nI st)), (2, .int k)] dX8_row_20 (by decide) rfl ?_
  have hs8 := p5529
  refine aw_iload_n 4 dX8_row_22 rfl rfl ?_
  refine aw_if_lt 35 dX8_row_23 (by decide) (fun c23 => ?_) (fun c23 => ?_)
  · have d23 := (j_lt (a := k.toInt) (b := (0)) (rfl) (rfl)).mp c23
    refine aw_bipush (-9) dX8_row_35 (by decide) ?_
    refine aw_goto 47 dX8_row_37 (by decide) ?_
    subst hQF
    exact aw_iret rfl dX8_row_47 (by decide) (by decide) ⟨_, rfl, _, _, _, _, _, _, _, _, _, _, _, _, f5517, f5518, f5519, f5520, f5521, f5522, f5523, f5524, f5525, f5526, rng_tr (rng_rf S (S + 9) h) (rng_w k5527 (by omega) (by omega)), p5528, p5529, p5530, by rw [if_neg (by omega)]⟩
  · have d23 := mt (j_lt (a := k.toInt) (b := (0)) (rfl) (rfl)).mpr c23
    refine aw_iload_n 4 dX8_row_26 rfl rfl ?_
    refine aw_aload 0 dX8_row_27 rfl ?_
    refine aw_get fX8_218 dX8_row_29 f5517 rfl ?_
    refine aw_icmp_lt 40 dX8_row_32 (by decide) (fun c32 => ?_) (fun c32 => ?_)
    · have d32 := (j_lt (a := k.toInt) (b := ((sz15503 : Nat) : Int)) (rfl) (i_toNat (rfl) (by omega))).mp c32
      obtain ⟨k0, bb_k0, ee_k0⟩ := i_nat (x := k) (N := 8) (by omega) (by omega)
      subst ee_k0
      have tt_k0 : (nI k0).toInt = (k0 : Int) := nI_toInt (by omega)
      have nn_k0 : tn (nI k0) = k0 := tn_nI (by omega)
      refine aw_aload 0 dX8_row_40 rfl ?_
      refine aw_get fX8_221 dX8_row_42 f5517 rfl ?_
      refine aw_iload_n 4 dX8_row_45 rfl rfl ?_
      refine aw_iald k0 (rfl) (by omega) (by decide) dX8_row_46 f5526 ?_
      subst hQF
      exact aw_iret rfl dX8_row_47 (by decide) (by decide) ⟨_, rfl, _, _, _, _, _, _, _, _, _, _, _, _, f5517, f5518, f5519, f5520, f5521, f5522, f5523, f5524, f5525, f5526, rng_tr (rng_rf S (S + 9) h) (rng_w k5527 (by omega) (by omega)), p5528, p5529, p5530, by rw [if_pos (by omega), nn_k0]⟩
    · have d32 := mt (j_lt (a := k.toInt) (b := ((sz15503 : Nat) : Int)) (rfl) (i_toNat (rfl) (by omega))).mpr c32
      refine aw_bipush (-9) dX8_row_35 (by decide) ?_
      refine aw_goto 47 dX8_row_37 (by decide) ?_
      subst hQF
      exact aw_iret rfl dX8_row_47 (by decide) (by decide) ⟨_, rfl, _, _, _, _, _, _, _, _, _, _, _, _, f5517, f5518, f5519, f5520, f5521, f5522, f5523, f5524, f5525, f5526, rng_tr (rng_rf S (S + 9) h) (rng_w k5527 (by omega) (by omega)), p5528, p5529, p5530, by rw [if_neg (by omega)]⟩
set_option maxHeartbeats 4000000 in
theorem oX8_row_n {l : Launch} {G : xG} {h : List va_E} {jv : Value} {S : Nat} {so x y tr : Nat → Nat} {n st : Nat} {k : Int32} (h0 : h[0]? = some (oB 8 (lX G (jv) (.null)))) (h79 : h[79]? = some (oB 6 (lS G (nI n)))) (h80 : h[80]? = some (aI 40 (nA so))) (h81 : h[81]? = some (aI 40 (nA x))) (h82 : h[82]? = some (aI 40 (nA y))) (h83 : h[83]? = some (aI 40 (nA tr))) (hl : h.length = S) (bst : st < 4096) (hst : st ≠ 0) (hS1 : 125 ≤ S) (hn : n ≤ 40) (bso : ∀ j, j < 40 → so j < 4) (bx : ∀ j, j < 40 → x j < 12) (by_ : ∀ j, j < 40 → y j < 12) (hz : shR (nI st) = 0) : CU l G yX8_row cX8_row 5 (some .int) 6 10 2242 [.ref (G.1 + 0), .int (nI st), .int k] h (fun r h1 => ∃ sz1 : Nat, ∃ tt1 : Int32, ∃ su1 : Int32, ∃ po1 : Nat → Nat, ∃ tg1 : Nat → Int32, ∃ lf1 : Nat → Int32, ∃ be1 : Nat → Int32, ∃ le1 : Nat → Int32, ∃ re1 : Nat → Int32, ∃ gg1 : Nat → Int32, ∃ bs1 : Nat → Int32, ∃ to1 : Nat → Int32, h1[0]? = some (oB 8 (lX G (jv) (.ref (G.1 + S)))) ∧ h1[S]? = some (oB 7 (lSh G S (nI sz1) tt1 su1 (nI st) (nI n))) ∧ h1[S + 1]? = some (aI 8 tg1) ∧ h1[S + 2]? = some (aI 12 (nA po1)) ∧ h1[S + 3]? = some (aI 64 lf1) ∧ h1[S + 4]? = some (aI 64 be1) ∧ h1[S + 5]? = some (aI 8 le1) ∧ h1[S + 6]? = some (aI 8 re1) ∧ h1[S + 7]? = some (aI 8 gg1) ∧ h1[S + 8]? = some (aI 2048 bs1) ∧ h1[S + 9]? = some (aI 8 to1) ∧ grw 0 0 0 0 h h1 ∧ (∀ j, j < 12 → po1 j < 8) ∧ sz1 ≤ 8 ∧ SHok st so x y tr n sz1 tt1 su1 to1 ∧ h1.length = S + 10 ∧ r = (if 0 ≤ k.toInt ∧ k.toInt < (sz1 : Int) then to1 (tn k) else -9)) := by
  refine cm_ofQ rfl (Nat.le_of_ble_eq_true rfl) [(0, .ref (G.1 + 0)), (1, .int (nI st)), (2, .int k)] rfl (fun QF hQF => ?_)
  refine aw_iload_n 1 dX8_row_0 rfl rfl ?_
  refine aw_dS [.int (nI st)] [] lX8_208 sX8_shelfRefusal mX8_shelfRefusal dX8_row_1 (bX8_shelfRefusal (x := (nI st)) ) rfl (Nat.le_of_ble_eq_true rfl) (by decide) (by decide) rfl ?_
  refine aw_istore_n [(3, .int (shR (nI st))), (0, .ref (G.1 + 0)), (1, .int (nI st)), (2, .int k)] dX8_row_4 rfl (by decide) rfl ?_
  refine aw_iload_n 0 dX8_row_5 rfl rfl ?_
  refine aw_if_eq 15 dX8_row_6 (by decide) (fun c6 => ?_) (fun c6 => absurd (hz) c6)
  refine aw_aload_n 1 dX8_row_15 rfl rfl ?_
  refine aw_iload_n 2 dX8_row_16 rfl rfl ?_
  refine aw_eV [.int (nI st)] [] lX8_211 vX8_bestRow mX8_bestRow dX8_row_17 (bR_n (jv := jv) (so := so) (x := x) (y := y) (tr := tr) (n := n) (st := st) h0 h79 h80 h81 h82 h83 (by omega) (by omega) (by omega) (by omega) (by omega) bso bx by_) h0 rfl rfl rfl (Nat.le_of_ble_eq_true rfl) (by decide) (by decide) rfl (fun h5550 q5549 => ?_)
  obtain ⟨sz15537, tt15538, su15539, po15540, tg15541, lf15542, be15543, le15544, re15545, gg15546, bs15547, to15548, f5551, f5552, f5553, f5554, f5555, f5556, f5557, f5558, f5559, f5560, f5561, k5562, p5563, p5564, p5565, p5566⟩ := q5549
  have f5567 := grw_at k5562 (by decide) h79
  have f5568 := grw_at k5562 (by decide) h80
  have f5569 := grw_at k5562 (by decide) h81
  have f5570 := grw_at k5562 (by decide) h82
  have f5571 := grw_at k5562 (by decide) h83
  refine aw_astore [(4, .ref (G.1 + S)), (3, .int (shR (nI st))), (0, .ref (G.1 + 0)), (1, .int (nI st)), (2, .int k)] dX8_row_20 (by decide) rfl ?_
  have hs8 := p5564
  refine aw_iload_n 4 dX8_row_22 rfl rfl ?_
  refine aw_if_lt 35 dX8_row_23 (by decide) (fun c23 => ?_) (fun c23 => ?_)
  · have d23 := (j_lt (a := k.toInt) (b := (0)) (rfl) (rfl)).mp c23
    refine aw_bipush (-9) dX8_row_35 (by decide) ?_
    refine aw_goto 47 dX8_row_37 (by decide) ?_
    subst hQF
    exact aw_iret rfl dX8_row_47 (by decide) (by decide) ⟨_, rfl, _, _, _, _, _, _, _, _, _, _, _, _, f5551, f5552, f5553, f5554, f5555, f5556, f5557, f5558, f5559, f5560, f5561, grw_gg (grw_rf 0 0 0 0 h) k5562 (fun j q1 q2 => by omega), p5563, p5564, p5565, p5566, by rw [if_neg (by omega)]⟩
  · have d23 := mt (j_lt (a := k.toInt) (b := (0)) (rfl) (rfl)).mpr c23
    refine aw_iload_n 4 dX8_row_26 rfl rfl ?_
    refine aw_aload 0 dX8_row_27 rfl ?_
    refine aw_get fX8_218 dX8_row_29 f5552 rfl ?_
    refine aw_icmp_lt 40 dX8_row_32 (by decide) (fun c32 => ?_) (fun c32 => ?_)
    · have d32 := (j_lt (a := k.toInt) (b := ((sz15537 : Nat) : Int)) (rfl) (i_toNat (rfl) (by omega))).mp c32
      obtain ⟨k0, bb_k0, ee_k0⟩ := i_nat (x := k) (N := 8) (by omega) (by omega)
      subst ee_k0
      have tt_k0 : (nI k0).toInt = (k0 : Int) := nI_toInt (by omega)
      have nn_k0 : tn (nI k0) = k0 := tn_nI (by omega)
      refine aw_aload 0 dX8_row_40 rfl ?_
      refine aw_get fX8_221 dX8_row_42 f5552 rfl ?_
      refine aw_iload_n 4 dX8_row_45 rfl rfl ?_
      refine aw_iald k0 (rfl) (by omega) (by decide) dX8_row_46 f5561 ?_
      subst hQF
      exact aw_iret rfl dX8_row_47 (by decide) (by decide) ⟨_, rfl, _, _, _, _, _, _, _, _, _, _, _, _, f5551, f5552, f5553, f5554, f5555, f5556, f5557, f5558, f5559, f5560, f5561, grw_gg (grw_rf 0 0 0 0 h) k5562 (fun j q1 q2 => by omega), p5563, p5564, p5565, p5566, by rw [if_pos (by omega), nn_k0]⟩
    · have d32 := mt (j_lt (a := k.toInt) (b := ((sz15537 : Nat) : Int)) (rfl) (i_toNat (rfl) (by omega))).mpr c32
      refine aw_bipush (-9) dX8_row_35 (by decide) ?_
      refine aw_goto 47 dX8_row_37 (by decide) ?_
      subst hQF
      exact aw_iret rfl dX8_row_47 (by decide) (by decide) ⟨_, rfl, _, _, _, _, _, _, _, _, _, _, _, _, f5551, f5552, f5553, f5554, f5555, f5556, f5557, f5558, f5559, f5560, f5561, grw_gg (grw_rf 0 0 0 0 h) k5562 (fun j q1 q2 => by omega), p5563, p5564, p5565, p5566, by rw [if_neg (by omega)]⟩
set_option maxHeartbeats 4000000 in
theorem oX8_quarrel_r {l : Launch} {G : xG} {h : List va_E} {jv bv : Value} {rf : Nat → Int32} {w : Int32} (h0 : h[0]? = some (oB 8 (lX G (jv) (bv)))) (h87 : h[87]? = some (aI 7 rf)) (hr : ¬ shR w = 0) : CE l G yX8_quarrel cX8_quarrel 4 (some .int) 3 0 0 [.ref (G.1 + 0), .int w] h (some (.int (shR w))) (fun h1 => ∃ rf1 : Nat → Int32, h1[87]? = some (aI 7 rf1) ∧ rng 87 87 h h1) := by
  refine cm_ofQ rfl (Nat.le_of_ble_eq_true rfl) [(0, .ref (G.1 + 0)), (1, .int w)] rfl (fun QF hQF => ?_)
  refine aw_iload_n 1 dX8_quarrel_0 rfl rfl ?_
  refine aw_dS [.int w] [] lX8_208 sX8_shelfRefusal mX8_shelfRefusal dX8_quarrel_1 (bX8_shelfRefusal (x := w) ) rfl (Nat.le_of_ble_eq_true rfl) (by decide) (by decide) rfl ?_
  refine aw_istore_n [(2, .int (shR w)), (0, .ref (G.1 + 0)), (1, .int w)] dX8_quarrel_4 rfl (by decide) rfl ?_
  refine aw_iload_n 0 dX8_quarrel_5 rfl rfl ?_
  refine aw_if_eq 15 dX8_quarrel_6 (by decide) (fun c6 => absurd c6 (hr)) (fun c6 => ?_)
  have c6_ := hr
  refine aw_aload_n 1 dX8_quarrel_9 rfl rfl ?_
  refine aw_iload_n 0 dX8_quarrel_10 rfl rfl ?_
  obtain ⟨q5572, bq5572, eq5572⟩ := Or.resolve_left (shR_q w) (by assumption)
  refine aw_eV [.int (shR w)] [] lX8_70 vX8_refuse mX8_refuse dX8_quarrel_11 (bX8_refuse (jv := jv) (bv := bv) (rf := rf) (x := (shR w)) (q := q5572) h0 h87 bq5572 eq5572) h0 rfl rfl rfl (Nat.le_of_ble_eq_true rfl) (by decide) (by decide) rfl (fun h5575 q5574 => ?_)
  obtain ⟨rf15573, f5576, k5577⟩ := q5574
  have f5578 := rng_at k5577 (by decide) h0
  subst hQF
  exact aw_iret rfl dX8_quarrel_14 (by decide) (by decide) ⟨rfl, _, f5576, rng_tr (rng_rf 87 87 h) (rng_w k5577 (by decide) (by decide))⟩
set_option maxHeartbeats 4000000 in
theorem oX8_quarrel_o {l : Launch} {G : xG} {h : List va_E} {jv : Value} {S sz b0 y0 : Nat} {tt su : Int32} {po : Nat → Nat} {tg lf be le re gg bs to : Nat → Int32} {so x y tr : Nat → Nat} {n st : Nat} (h0 : h[0]? = some (oB 8 (lX G (jv) (.ref (G.1 + S))))) (hS : h[S]? = some (oB 7 (lSh G S (nI sz) tt su (nI b0) (nI y0)))) (hS_1 : h[S + 1]? = some (aI 8 tg)) (hS_2 : h[S + 2]? = some (aI 12 (nA po))) (hS_3 : h[S + 3]? = some (aI 64 lf)) (hS_4 : h[S + 4]? = some (aI 64 be)) (hS_5 : h[S + 5]? = some (aI 8 le)) (hS_6 : h[S + 6]? = some (aI 8 re)) (hS_7 : h[S + 7]? = some (aI 8 gg)) (hS_8 : h[S + 8]? = some (aI 2048 bs)) (hS_9 : h[S + 9]? = some (aI 8 to)) (h79 : h[79]? = some (oB 6 (lS G (nI n)))) (h80 : h[80]? = some (aI 40 (nA so))) (h81 : h[81]? = some (aI 40 (nA x))) (h82 : h[82]? = some (aI 40 (nA y))) (h83 : h[83]? = some (aI 40 (nA tr))) (bst : st < 4096) (hst : st ≠ 0) (hpo : ∀ j, j < 12 → po j < 8) (bb0 : b0 < 4096) (by0 : y0 ≤ 40) (hS1 : 125 ≤ S) (hsz : sz ≤ 8) (hn : n ≤ 40) (bso : ∀ j, j < 40 → so j < 4) (bx : ∀ j, j < 40 → x j < 12) (by_ : ∀ j, j < 40 → y j < 12) (hok : b0 = st → y0 = n → SHok st so x y tr n sz tt su to) (hz : shR (nI st) = 0) : CU l G yX8_quarrel cX8_quarrel 4 (some .int) 6 0 0 [.ref (G.1 + 0), .int (nI st)] h (fun r h1 => ∃ sz1 : Nat, ∃ tt1 : Int32, ∃ su1 : Int32, ∃ po1 : Nat → Nat, ∃ tg1 : Nat → Int32, ∃ lf1 : Nat → Int32, ∃ be1 : Nat → Int32, ∃ le1 : Nat → Int32, ∃ re1 : Nat → Int32, ∃ gg1 : Nat → Int32, ∃ bs1 : Nat → Int32, ∃ to1 : Nat → Int32, h1[S]? = some (oB 7 (lSh G S (nI sz1) tt1 su1 (nI st) (nI n))) ∧ h1[S + 1]? = some (aI 8 tg1) ∧ h1[S + 2]? = some (aI 12 (nA po1)) ∧ h1[S + 3]? = some (aI 64 lf1) ∧ h1[S + 4]? = some (aI 64 be1) ∧ h1[S + 5]? = some (aI 8 le1) ∧ h1[S + 6]? = some (aI 8 re1) ∧ h1[S + 7]? = some (aI 8 gg1) ∧ h1[S + 8]? = some (aI 2048 bs1) ∧ h1[S + 9]? = some (aI 8 to1) ∧ rng S (S + 9) h h1 ∧ (∀ j, j < 12 → po1 j < 8) ∧ sz1 ≤ 8 ∧ SHok st so x y tr n sz1 tt1 su1 to1 ∧ r = tt1 - su1) := by
  refine cm_ofQ rfl (Nat.le_of_ble_eq_true rfl) [(0, .ref (G.1 + 0)), (1, .int (nI st))] rfl (fun QF hQF => ?_)
  refine aw_iload_n 1 dX8_quarrel_0 rfl rfl ?_
  refine aw_dS [.int (nI st)] [] lX8_208 sX8_shelfRefusal mX8_shelfRefusal dX8_quarrel_1 (bX8_shelfRefusal (x := (nI st)) ) rfl (Nat.le_of_ble_eq_true rfl) (by decide) (by decide) rfl ?_
  refine aw_istore_n [(2, .int (shR (nI st))), (0, .ref (G.1 + 0)), (1, .int (nI st))] dX8_quarrel_4 rfl (by decide) rfl ?_
  refine aw_iload_n 0 dX8_quarrel_5 rfl rfl ?_
  refine aw_if_eq 15 dX8_quarrel_6 (by decide) (fun c6 => ?_) (fun c6 => absurd (hz) c6)
  refine aw_aload_n 1 dX8_quarrel_15 rfl rfl ?_
  refine aw_iload_n 2 dX8_quarrel_16 rfl rfl ?_
  refine aw_eV [.int (nI st)] [] lX8_211 vX8_bestRow mX8_bestRow dX8_quarrel_17 (bR (jv := jv) (S := S) (sz := sz) (b0 := b0) (y0 := y0) (tt := tt) (su := su) (po := po) (tg := tg) (lf := lf) (be := be) (le := le) (re := re) (gg := gg) (bs := bs) (to := to) (so := so) (x := x) (y := y) (tr := tr) (n := n) (st := st) h0 hS hS_1 hS_2 hS_3 hS_4 hS_5 hS_6 hS_7 hS_8 hS_9 h79 h80 h81 h82 h83 (by omega) (by omega) hpo (by omega) (by omega) (by omega) (by omega) (by omega) bso bx by_ hok) h0 rfl rfl rfl (Nat.le_of_ble_eq_true rfl) (by decide) (by decide) rfl (fun h5592 q5591 => ?_)
  obtain ⟨sz15579, tt15580, su15581, po15582, tg15583, lf15584, be15585, le15586, re15587, gg15588, bs15589, to15590, f5593, f5594, f5595, f5596, f5597, f5598, f5599, f5600, f5601, f5602, k5603, p5604, p5605, p5606⟩ := q5591
  have f5607 := rng_at k5603 (by omega) h0
  have f5608 := rng_at k5603 (by omega) h79
  have f5609 := rng_at k5603 (by omega) h80
  have f5610 := rng_at k5603 (by omega) h81
  have f5611 := rng_at k5603 (by omega) h82
  have f5612 := rng_at k5603 (by omega) h83
  refine aw_astore_n [(3, .ref (G.1 + S)), (2, .int (shR (nI st))), (0, .ref (G.1 + 0)), (1, .int (nI st))] dX8_quarrel_20 rfl (by decide) rfl ?_
  refine aw_aload_n 0 dX8_quarrel_21 rfl rfl ?_
  refine aw_get fX8_224 dX8_quarrel_22 f5593 rfl ?_
  refine aw_aload_n 0 dX8_quarrel_25 rfl rfl ?_
  refine aw_get fX8_215 dX8_quarrel_26 f5593 rfl ?_
  refine aw_isub dX8_quarrel_29 ?_
  subst hQF
  exact aw_iret rfl dX8_quarrel_30 (by decide) (by decide) ⟨_, rfl, _, _, _, _, _, _, _, _, _, _, _, _, f5593, f5594, f5595, f5596, f5597, f5598, f5599, f5600, f5601, f5602, rng_tr (rng_rf S (S + 9) h) (rng_w k5603 (by omega) (by omega)), p5604, p5605, p5606, rfl⟩
set_option maxHeartbeats 4000000 in
theorem oX8_quarrel_n {l : Launch} {G : xG} {h : List va_E} {jv : Value} {S : Nat} {so x y tr : Nat → Nat} {n st : Nat} (h0 : h[0]? = some (oB 8 (lX G (jv) (.null)))) (h79 : h[79]? = some (oB 6 (lS G (nI n)))) (h80 : h[80]? = some (aI 40 (nA so))) (h81 : h[81]? = some (aI 40 (nA x))) (h82 : h[82]? = some (aI 40 (nA y))) (h83 : h[83]? = some (aI 40 (nA tr))) (hl : h.length = S) (bst : st < 4096) (hst : st ≠ 0) (hS1 : 125 ≤ S) (hn : n ≤ 40) (bso : ∀ j, j < 40 → so j < 4) (bx : ∀ j, j < 40 → x j < 12) (by_ : ∀ j, j < 40 → y j < 12) (hz : shR (nI st) = 0) : CU l G yX8_quarrel cX8_quarrel 4 (some .int) 6 10 2242 [.ref (G.1 + 0), .int (nI st)] h (fun r h1 => ∃ sz1 : Nat, ∃ tt1 : Int32, ∃ su1 : Int32, ∃ po1 : Nat → Nat, ∃ tg1 : Nat → Int32, ∃ lf1 : Nat → Int32, ∃ be1 : Nat → Int32, ∃ le1 : Nat → Int32, ∃ re1 : Nat → Int32, ∃ gg1 : Nat → Int32, ∃ bs1 : Nat → Int32, ∃ to1 : Nat → Int32, h1[0]? = some (oB 8 (lX G (jv) (.ref (G.1 + S)))) ∧ h1[S]? = some (oB 7 (lSh G S (nI sz1) tt1 su1 (nI st) (nI n))) ∧ h1[S + 1]? = some (aI 8 tg1) ∧ h1[S + 2]? = some (aI 12 (nA po1)) ∧ h1[S + 3]? = some (aI 64 lf1) ∧ h1[S + 4]? = some (aI 64 be1) ∧ h1[S + 5]? = some (aI 8 le1) ∧ h1[S + 6]? = some (aI 8 re1) ∧ h1[S + 7]? = some (aI 8 gg1) ∧ h1[S + 8]? = some (aI 2048 bs1) ∧ h1[S + 9]? = some (aI 8 to1) ∧ grw 0 0 0 0 h h1 ∧ (∀ j, j < 12 → po1 j < 8) ∧ sz1 ≤ 8 ∧ SHok st so x y tr n sz1 tt1 su1 to1 ∧ h1.length = S + 10 ∧ r = tt1 - su1) := by
  refine cm_ofQ rfl (Nat.le_of_ble_eq_true rfl) [(0, .ref (G.1 + 0)), (1, .int (nI st))] rfl (fun QF hQF => ?_)
  refine aw_iload_n 1 dX8_quarrel_0 rfl rfl ?_
  refine aw_dS [.int (nI st)] [] lX8_208 sX8_shelfRefusal mX8_shelfRefusal dX8_quarrel_1 (bX8_shelfRefusal (x := (nI st)) ) rfl (Nat.le_of_ble_eq_true rfl) (by decide) (by decide) rfl ?_
  refine aw_istore_n [(2, .int (shR (nI st))), (0, .ref (G.1 + 0)), (1, .int (nI st))] dX8_quarrel_4 rfl (by decide) rfl ?_
  refine aw_iload_n 0 dX8_quarrel_5 rfl rfl ?_
  refine aw_if_eq 15 dX8_quarrel_6 (by decide) (fun c6 => ?_) (fun c6 => absurd (hz) c6)
  refine aw_aload_n 1 dX8_quarrel_15 rfl rfl ?_
  refine aw_iload_n 2 dX8_quarrel_16 rfl rfl ?_
  refine aw_eV [.int (nI st)] [] lX8_211 vX8_bestRow mX8_bestRow dX8_quarrel_17 (bR_n (jv := jv) (so := so) (x := x) (y := y) (tr := tr) (n := n) (st := st) h0 h79 h80 h81 h82 h83 (by omega) (by omega) (by omega) (by omega) (by omega) bso bx by_) h0 rfl rfl rfl (Nat.le_of_ble_eq_true rfl) (by decide) (by decide) rfl (fun h5626 q5625 => ?_)
  obtain ⟨sz15613, tt15614, su15615, po15616, tg15617, lf15618, be15619, le15620, re15621, gg15622, bs15623, to15624, f5627, f5628, f5629, f5630, f5631, f5632, f5633, f5634, f5635, f5636, f5637, k5638, p5639, p5640, p5641, p5642⟩ := q5625
  have f5643 := grw_at k5638 (by decide) h79
  have f5644 := grw_at k5638 (by decide) h80
  have f5645 := grw_at k5638 (by decide) h81
  have f5646 := grw_at k5638 (by decide) h82
  have f5647 := grw_at k5638 (by decide) h83
  refine aw_astore_n [(3, .ref (G.1 + S)), (2, .int (shR (nI st))), (0, .ref (G.1 + 0)), (1, .int (nI st))] dX8_quarrel_20 rfl (by decide) rfl ?_
  refine aw_aload_n 0 dX8_quarrel_21 rfl rfl ?_
  refine aw_get fX8_224 dX8_quarrel_22 f5628 rfl ?_
  refine aw_aload_n 0 dX8_quarrel_25 rfl rfl ?_
  refine aw_get fX8_215 dX8_quarrel_26 f5628 rfl ?_
  refine aw_isub dX8_quarrel_29 ?_
  subst hQF
  exact aw_iret rfl dX8_quarrel_30 (by decide) (by decide) ⟨_, rfl, _, _, _, _, _, _, _, _, _, _, _, _, f5627, f5628, f5629, f5630, f5631, f5632, f5633, f5634, f5635, f5636, f5637, grw_gg (grw_rf 0 0 0 0 h) k5638 (fun j q1 q2 => by omega), p5639, p5640, p5641, p5642, rfl⟩
