set_option maxHeartbeats 4000000 in
theorem oX8_joined_J {l : Launch} {G : xG} {h : List va_E} {bv : Value} {J u v ro co : Nat} {rc : Nat → Nat} {lk bs wy nw : Nat → Int32} {P pv : Nat} {su wa : Int32} {pt ce : Nat → Int32} {m se ye fi : Nat → Nat} {W Sn Z Ro Co : Nat → Int32} {Ba : Nat → Int64} {nb sp fa ve : Nat} {lx : Nat → Nat → Nat} {a b : Nat} {i : Nat} (h0 : h[0]? = some (oB 8 (lX G (.ref (G.1 + J)) (bv)))) (h1 : h[1]? = some (oB 1 (lC G (nI nb) (nI sp) (nI fa) (nI ve)))) (h2 : h[2]? = some (aI 20 (nA m))) (h3 : h[3]? = some (aI 20 (nA se))) (h4 : h[4]? = some (aI 4 (nA ye))) (h5 : h[5]? = some (aI 4 (nA fi))) (h6 : h[6]? = some (aI 40 W)) (h7 : h[7]? = some (aI 40 Sn)) (h8 : h[8]? = some (aI 40 Z)) (h9 : h[9]? = some (aI 40 Ro)) (h10 : h[10]? = some (aI 40 Co)) (h11 : h[11]? = some (aL 40 Ba)) (h12 : h[12]? = some (aR 16 (xjo G.1 16))) (hJ : h[J]? = some (oB 3 (lJ G J (.ref (G.1 + u)) (.ref (G.1 + v)) (nI ro) (nI co)))) (hJ_1 : h[J + 1]? = some (aI 100 lk)) (hJ_2 : h[J + 2]? = some (aI 11 (nA rc))) (hJ_3 : h[J + 3]? = some (aI 11264 bs)) (hu : h[u]? = some (aI 1024 wy)) (hv : h[v]? = some (aI 1024 nw)) (hP : h[P]? = some (oB 4 (lG G P su wa (nI pv)))) (hP_1 : h[P + 1]? = some (aI 10 pt)) (hP_2 : h[P + 2]? = some (aZ 10 ce)) (ba : a < 4) (bb : b < 4) (hab : a ≠ b) (bi : i < fi a) (qu : J + 4 ≤ u ∧ u ≤ J + 5) (qv : J + 4 ≤ v ∧ v ≤ J + 5) (quv : (u ≠ v ∧ wZ wy nw)) (hrc : ∀ j, j < 11 → rc j < 1024) (qP : P + 2 < J) (hm : ∀ j, j < 20 → m j ≤ j) (hse : ∀ j, j < 20 → se j < 20) (hfi : ∀ j, j < 4 → fi j < 11) (hye : ∀ j, j < 4 → ye j < 1901) (qJ : 125 ≤ J) (qP1 : 12 < P) (hpt : pB pt) (eP : P = 13 + 3 * (a * 4 + b)) (hlx : ∀ i, i < fi a → ∀ k, k < fi b → likeC ye Sn Z Ro Co Ba sp fa (a * 10 + i) (b * 10 + k) = nI (lx i k)) (hlx3 : ∀ i k, lx i k ≤ 300) (bpv : pv ≤ 600) (bve : ve ≤ 600) (hJK : pv = ve → jK lx (fi a) (fi b) su wa pt ce) : CU l G yX8_joined cX8_joined 4 (some .int) 6 0 0 [.ref (G.1 + 0), .int (nI a), .int (nI i), .int (nI b)] h (fun r h1 => ∃ u1 : Nat, ∃ v1 : Nat, ∃ ro1 : Nat, ∃ co1 : Nat, ∃ rc1 : Nat → Nat, ∃ lk1 : Nat → Int32, ∃ bs1 : Nat → Int32, ∃ wy1 : Nat → Int32, ∃ nw1 : Nat → Int32, ∃ su1 : Int32, ∃ wa1 : Int32, ∃ pt1 : Nat → Int32, ∃ ce1 : Nat → Int32, h1[J]? = some (oB 3 (lJ G J (.ref (G.1 + u1)) (.ref (G.1 + v1)) (nI ro1) (nI co1))) ∧ h1[J + 1]? = some (aI 100 lk1) ∧ h1[J + 2]? = some (aI 11 (nA rc1)) ∧ h1[J + 3]? = some (aI 11264 bs1) ∧ h1[u1]? = some (aI 1024 wy1) ∧ h1[v1]? = some (aI 1024 nw1) ∧ h1[P]? = some (oB 4 (lG G P su1 wa1 (nI ve))) ∧ h1[P + 1]? = some (aI 10 pt1) ∧ h1[P + 2]? = some (aZ 10 ce1) ∧ rg2 P (P + 2) J (J + 5) h h1 ∧ (J + 4 ≤ u1 ∧ u1 ≤ J + 5) ∧ (J + 4 ≤ v1 ∧ v1 ≤ J + 5) ∧ (u1 ≠ v1 ∧ wZ wy1 nw1) ∧ (∀ j, j < 11 → rc1 j < 1024) ∧ pB pt1 ∧ jK lx (fi a) (fi b) su1 wa1 pt1 ce1 ∧ r = jP lx (fi b) (fi a) i) := by
  refine cm_ofQ rfl (Nat.le_of_ble_eq_true rfl) [(0, .ref (G.1 + 0)), (1, .int (nI a)), (2, .int (nI i)), (3, .int (nI b))] rfl (fun QF hQF => ?_)
  have tt_a : (nI a).toInt = (a : Int) := nI_toInt (by omega)
  have nn_a : tn (nI a) = a := tn_nI (by omega)
  have tt_b : (nI b).toInt = (b : Int) := nI_toInt (by omega)
  have nn_b : tn (nI b) = b := tn_nI (by omega)
  have hf_a : fi (tn (nI a)) = fi a := by rw [nn_a]
  have hg_a := hfi a (by omega)
  have hf_b : fi (tn (nI b)) = fi b := by rw [nn_b]
  have hg_b := hfi b (by omega)
  have tt_i : (nI i).toInt = (i : Int) := nI_toInt (by omega)
  have nn_i : tn (nI i) = i := tn_nI (by omega)
  refine aw_iload_n 1 dX8_joined_0 rfl rfl ?_
  refine aw_iload_n 3 dX8_joined_1 rfl rfl ?_
  refine aw_dS [.int (nI a), .int (nI b)] [] lX8_104 sX8_areTwo mX8_areTwo dX8_joined_2 (bX8_areTwo (a := (nI a)) (b := (nI b)) ) rfl (Nat.le_of_ble_eq_true rfl) (by decide) (by decide) rfl ?_
  refine aw_if_eq 17 dX8_joined_5 (by decide) (fun c5 => ?_) (fun c5 => ?_)
  · have t5 := ite_0 c5
    exfalso
    omega
  · have t5 := ite_1 c5
    refine aw_aload_n 0 dX8_joined_8 rfl rfl ?_
    refine aw_iload_n 1 dX8_joined_9 rfl rfl ?_
    refine aw_iload_n 2 dX8_joined_10 rfl rfl ?_
    refine aw_dV [.int (nI a), .int (nI i)] [] lX8_107 vX8_isEntry mX8_isEntry dX8_joined_11 (bX8_isEntry (jv := .ref (G.1 + J)) (bv := bv) (fi := fi) (nb := nb) (sp := sp) (fa := fa) (ve := ve) (c := (nI a)) (i := (nI i)) h0 h1 h5 hfi) h0 rfl rfl rfl (Nat.le_of_ble_eq_true rfl) (by decide) (by decide) rfl ?_
    refine aw_if_ne 23 dX8_joined_14 (by decide) (fun c14 => ?_) (fun c14 => ?_)
    · have t14 := ite_1 c14
      refine aw_aload_n 0 dX8_joined_23 rfl rfl ?_
      refine aw_iload_n 1 dX8_joined_24 rfl rfl ?_
      refine aw_iload_n 3 dX8_joined_25 rfl rfl ?_
      refine aw_eV [.int (nI a), .int (nI b)] [] lX8_124 vX8_bestJoining mX8_bestJoining dX8_joined_26 (bJ (bv := bv) (J := J) (u := u) (v := v) (ro := ro) (co := co) (rc := rc) (lk := lk) (bs := bs) (wy := wy) (nw := nw) (P := P) (pv := pv) (su := su) (wa := wa) (pt := pt) (ce := ce) (m := m) (se := se) (ye := ye) (fi := fi) (W := W) (Sn := Sn) (Z := Z) (Ro := Ro) (Co := Co) (Ba := Ba) (nb := nb) (sp := sp) (fa := fa) (ve := ve) (a := a) (b := b) h0 h1 h2 h3 h4 h5 h6 h7 h8 h9 h10 h11 h12 hJ hJ_1 hJ_2 hJ_3 hu hv hP hP_1 hP_2 (by omega) (by omega) (by omega) hrc (by omega) hm hse hfi hye (by omega) (by omega) (by omega) (by omega) (by omega) (by omega) hlx hlx3 (by omega) (by omega) hJK) h0 rfl rfl rfl (Nat.le_of_ble_eq_true rfl) (by decide) (by decide) rfl (fun h4432 q4431 => ?_)
      obtain ⟨u14418, v14419, ro14420, co14421, rc14422, lk14423, bs14424, wy14425, nw14426, su14427, wa14428, pt14429, ce14430, f4433, f4434, f4435, f4436, f4437, f4438, f4439, f4440, f4441, k4442, p4443, p4444, p4445, p4446, p4447, p4448⟩ := q4431
      have f4449 := rg2_at k4442 (by omega) h0
      have f4450 := rg2_at k4442 (by omega) h1
      have f4451 := rg2_at k4442 (by omega) h2
      have f4452 := rg2_at k4442 (by omega) h3
      have f4453 := rg2_at k4442 (by omega) h4
      have f4454 := rg2_at k4442 (by omega) h5
      have f4455 := rg2_at k4442 (by omega) h6
      have f4456 := rg2_at k4442 (by omega) h7
      have f4457 := rg2_at k4442 (by omega) h8
      have f4458 := rg2_at k4442 (by omega) h9
      have f4459 := rg2_at k4442 (by omega) h10
      have f4460 := rg2_at k4442 (by omega) h11
      have f4461 := rg2_at k4442 (by omega) h12
      refine aw_get fX8_131 dX8_joined_29 f4439 rfl ?_
      refine aw_iload_n 2 dX8_joined_32 rfl rfl ?_
      refine aw_iald i (rfl) (by omega) (by decide) dX8_joined_33 f4440 ?_
      subst hQF
      exact aw_iret rfl dX8_joined_34 (by decide) (by decide) ⟨_, rfl, _, _, _, _, _, _, _, _, _, _, _, _, _, f4433, f4434, f4435, f4436, f4437, f4438, f4439, f4440, f4441, rg2_tr (rg2_rf P (P + 2) J (J + 5) h) (rg2_w2 k4442 (by omega) (by omega)), p4443, p4444, p4445, p4446, p4447, p4448, p4448.2.1 i bi⟩
    · have t14 := ite_0 c14
      exfalso
      omega
set_option maxHeartbeats 4000000 in
theorem oX8_joined_n {l : Launch} {G : xG} {h : List va_E} {bv : Value} {J : Nat} {P pv : Nat} {su wa : Int32} {pt ce : Nat → Int32} {m se ye fi : Nat → Nat} {W Sn Z Ro Co : Nat → Int32} {Ba : Nat → Int64} {nb sp fa ve : Nat} {lx : Nat → Nat → Nat} {a b : Nat} {i : Nat} (h0 : h[0]? = some (oB 8 (lX G (.null) (bv)))) (h1 : h[1]? = some (oB 1 (lC G (nI nb) (nI sp) (nI fa) (nI ve)))) (h2 : h[2]? = some (aI 20 (nA m))) (h3 : h[3]? = some (aI 20 (nA se))) (h4 : h[4]? = some (aI 4 (nA ye))) (h5 : h[5]? = some (aI 4 (nA fi))) (h6 : h[6]? = some (aI 40 W)) (h7 : h[7]? = some (aI 40 Sn)) (h8 : h[8]? = some (aI 40 Z)) (h9 : h[9]? = some (aI 40 Ro)) (h10 : h[10]? = some (aI 40 Co)) (h11 : h[11]? = some (aL 40 Ba)) (h12 : h[12]? = some (aR 16 (xjo G.1 16))) (hP : h[P]? = some (oB 4 (lG G P su wa (nI pv)))) (hP_1 : h[P + 1]? = some (aI 10 pt)) (hP_2 : h[P + 2]? = some (aZ 10 ce)) (ba : a < 4) (bb : b < 4) (hab : a ≠ b) (bi : i < fi a) (hl : h.length = J) (hm : ∀ j, j < 20 → m j ≤ j) (hse : ∀ j, j < 20 → se j < 20) (hfi : ∀ j, j < 4 → fi j < 11) (hye : ∀ j, j < 4 → ye j < 1901) (qJ : 125 ≤ J) (qP : P + 2 < J) (qP1 : 12 < P) (hpt : pB pt) (eP : P = 13 + 3 * (a * 4 + b)) (hlx : ∀ i, i < fi a → ∀ k, k < fi b → likeC ye Sn Z Ro Co Ba sp fa (a * 10 + i) (b * 10 + k) = nI (lx i k)) (hlx3 : ∀ i k, lx i k ≤ 300) (bpv : pv ≤ 600) (bve : ve ≤ 600) (hvv : ¬ pv = ve) : CU l G yX8_joined cX8_joined 4 (some .int) 6 6 13430 [.ref (G.1 + 0), .int (nI a), .int (nI i), .int (nI b)] h (fun r h1 => ∃ u1 : Nat, ∃ v1 : Nat, ∃ ro1 : Nat, ∃ co1 : Nat, ∃ rc1 : Nat → Nat, ∃ lk1 : Nat → Int32, ∃ bs1 : Nat → Int32, ∃ wy1 : Nat → Int32, ∃ nw1 : Nat → Int32, ∃ su1 : Int32, ∃ wa1 : Int32, ∃ pt1 : Nat → Int32, ∃ ce1 : Nat → Int32, h1[0]? = some (oB 8 (lX G (.ref (G.1 + J)) (bv))) ∧ h1[J]? = some (oB 3 (lJ G J (.ref (G.1 + u1)) (.ref (G.1 + v1)) (nI ro1) (nI co1))) ∧ h1[J + 1]? = some (aI 100 lk1) ∧ h1[J + 2]? = some (aI 11 (nA rc1)) ∧ h1[J + 3]? = some (aI 11264 bs1) ∧ h1[u1]? = some (aI 1024 wy1) ∧ h1[v1]? = some (aI 1024 nw1) ∧ h1[P]? = some (oB 4 (lG G P su1 wa1 (nI ve))) ∧ h1[P + 1]? = some (aI 10 pt1) ∧ h1[P + 2]? = some (aZ 10 ce1) ∧ grw 0 0 P (P + 2) h h1 ∧ (J + 4 ≤ u1 ∧ u1 ≤ J + 5) ∧ (J + 4 ≤ v1 ∧ v1 ≤ J + 5) ∧ (u1 ≠ v1 ∧ wZ wy1 nw1) ∧ (∀ j, j < 11 → rc1 j < 1024) ∧ pB pt1 ∧ jK lx (fi a) (fi b) su1 wa1 pt1 ce1 ∧ h1.length = J + 6 ∧ r = jP lx (fi b) (fi a) i) := by
  refine cm_ofQ rfl (Nat.le_of_ble_eq_true rfl) [(0, .ref (G.1 + 0)), (1, .int (nI a)), (2, .int (nI i)), (3, .int (nI b))] rfl (fun QF hQF => ?_)
  have tt_a : (nI a).toInt = (a : Int) := nI_toInt (by omega)
  have nn_a : tn (nI a) = a := tn_nI (by omega)
  have tt_b : (nI b).toInt = (b : Int) := nI_toInt (by omega)
  have nn_b : tn (nI b) = b := tn_nI (by omega)
  have hf_a : fi (tn (nI a)) = fi a := by rw [nn_a]
  have hg_a := hfi a (by omega)
  have hf_b : fi (tn (nI b)) = fi b := by rw [nn_b]
  have hg_b := hfi b (by omega)
  have tt_i : (nI i).toInt = (i : Int) := nI_toInt (by omega)
  have nn_i : tn (nI i) = i := tn_nI (by omega)
  refine aw_iload_n 1 dX8_joined_0 rfl rfl ?_
  refine aw_iload_n 3 dX8_joined_1 rfl rfl ?_
  refine aw_dS [.int (nI a), .int (nI b)] [] lX8_104 sX8_areTwo mX8_areTwo dX8_joined_2 (bX8_areTwo (a := (nI a)) (b := (nI b)) ) rfl (Nat.le_of_ble_eq_true rfl) (by decide) (by decide) rfl ?_
  refine aw_if_eq 17 dX8_joined_5 (by decide) (fun c5 => ?_) (fun c5 => ?_)
  · have t5 := ite_0 c5
    exfalso
    omega
  · have t5 := ite_1 c5
    refine aw_aload_n 0 dX8_joined_8 rfl rfl ?_
    refine aw_iload_n 1 dX8_joined_9 rfl rfl ?_
    refine aw_iload_n 2 dX8_joined_10 rfl rfl ?_
    refine aw_dV [.int (nI a), .int (nI i)] [] lX8_107 vX8_isEntry mX8_isEntry dX8_joined_11 (bX8_isEntry (jv := .null) (bv := bv) (fi := fi) (nb := nb) (sp := sp) (fa := fa) (ve := ve) (c := (nI a)) (i := (nI i)) h0 h1 h5 hfi) h0 rfl rfl rfl (Nat.le_of_ble_eq_true rfl) (by decide) (by decide) rfl ?_
    refine aw_if_ne 23 dX8_joined_14 (by decide) (fun c14 => ?_) (fun c14 => ?_)
    · have t14 := ite_1 c14
      refine aw_aload_n 0 dX8_joined_23 rfl rfl ?_
      refine aw_iload_n 1 dX8_joined_24 rfl rfl ?_
      refine aw_iload_n 3 dX8_joined_25 rfl rfl ?_
      refine aw_eV [.int (nI a), .int (nI b)] [] lX8_124 vX8_bestJoining mX8_bestJoining dX8_joined_26 (bJ_n (bv := bv) (P := P) (pv := pv) (su := su) (wa := wa) (pt := pt) (ce := ce) (m := m) (se := se) (ye := ye) (fi := fi) (W := W) (Sn := Sn) (Z := Z) (Ro := Ro) (Co := Co) (Ba := Ba) (nb := nb) (sp := sp) (fa := fa) (ve := ve) (a := a) (b := b) h0 h1 h2 h3 h4 h5 h6 h7 h8 h9 h10 h11 h12 hP hP_1 hP_2 (by omega) hm hse hfi hye (by omega) (by omega) (by omega) (by omega) (by omega) (by omega) (by omega) hlx hlx3 (by omega) (by omega) (by omega)) h0 rfl rfl rfl (Nat.le_of_ble_eq_true rfl) (by decide) (by decide) rfl (fun h4476 q4475 => ?_)
      obtain ⟨u14462, v14463, ro14464, co14465, rc14466, lk14467, bs14468, wy14469, nw14470, su14471, wa14472, pt14473, ce14474, f4477, f4478, f4479, f4480, f4481, f4482, f4483, f4484, f4485, f4486, k4487, p4488, p4489, p4490, p4491, p4492, p4493, p4494⟩ := q4475
      have f4495 := grw_at k4487 (by omega) h1
      have f4496 := grw_at k4487 (by omega) h2
      have f4497 := grw_at k4487 (by omega) h3
      have f4498 := grw_at k4487 (by omega) h4
      have f4499 := grw_at k4487 (by omega) h5
      have f4500 := grw_at k4487 (by omega) h6
      have f4501 := grw_at k4487 (by omega) h7
      have f4502 := grw_at k4487 (by omega) h8
      have f4503 := grw_at k4487 (by omega) h9
      have f4504 := grw_at k4487 (by omega) h10
      have f4505 := grw_at k4487 (by omega) h11
      have f4506 := grw_at k4487 (by omega) h12
      refine aw_get fX8_131 dX8_joined_29 f4484 rfl ?_
      refine aw_iload_n 2 dX8_joined_32 rfl rfl ?_
      refine aw_iald i (rfl) (by omega) (by decide) dX8_joined_33 f4485 ?_
      subst hQF
      exact aw_iret rfl dX8_joined_34 (by decide) (by decide) ⟨_, rfl, _, _, _, _, _, _, _, _, _, _, _, _, _, f4477, f4478, f4479, f4480, f4481, f4482, f4483, f4484, f4485, f4486, grw_gg (grw_rf 0 0 P (P + 2) h) k4487 (fun j q1 q2 => by omega), p4488, p4489, p4490, p4491, p4492, p4493, p4494, p4493.2.1 i bi⟩
    · have t14 := ite_0 c14
      exfalso
      omega
