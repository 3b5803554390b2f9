theorem LX_chain {l : Launch} {G : xG} {h : List va_E} {m ye fi : Nat → Nat} {W Z Ro Co : Nat → Int32} {sp fa nb : Nat} {b1 b2 th1 ot1 dy1 so1 kn1 go1 : Nat → Nat} {n1 : Nat} {th2 ot2 dy2 so2 kn2 go2 : Nat → Nat} {n2 : Nat} {so3 xx3 yy3 tr3 : Nat → Nat} {n3 : Nat} {kd fo : Nat → Nat} {c0 : Nat} {oJ oS : Option Nat} {a i y w : Int32} (O : OKD m ye fi W Z Ro Co sp fa nb b1 b2 th1 ot1 dy1 so1 kn1 go1 n1 th2 ot2 dy2 so2 kn2 go2 n2 so3 xx3 yy3 tr3 n3 kd fo) (I : InvX G m ye fi W Z Ro Co sp fa nb b1 b2 th1 ot1 dy1 so1 kn1 go1 n1 th2 ot2 dy2 so2 kn2 go2 n2 so3 xx3 yy3 tr3 n3 kd fo c0 oJ oS h) (hc : c0 ≤ 512) : ∃ dd mc ms oJ1 oS1, dd ≤ 8 ∧ mc + 6 * bO oJ ≤ 6 * bO oJ1 + 10 ∧ ms + 13430 * bO oJ ≤ 13430 * bO oJ1 + 2242 ∧ CU l G yX8_chain cX8_chain 5 (some .int) dd mc ms [.ref (G.1 + 0), .int a, .int i, .int y, .int w] h (fun r h1 => InvX G m ye fi W Z Ro Co sp fa nb b1 b2 th1 ot1 dy1 so1 kn1 go1 n1 th2 ot2 dy2 so2 kn2 go2 n2 so3 xx3 yy3 tr3 n3 kd fo (c0 + 1) oJ1 oS1 h1 ∧ kp h h1 ∧ r = chA (lxF m ye W Z Ro Co sp fa nb b1 b2) fi a i y w) := by
  refine InvX_el I ?_
  intro ve se Sn Ba od1 wd1 od2 wd2 l0 o0 w0 z0 LE0 cn rf h0 h1 h2 h3 h4 h5 h6 h7 h8 h9 h10 h11 h12 h61 h62 h63 h64 h65 h66 h67 h68 h69 h70 h71 h72 h73 h74 h75 h76 h77 h78 h79 h80 h81 h82 h83 h84 h85 h86 h87 hr hS hBR hve hod1 hod2 hln hcJ hcS hdJ
  refine OKD_el O ?_
  intro hm hfi hye hsp hfd hZ hn1 bth1 bot1 bdy1 bso1 bkn1 bgo1 hn2 bth2 bot2 bdy2 bso2 bkn2 bgo2 hnb bb1 bb2 hyx hn3 bso3 bxx byy btr bkd bfo hsy hir
  have hse : ∀ j, j < 20 → se j < 20 := fun j hj => by rw [hr j hj]; exact rootlt j hj
  have bve : ve ≤ 600 := by omega
  have hlxA := hlx_C (Ro := Ro) (Co := Co) (sp := sp) hr hS hBR hye hfd hfi hZ
  by_cases hok : (((0 ≤ a.toInt ∧ a.toInt < 4) ∧ 0 ≤ i.toInt ∧ i.toInt < (fi (tn a) : Int)) ∧ wyF (tn a) y = true ∧ 0 ≤ w.toInt ∧ w.toInt ≤ 2)
  · have hg := hfi (tn a) (by unfold tn; omega)
    have hEW : ((0 ≤ a.toInt ∧ a.toInt < 4) ∧ 0 ≤ i.toInt ∧ i.toInt < (fi (tn a) : Int)) ∧ wyF (tn a) y = true := ⟨hok.1, hok.2.1⟩
    have hw2 := hok.2.2
    obtain ⟨a0, ba0, ea0⟩ := i_nat (x := a) (N := 4) (by omega) (by omega)
    subst ea0
    have ta0 : (nI a0).toInt = (a0 : Int) := nI_toInt (by omega)
    have na0 : tn (nI a0) = a0 := tn_nI (by omega)
    rw [na0] at hok hg
    obtain ⟨i0, bi0, ei0⟩ := i_nat (x := i) (N := 10) (by omega) (by omega)
    subst ei0
    have ti0 : (nI i0).toInt = (i0 : Int) := nI_toInt (by omega)
    have ni0 : tn (nI i0) = i0 := tn_nI (by omega)
    have hwy := hok.2.1
    have hw3 := wyF_o hwy
    obtain ⟨y0, by0, ey0⟩ := i_nat (x := y) (N := 1000) (by omega) (by omega)
    subst ey0
    have ty0 : (nI y0).toInt = (y0 : Int) := nI_toInt (by omega)
    have ny0 : tn (nI y0) = y0 := tn_nI (by omega)
    rw [ny0] at hw3
    have g1 := wy_dig ba0 by0 (by omega) hw3.2
    cases oJ with
    | none =>
      have hJz : iJs G jZ h := hcJ
      refine ⟨7, 6, 13430, some h.length, oS, by decide, by simp [bO], by simp [bO], CU.mono (oX8_chain_n (J := h.length) h0 h1 h2 h3 h4 h5 h6 h7 h8 h9 h10 h11 h12 hwy hok.2.2 rfl hm hse hfi hye ba0 (by omega) hln bve hve.1 hJz hlxA lxF_le g1 by0) (fun r hh q => ?_)⟩
      obtain ⟨e_u1, e_v1, e_ro1, e_co1, e_rc1, e_lk1, e_bs1, e_wy1, e_nw1, z0, z1, z2, z3, z4, z5, z6, fr, p0, p1, p2, p3, p4, p5, u⟩ := q
      exact ⟨InvX_mk z0 (grw_at fr (by omega) h1) (grw_at fr (by omega) h2) (grw_at fr (by omega) h3) (grw_at fr (by omega) h4) (grw_at fr (by omega) h5) (grw_at fr (by omega) h6) (grw_at fr (by omega) h7) (grw_at fr (by omega) h8) (grw_at fr (by omega) h9) (grw_at fr (by omega) h10) (grw_at fr (by omega) h11) (grw_at fr (by omega) h12) (grw_at fr (by omega) h61) (grw_at fr (by omega) h62) (grw_at fr (by omega) h63) (grw_at fr (by omega) h64) (grw_at fr (by omega) h65) (grw_at fr (by omega) h66) (grw_at fr (by omega) h67) (grw_at fr (by omega) h68) (grw_at fr (by omega) h69) (grw_at fr (by omega) h70) (grw_at fr (by omega) h71) (grw_at fr (by omega) h72) (grw_at fr (by omega) h73) (grw_at fr (by omega) h74) (grw_at fr (by omega) h75) (grw_at fr (by omega) h76) (grw_at fr (by omega) h77) (grw_at fr (by omega) h78) (grw_at fr (by omega) h79) (grw_at fr (by omega) h80) (grw_at fr (by omega) h81) (grw_at fr (by omega) h82) (grw_at fr (by omega) h83) (grw_at fr (by omega) h84) (grw_at fr (by omega) h85) (grw_at fr (by omega) h86) (grw_at fr (by omega) h87) hr hS hBR (⟨hve.1, by omega⟩) hod1 hod2 (by rw [p5]; omega) (⟨⟨hln, by rw [p5]; exact Nat.le_refl _, e_u1, e_v1, e_ro1, e_co1, e_rc1, e_lk1, e_bs1, e_wy1, e_nw1, z1, z2, z3, z4, z5, z6, p0, p1, p2, p3⟩, p4⟩) (cS_k2 hcS (by rw [p5]; omega) (fun S e q1 q2 j q3 q4 => fr.2 j (by omega) (by omega))) (dJ_n hcS), kp_grw fr hln (by decide) (by omega), by rw [chA_y hEW hw2, na0, ny0]; exact u⟩
    | some J =>
      obtain ⟨⟨q1, q2, u, v, ro, co, rc, lk, bs, wy, nw, k0, k1, k2, k3, k4, k5, q3, q4, q5, q6⟩, hJs⟩ : cJr G J h ∧ iJs G (jX (lxF m ye W Z Ro Co sp fa nb b1 b2) fi ve) h := hcJ
      refine ⟨7, 0, 0, some J, oS, by decide, by omega, by omega, CU.mono (oX8_chain_J (J := J) h0 h1 h2 h3 h4 h5 h6 h7 h8 h9 h10 h11 h12 k0 k1 k2 k3 k4 k5 hwy hok.2.2 q3 q4 q5 q6 hm hse hfi hye ba0 (by omega) q1 bve hJs hlxA lxF_le g1 by0) (fun r hh q => ?_)⟩
      obtain ⟨e_u1, e_v1, e_ro1, e_co1, e_rc1, e_lk1, e_bs1, e_wy1, e_nw1, z0, z1, z2, z3, z4, z5, fr, p0, p1, p2, p3, p4, u⟩ := q
      exact ⟨InvX_mk (rg2_at fr (by omega) h0) (rg2_at fr (by omega) h1) (rg2_at fr (by omega) h2) (rg2_at fr (by omega) h3) (rg2_at fr (by omega) h4) (rg2_at fr (by omega) h5) (rg2_at fr (by omega) h6) (rg2_at fr (by omega) h7) (rg2_at fr (by omega) h8) (rg2_at fr (by omega) h9) (rg2_at fr (by omega) h10) (rg2_at fr (by omega) h11) (rg2_at fr (by omega) h12) (rg2_at fr (by omega) h61) (rg2_at fr (by omega) h62) (rg2_at fr (by omega) h63) (rg2_at fr (by omega) h64) (rg2_at fr (by omega) h65) (rg2_at fr (by omega) h66) (rg2_at fr (by omega) h67) (rg2_at fr (by omega) h68) (rg2_at fr (by omega) h69) (rg2_at fr (by omega) h70) (rg2_at fr (by omega) h71) (rg2_at fr (by omega) h72) (rg2_at fr (by omega) h73) (rg2_at fr (by omega) h74) (rg2_at fr (by omega) h75) (rg2_at fr (by omega) h76) (rg2_at fr (by omega) h77) (rg2_at fr (by omega) h78) (rg2_at fr (by omega) h79) (rg2_at fr (by omega) h80) (rg2_at fr (by omega) h81) (rg2_at fr (by omega) h82) (rg2_at fr (by omega) h83) (rg2_at fr (by omega) h84) (rg2_at fr (by omega) h85) (rg2_at fr (by omega) h86) (rg2_at fr (by omega) h87) hr hS hBR (⟨hve.1, by omega⟩) hod1 hod2 (by rw [fr.1]; exact hln) (⟨⟨q1, by rw [fr.1]; exact q2, e_u1, e_v1, e_ro1, e_co1, e_rc1, e_lk1, e_bs1, e_wy1, e_nw1, z0, z1, z2, z3, z4, z5, p0, p1, p2, p3⟩, p4⟩) (cS_k2 hcS (by rw [fr.1]; exact Nat.le_refl _) (fun S e q7 q8 j q9 q10 => fr.2 j (by have d9 := dJ_o hdJ e; omega))) hdJ, kp_rg2 fr (by decide) (Or.inr (by omega)), by rw [chA_y hEW hw2, na0, ny0]; exact u⟩
  · refine ⟨4, 0, 0, oJ, oS, by decide, by omega, by omega, CU.mono (oX8_chain_r h0 h87 h1 h5 hfi hok) (fun r hh q => ?_)⟩
    obtain ⟨e_rf1, g87, fr, u⟩ := q
    exact ⟨InvX_mk (rng_at fr (by decide) h0) (rng_at fr (by decide) h1) (rng_at fr (by decide) h2) (rng_at fr (by decide) h3) (rng_at fr (by decide) h4) (rng_at fr (by decide) h5) (rng_at fr (by decide) h6) (rng_at fr (by decide) h7) (rng_at fr (by decide) h8) (rng_at fr (by decide) h9) (rng_at fr (by decide) h10) (rng_at fr (by decide) h11) (rng_at fr (by decide) h12) (rng_at fr (by decide) h61) (rng_at fr (by decide) h62) (rng_at fr (by decide) h63) (rng_at fr (by decide) h64) (rng_at fr (by decide) h65) (rng_at fr (by decide) h66) (rng_at fr (by decide) h67) (rng_at fr (by decide) h68) (rng_at fr (by decide) h69) (rng_at fr (by decide) h70) (rng_at fr (by decide) h71) (rng_at fr (by decide) h72) (rng_at fr (by decide) h73) (rng_at fr (by decide) h74) (rng_at fr (by decide) h75) (rng_at fr (by decide) h76) (rng_at fr (by decide) h77) (rng_at fr (by decide) h78) (rng_at fr (by decide) h79) (rng_at fr (by decide) h80) (rng_at fr (by decide) h81) (rng_at fr (by decide) h82) (rng_at fr (by decide) h83) (rng_at fr (by decide) h84) (rng_at fr (by decide) h85) (rng_at fr (by decide) h86) g87 hr hS hBR (⟨hve.1, by omega⟩) hod1 hod2 (by rw [fr.1]; exact hln) (cJ_k hcJ (by rw [fr.1]; exact Nat.le_refl _) (fun j q _ => fr.2 j (by omega)) hln) (cS_k hcS (by rw [fr.1]; exact Nat.le_refl _) (fun j q _ => fr.2 j (by omega))) hdJ, kp_rng fr (by decide), by rw [u]; exact chA_r hok⟩
