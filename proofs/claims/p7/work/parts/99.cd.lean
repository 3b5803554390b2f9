set_option maxHeartbeats 4000000 in
theorem oX8_chain_r {l : Launch} {G : xG} {h : List va_E} {jv bv : Value} {rf : Nat → Int32} {fi : Nat → Nat} {nb sp fa ve : Nat} {a i y w : Int32} (h0 : h[0]? = some (oB 8 (lX G (jv) (bv)))) (h87 : h[87]? = some (aI 7 rf)) (h1 : h[1]? = some (oB 1 (lC G (nI nb) (nI sp) (nI fa) (nI ve)))) (h5 : h[5]? = some (aI 4 (nA fi))) (hfi : ∀ j, j < 4 → fi j < 11) (hr : ¬ (((0 ≤ a.toInt ∧ a.toInt < 4) ∧ 0 ≤ i.toInt ∧ i.toInt < (fi (tn a) : Int)) ∧ wyF (tn a) y = true ∧ 0 ≤ w.toInt ∧ w.toInt ≤ 2)) : CU l G yX8_chain cX8_chain 5 (some .int) 4 0 0 [.ref (G.1 + 0), .int a, .int i, .int y, .int w] h (fun r h1 => ∃ rf1 : Nat → Int32, h1[87]? = some (aI 7 rf1) ∧ rng 87 87 h h1 ∧ r = if ((0 ≤ a.toInt ∧ a.toInt < 4) ∧ 0 ≤ i.toInt ∧ i.toInt < (fi (tn a) : Int)) ∧ wyF (tn a) y = true then -2 else -1) := by
  refine cm_ofQ rfl (Nat.le_of_ble_eq_true rfl) [(0, .ref (G.1 + 0)), (1, .int a), (2, .int i), (3, .int y), (4, .int w)] rfl (fun QF hQF => ?_)
  refine aw_aload_n 0 dX8_chain_0 rfl rfl ?_
  refine aw_iload_n 1 dX8_chain_1 rfl rfl ?_
  refine aw_iload_n 2 dX8_chain_2 rfl rfl ?_
  refine aw_dV [.int a, .int i] [] lX8_107 vX8_isEntry mX8_isEntry dX8_chain_3 (bX8_isEntry (jv := jv) (bv := bv) (fi := fi) (nb := nb) (sp := sp) (fa := fa) (ve := ve) (c := a) (i := i) h0 h1 h5 hfi) h0 rfl rfl rfl (Nat.le_of_ble_eq_true rfl) (by decide) (by decide) rfl ?_
  refine aw_if_eq 17 dX8_chain_6 (by decide) (fun c6 => ?_) (fun c6 => ?_)
  · have t6 := ite_0 c6
    refine aw_aload_n 0 dX8_chain_17 rfl rfl ?_
    refine aw_iconst (-1) dX8_chain_18 (by decide) ?_
    refine aw_eV [.int (-1)] [] lX8_70 vX8_refuse mX8_refuse dX8_chain_19 (bX8_refuse (jv := jv) (bv := bv) (rf := rf) (x := (-1)) (q := 1) h0 h87 (by decide) (by decide)) h0 rfl rfl rfl (Nat.le_of_ble_eq_true rfl) (by decide) (by decide) rfl (fun h6068 q6067 => ?_)
    obtain ⟨rf16066, f6069, k6070⟩ := q6067
    have f6071 := rng_at k6070 (by decide) h0
    have f6072 := rng_at k6070 (by decide) h1
    have f6073 := rng_at k6070 (by decide) h5
    subst hQF
    exact aw_iret rfl dX8_chain_22 (by decide) (by decide) ⟨_, rfl, _, f6069, rng_tr (rng_rf 87 87 h) (rng_w k6070 (by decide) (by decide)), by rw [if_neg (fun q9 => t6 q9.1)]⟩
  · have t6 := ite_1 c6
    obtain ⟨a0, bb_a0, ee_a0⟩ := i_nat (x := a) (N := 4) (by omega) (by omega)
    subst ee_a0
    have tt_a0 : (nI a0).toInt = (a0 : Int) := nI_toInt (by omega)
    have nn_a0 : tn (nI a0) = a0 := tn_nI (by omega)
    refine aw_iload_n 1 dX8_chain_9 rfl rfl ?_
    refine aw_iload_n 3 dX8_chain_10 rfl rfl ?_
    refine aw_dS [.int (nI a0), .int y] [] lX8_141 sX8_isWay mX8_isWay dX8_chain_11 (bX8_isWay (a := a0) (y := y) (by omega)) rfl (Nat.le_of_ble_eq_true rfl) (by decide) (by decide) rfl ?_
    refine aw_if_ne 23 dX8_chain_14 (by decide) (fun c14 => ?_) (fun c14 => ?_)
    · have t14 := ite_1 c14
      refine aw_iload 4 dX8_chain_23 rfl ?_
      refine aw_if_lt 34 dX8_chain_25 (by decide) (fun c25 => ?_) (fun c25 => ?_)
      · have d25 := (j_lt (a := w.toInt) (b := (0)) (rfl) (rfl)).mp c25
        refine aw_aload_n 0 dX8_chain_34 rfl rfl ?_
        refine aw_bipush (-2) dX8_chain_35 (by decide) ?_
        refine aw_eV [.int (-2)] [] lX8_70 vX8_refuse mX8_refuse dX8_chain_37 (bX8_refuse (jv := jv) (bv := bv) (rf := rf) (x := (-2)) (q := 2) h0 h87 (by decide) (by decide)) h0 rfl rfl rfl (Nat.le_of_ble_eq_true rfl) (by decide) (by decide) rfl (fun h6076 q6075 => ?_)
        obtain ⟨rf16074, f6077, k6078⟩ := q6075
        have f6079 := rng_at k6078 (by decide) h0
        have f6080 := rng_at k6078 (by decide) h1
        have f6081 := rng_at k6078 (by decide) h5
        subst hQF
        exact aw_iret rfl dX8_chain_40 (by decide) (by decide) ⟨_, rfl, _, f6077, rng_tr (rng_rf 87 87 h) (rng_w k6078 (by decide) (by decide)), by rw [if_pos ⟨t6, by rw [nn_a0]; exact t14⟩]⟩
      · have d25 := mt (j_lt (a := w.toInt) (b := (0)) (rfl) (rfl)).mpr c25
        refine aw_iload 4 dX8_chain_28 rfl ?_
        refine aw_iconst (2) dX8_chain_30 (by decide) ?_
        refine aw_icmp_le 41 dX8_chain_31 (by decide) (fun c31 => ?_) (fun c31 => ?_)
        · have d31 := (j_le (a := w.toInt) (b := (2)) (rfl) (rfl)).mp c31
          exact absurd ⟨t6, by rw [nn_a0]; exact t14, by omega, by omega⟩ hr
        · have d31 := mt (j_le (a := w.toInt) (b := (2)) (rfl) (rfl)).mpr c31
          refine aw_aload_n 0 dX8_chain_34 rfl rfl ?_
          refine aw_bipush (-2) dX8_chain_35 (by decide) ?_
          refine aw_eV [.int (-2)] [] lX8_70 vX8_refuse mX8_refuse dX8_chain_37 (bX8_refuse (jv := jv) (bv := bv) (rf := rf) (x := (-2)) (q := 2) h0 h87 (by decide) (by decide)) h0 rfl rfl rfl (Nat.le_of_ble_eq_true rfl) (by decide) (by decide) rfl (fun h6084 q6083 => ?_)
          obtain ⟨rf16082, f6085, k6086⟩ := q6083
          have f6087 := rng_at k6086 (by decide) h0
          have f6088 := rng_at k6086 (by decide) h1
          have f6089 := rng_at k6086 (by decide) h5
          subst hQF
          exact aw_iret rfl dX8_chain_40 (by decide) (by decide) ⟨_, rfl, _, f6085, rng_tr (rng_rf 87 87 h) (rng_w k6086 (by decide) (by decide)), by rw [if_pos ⟨t6, by rw [nn_a0]; exact t14⟩]⟩
    · have t14 := ite_0 c14
      refine aw_aload_n 0 dX8_chain_17 rfl rfl ?_
      refine aw_iconst (-1) dX8_chain_18 (by decide) ?_
      refine aw_eV [.int (-1)] [] lX8_70 vX8_refuse mX8_refuse dX8_chain_19 (bX8_refuse (jv := jv) (bv := bv) (rf := rf) (x := (-1)) (q := 1) h0 h87 (by decide) (by decide)) h0 rfl rfl rfl (Nat.le_of_ble_eq_true rfl) (by decide) (by decide) rfl (fun h6092 q6091 => ?_)
      obtain ⟨rf16090, f6093, k6094⟩ := q6091
      have f6095 := rng_at k6094 (by decide) h0
      have f6096 := rng_at k6094 (by decide) h1
      have f6097 := rng_at k6094 (by decide) h5
      subst hQF
      exact aw_iret rfl dX8_chain_22 (by decide) (by decide) ⟨_, rfl, _, f6093, rng_tr (rng_rf 87 87 h) (rng_w k6094 (by decide) (by decide)), by rw [if_neg (fun q9 => t14 (by have w9 := q9.2; rw [nn_a0] at w9; exact w9))]⟩
set_option maxHeartbeats 4000000 in
theorem oX8_chain_J {l : Launch} {G : xG} {h : List va_E} {bv : Value} {J u v ro co : Nat} {rc : Nat → Nat} {lk bs wy nw : Nat → Int32} {m se ye fi : Nat → Nat} {W Sn Z Ro Co : Nat → Int32} {Ba : Nat → Int64} {nb sp fa ve : Nat} {lx : Nat → Nat → Nat → Nat → Nat} {a i y0 : Nat} {w : Int32} (h0 : h[0]? = some (oB 8 (lX G (.ref (G.1 + J)) (bv)))) (h1 : h[1]? = some (oB 1 (lC G (nI nb) (nI sp) (nI fa) (nI ve)))) (h2 : h[2]? = some (aI 20 (nA m))) (h3 : h[3]? = some (aI 20 (nA se))) (h4 : h[4]? = some (aI 4 (nA ye))) (h5 : h[5]? = some (aI 4 (nA fi))) (h6 : h[6]? = some (aI 40 W)) (h7 : h[7]? = some (aI 40 Sn)) (h8 : h[8]? = some (aI 40 Z)) (h9 : h[9]? = some (aI 40 Ro)) (h10 : h[10]? = some (aI 40 Co)) (h11 : h[11]? = some (aL 40 Ba)) (h12 : h[12]? = some (aR 16 (xjo G.1 16))) (hJ : h[J]? = some (oB 3 (lJ G J (.ref (G.1 + u)) (.ref (G.1 + v)) (nI ro) (nI co)))) (hJ_1 : h[J + 1]? = some (aI 100 lk)) (hJ_2 : h[J + 2]? = some (aI 11 (nA rc))) (hJ_3 : h[J + 3]? = some (aI 11264 bs)) (hu : h[u]? = some (aI 1024 wy)) (hv : h[v]? = some (aI 1024 nw)) (hwy : wyF a (nI y0) = true) (hw0 : 0 ≤ w.toInt ∧ w.toInt ≤ 2) (qu : J + 4 ≤ u ∧ u ≤ J + 5) (qv : J + 4 ≤ v ∧ v ≤ J + 5) (quv : (u ≠ v ∧ wZ wy nw)) (hrc : ∀ j, j < 11 → rc j < 1024) (hm : ∀ j, j < 20 → m j ≤ j) (hse : ∀ j, j < 20 → se j < 20) (hfi : ∀ j, j < 4 → fi j < 11) (hye : ∀ j, j < 4 → ye j < 1901) (ba : a < 4) (bia : i < fi a) (qJ : 125 ≤ J) (bve : ve ≤ 600) (hJs : iJs G (jX lx fi ve) h) (hlx : ∀ a, a < 4 → ∀ b, b < 4 → ∀ i, i < fi a → ∀ k, k < fi b → likeC ye Sn Z Ro Co Ba sp fa (a * 10 + i) (b * 10 + k) = nI (lx a b i k)) (hlx3 : ∀ a b i k, lx a b i k ≤ 300) (g1 : 1 ≤ y0 % 10 ∧ y0 % 10 ≤ 4 ∧ y0 / 10 % 10 ≤ 4 ∧ y0 / 100 % 10 ≤ 4) (by0 : y0 < 1000) : CU l G yX8_chain cX8_chain 5 (some .int) 7 0 0 [.ref (G.1 + 0), .int (nI a), .int (nI i), .int (nI y0), .int w] h (fun r h1 => ∃ u1 : Nat, ∃ v1 : Nat, ∃ ro1 : Nat, ∃ co1 : Nat, ∃ rc1 : Nat → Nat, ∃ lk1 : Nat → Int32, ∃ bs1 : Nat → Int32, ∃ wy1 : Nat → Int32, ∃ nw1 : Nat → Int32, h1[J]? = some (oB 3 (lJ G J (.ref (G.1 + u1)) (.ref (G.1 + v1)) (nI ro1) (nI co1))) ∧ h1[J + 1]? = some (aI 100 lk1) ∧ h1[J + 2]? = some (aI 11 (nA rc1)) ∧ h1[J + 3]? = some (aI 11264 bs1) ∧ h1[u1]? = some (aI 1024 wy1) ∧ h1[v1]? = some (aI 1024 nw1) ∧ rg2 13 60 J (J + 5) h h1 ∧ (J + 4 ≤ u1 ∧ u1 ≤ J + 5) ∧ (J + 4 ≤ v1 ∧ v1 ≤ J + 5) ∧ (u1 ≠ v1 ∧ wZ wy1 nw1) ∧ (∀ j, j < 11 → rc1 j < 1024) ∧ iJs G (jX lx fi ve) h1 ∧ r = chR w (chV lx fi y0 3 a (nI i) 0 0)) := by
  refine cm_ofQ rfl (Nat.le_of_ble_eq_true rfl) [(0, .ref (G.1 + 0)), (1, .int (nI a)), (2, .int (nI i)), (3, .int (nI y0)), (4, .int w)] rfl (fun QF hQF => ?_)
  have tt_a : (nI a).toInt = (a : Int) := nI_toInt (by omega)
  have nn_a : tn (nI a) = a := tn_nI (by omega)
  have hg_a := hfi a (by omega)
  have tt_i : (nI i).toInt = (i : Int) := nI_toInt (by omega)
  have nn_i : tn (nI i) = i := tn_nI (by omega)
  have hE : ((0 ≤ (nI a).toInt ∧ (nI a).toInt < 4) ∧ 0 ≤ (nI i).toInt ∧ (nI i).toInt < (fi (tn (nI a)) : Int)) := by rw [nn_a]; omega
  refine aw_aload_n 0 dX8_chain_0 rfl rfl ?_
  refine aw_iload_n 1 dX8_chain_1 rfl rfl ?_
  refine aw_iload_n 2 dX8_chain_2 rfl rfl ?_
  refine aw_dV [.int (nI a), .int (nI i)] [] lX8_107 vX8_isEntry mX8_isEntry dX8_chain_3 (bX8_isEntry (jv := .ref (G.1 + J)) (bv := bv) (fi := fi) (nb := nb) (sp := sp) (fa := fa) (ve := ve) (c := (nI a)) (i := (nI i)) h0 h1 h5 hfi) h0 rfl rfl rfl (Nat.le_of_ble_eq_true rfl) (by decide) (by decide) rfl ?_
  refine aw_if_eq 17 dX8_chain_6 (by decide) (fun c6 => absurd c6 (by rw [if_pos hE]; decide)) (fun c6 => ?_)
  refine aw_iload_n 1 dX8_chain_9 rfl rfl ?_
  refine aw_iload_n 3 dX8_chain_10 rfl rfl ?_
  refine aw_dS [.int (nI a), .int (nI y0)] [] lX8_141 sX8_isWay mX8_isWay dX8_chain_11 (bX8_isWay (a := a) (y := (nI y0)) (by omega)) rfl (Nat.le_of_ble_eq_true rfl) (by decide) (by decide) rfl ?_
  refine aw_if_ne 23 dX8_chain_14 (by decide) (fun c14 => ?_) (fun c14 => absurd c14 (by rw [if_pos hwy]; decide))
  refine aw_iload 4 dX8_chain_23 rfl ?_
  refine aw_if_lt 34 dX8_chain_25 (by decide) (fun c25 => ?_) (fun c25 => ?_)
  · have d25 := (j_lt (a := w.toInt) (b := (0)) (rfl) (rfl)).mp c25
    exfalso
    omega
  · have d25 := mt (j_lt (a := w.toInt) (b := (0)) (rfl) (rfl)).mpr c25
    refine aw_iload 4 dX8_chain_28 rfl ?_
    refine aw_iconst (2) dX8_chain_30 (by decide) ?_
    refine aw_icmp_le 41 dX8_chain_31 (by decide) (fun c31 => ?_) (fun c31 => ?_)
    · have d31 := (j_le (a := w.toInt) (b := (2)) (rfl) (rfl)).mp c31
      refine aw_aload_n 0 dX8_chain_41 rfl rfl ?_
      refine aw_iload_n 1 dX8_chain_42 rfl rfl ?_
      refine aw_iload_n 2 dX8_chain_43 rfl rfl ?_
      refine aw_iload_n 3 dX8_chain_44 rfl rfl ?_
      refine aw_iload 4 dX8_chain_45 rfl ?_
      refine aw_uV [.int (nI a), .int (nI i), .int (nI y0), .int w] [] lX8_144 vX8_followChain mX8_followChain dX8_chain_47 (fc_J (bv := bv) (J := J) (u := u) (v := v) (ro := ro) (co := co) (rc := rc) (lk := lk) (bs := bs) (wy := wy) (nw := nw) (m := m) (se := se) (ye := ye) (fi := fi) (W := W) (Sn := Sn) (Z := Z) (Ro := Ro) (Co := Co) (Ba := Ba) (nb := nb) (sp := sp) (fa := fa) (ve := ve) (a := a) (i := i) (y0 := y0) (w := w) h0 h1 h2 h3 h4 h5 h6 h7 h8 h9 h10 h11 h12 hJ hJ_1 hJ_2 hJ_3 hu hv (by omega) (by omega) (by omega) hrc hm hse hfi hye (by omega) (by omega) (by omega) (by omega) (by omega) hJs hlx hlx3 g1 (by omega)) h0 rfl rfl rfl (Nat.le_of_ble_eq_true rfl) (by decide) (by decide) rfl (fun r6108 h6109 q6107 => ?_)
      obtain ⟨u16098, v16099, ro16100, co16101, rc16102, lk16103, bs16104, wy16105, nw16106, f6110, f6111, f6112, f6113, f6114, f6115, k6116, p6117, p6118, p6119, p6120, p6121, u6122⟩ := q6107
      have f6123 := rg2_at k6116 (by omega) h0
      have f6124 := rg2_at k6116 (by omega) h1
      have f6125 := rg2_at k6116 (by omega) h2
      have f6126 := rg2_at k6116 (by omega) h3
      have f6127 := rg2_at k6116 (by omega) h4
      have f6128 := rg2_at k6116 (by omega) h5
      have f6129 := rg2_at k6116 (by omega) h6
      have f6130 := rg2_at k6116 (by omega) h7
      have f6131 := rg2_at k6116 (by omega) h8
      have f6132 := rg2_at k6116 (by omega) h9
      have f6133 := rg2_at k6116 (by omega) h10
      have f6134 := rg2_at k6116 (by omega) h11
      have f6135 := rg2_at k6116 (by omega) h12
      subst hQF
      exact aw_iret rfl dX8_chain_50 (by decide) (by decide) ⟨_, rfl, _, _, _, _, _, _, _, _, _, f6110, f6111, f6112, f6113, f6114, f6115, rg2_tr (rg2_rf 13 60 J (J + 5) h) (rg2_w2 k6116 (by omega) (by omega)), p6117, p6118, p6119, p6120, p6121, u6122⟩
    · have d31 := mt (j_le (a := w.toInt) (b := (2)) (rfl) (rfl)).mpr c31
      exfalso
      omega
set_option maxHeartbeats 4000000 in
theorem oX8_chain_n {l : Launch} {G : xG} {h : List va_E} {bv : Value} {J : Nat} {m se ye fi : Nat → Nat} {W Sn Z Ro Co : Nat → Int32} {Ba : Nat → Int64} {nb sp fa ve : Nat} {lx : Nat → Nat → Nat → Nat → Nat} {a i y0 : Nat} {w : Int32} (h0 : h[0]? = some (oB 8 (lX G (.null) (bv)))) (h1 : h[1]? = some (oB 1 (lC G (nI nb) (nI sp) (nI fa) (nI ve)))) (h2 : h[2]? = some (aI 20 (nA m))) (h3 : h[3]? = some (aI 20 (nA se))) (h4 : h[4]? = some (aI 4 (nA ye))) (h5 : h[5]? = some (aI 4 (nA fi))) (h6 : h[6]? = some (aI 40 W)) (h7 : h[7]? = some (aI 40 Sn)) (h8 : h[8]? = some (aI 40 Z)) (h9 : h[9]? = some (aI 40 Ro)) (h10 : h[10]? = some (aI 40 Co)) (h11 : h[11]? = some (aL 40 Ba)) (h12 : h[12]? = some (aR 16 (xjo G.1 16))) (hwy : wyF a (nI y0) = true) (hw0 : 0 ≤ w.toInt ∧ w.toInt ≤ 2) (hl : h.length = J) (hm : ∀ j, j < 20 → m j ≤ j) (hse : ∀ j, j < 20 → se j < 20) (hfi : ∀ j, j < 4 → fi j < 11) (hye : ∀ j, j < 4 → ye j < 1901) (ba : a < 4) (bia : i < fi a) (qJ : 125 ≤ J) (bve : ve ≤ 600) (hve : 1 ≤ ve) (hJz : iJs G jZ h) (hlx : ∀ a, a < 4 → ∀ b, b < 4 → ∀ i, i < fi a → ∀ k, k < fi b → likeC ye Sn Z Ro Co Ba sp fa (a * 10 + i) (b * 10 + k) = nI (lx a b i k)) (hlx3 : ∀ a b i k, lx a b i k ≤ 300) (g1 : 1 ≤ y0 % 10 ∧ y0 % 10 ≤ 4 ∧ y0 / 10 % 10 ≤ 4 ∧ y0 / 100 % 10 ≤ 4) (by0 : y0 < 1000) : CU l G yX8_chain cX8_chain 5 (some .int) 7 6 13430 [.ref (G.1 + 0), .int (nI a), .int (nI i), .int (nI y0), .int w] h (fun r h1 => ∃ u1 : Nat, ∃ v1 : Nat, ∃ ro1 : Nat, ∃ co1 : Nat, ∃ rc1 : Nat → Nat, ∃ lk1 : Nat → Int32, ∃ bs1 : Nat → Int32, ∃ wy1 : Nat → Int32, ∃ nw1 : Nat → Int32, h1[0]? = some (oB 8 (lX G (.ref (G.1 + J)) (bv))) ∧ h1[J]? = some (oB 3 (lJ G J (.ref (G.1 + u1)) (.ref (G.1 + v1)) (nI ro1) (nI co1))) ∧ h1[J + 1]? = some (aI 100 lk1) ∧ h1[J + 2]? = some (aI 11 (nA rc1)) ∧ h1[J + 3]? = some (aI 11264 bs1) ∧ h1[u1]? = some (aI 1024 wy1) ∧ h1[v1]? = some (aI 1024 nw1) ∧ grw 0 0 13 60 h h1 ∧ (J + 4 ≤ u1 ∧ u1 ≤ J + 5) ∧ (J + 4 ≤ v1 ∧ v1 ≤ J + 5) ∧ (u1 ≠ v1 ∧ wZ wy1 nw1) ∧ (∀ j, j < 11 → rc1 j < 1024) ∧ iJs G (jX lx fi ve) h1 ∧ h1.length = J + 6 ∧ r = chR w (chV lx fi y0 3 a (nI i) 0 0)) := by
  refine cm_ofQ rfl (Nat.le_of_ble_eq_true rfl) [(0, .ref (G.1 + 0)), (1, .int (nI a)), (2, .int (nI i)), (3, .int (nI y0)), (4, .int w)] rfl (fun QF hQF => ?_)
  have tt_a : (nI a).toInt = (a : Int) := nI_toInt (by omega)
  have nn_a : tn (nI a) = a := tn_nI (by omega)
  have hg_a := hfi a (by omega)
  have tt_i : (nI i).toInt = (i : Int) := nI_toInt (by omega)
  have nn_i : tn (nI i) = i := tn_nI (by omega)
  have hE : ((0 ≤ (nI a).toInt ∧ (nI a).toInt < 4) ∧ 0 ≤ (nI i).toInt ∧ (nI i).toInt < (fi (tn (nI a)) : Int)) := by rw [nn_a]; omega
  refine aw_aload_n 0 dX8_chain_0 rfl rfl ?_
  refine aw_iload_n 1 dX8_chain_1 rfl rfl ?_
  refine aw_iload_n 2 dX8_chain_2 rfl rfl ?_
  refine aw_dV [.int (nI a), .int (nI i)] [] lX8_107 vX8_isEntry mX8_isEntry dX8_chain_3 (bX8_isEntry (jv := .null) (bv := bv) (fi := fi) (nb := nb) (sp := sp) (fa := fa) (ve := ve) (c := (nI a)) (i := (nI i)) h0 h1 h5 hfi) h0 rfl rfl rfl (Nat.le_of_ble_eq_true rfl) (by decide) (by decide) rfl ?_
  refine aw_if_eq 17 dX8_chain_6 (by decide) (fun c6 => absurd c6 (by rw [if_pos hE]; decide)) (fun c6 => ?_)
  refine aw_iload_n 1 dX8_chain_9 rfl rfl ?_
  refine aw_iload_n 3 dX8_chain_10 rfl rfl ?_
  refine aw_dS [.int (nI a), .int (nI y0)] [] lX8_141 sX8_isWay mX8_isWay dX8_chain_11 (bX8_isWay (a := a) (y := (nI y0)) (by omega)) rfl (Nat.le_of_ble_eq_true rfl) (by decide) (by decide) rfl ?_
  refine aw_if_ne 23 dX8_chain_14 (by decide) (fun c14 => ?_) (fun c14 => absurd c14 (by rw [if_pos hwy]; decide))
  refine aw_iload 4 dX8_chain_23 rfl ?_
  refine aw_if_lt 34 dX8_chain_25 (by decide) (fun c25 => ?_) (fun c25 => ?_)
  · have d25 := (j_lt (a := w.toInt) (b := (0)) (rfl) (rfl)).mp c25
    exfalso
    omega
  · have d25 := mt (j_lt (a := w.toInt) (b := (0)) (rfl) (rfl)).mpr c25
    refine aw_iload 4 dX8_chain_28 rfl ?_
    refine aw_iconst (2) dX8_chain_30 (by decide) ?_
    refine aw_icmp_le 41 dX8_chain_31 (by decide) (fun c31 => ?_) (fun c31 => ?_)
    · have d31 := (j_le (a := w.toInt) (b := (2)) (rfl) (rfl)).mp c31
      refine aw_aload_n 0 dX8_chain_41 rfl rfl ?_
      refine aw_iload_n 1 dX8_chain_42 rfl rfl ?_
      refine aw_iload_n 2 dX8_chain_43 rfl rfl ?_
      refine aw_iload_n 3 dX8_chain_44 rfl rfl ?_
      refine aw_iload 4 dX8_chain_45 rfl ?_
      refine aw_uV [.int (nI a), .int (nI i), .int (nI y0), .int w] [] lX8_144 vX8_followChain mX8_followChain dX8_chain_47 (fc_n (bv := bv) (m := m) (se := se) (ye := ye) (fi := fi) (W := W) (Sn := Sn) (Z := Z) (Ro := Ro) (Co := Co) (Ba := Ba) (nb := nb) (sp := sp) (fa := fa) (ve := ve) (a := a) (i := i) (y0 := y0) (w := w) h0 h1 h2 h3 h4 h5 h6 h7 h8 h9 h10 h11 h12 (by omega) hm hse hfi hye (by omega) (by omega) (by omega) (by omega) (by omega) (by omega) hJz hlx hlx3 g1 (by omega)) h0 rfl rfl rfl (Nat.le_of_ble_eq_true rfl) (by decide) (by decide) rfl (fun r6146 h6147 q6145 => ?_)
      obtain ⟨u16136, v16137, ro16138, co16139, rc16140, lk16141, bs16142, wy16143, nw16144, f6148, f6149, f6150, f6151, f6152, f6153, f6154, k6155, p6156, p6157, p6158, p6159, p6160, p6161, u6162⟩ := q6145
      have f6163 := grw_at k6155 (by decide) h1
      have f6164 := grw_at k6155 (by decide) h2
      have f6165 := grw_at k6155 (by decide) h3
      have f6166 := grw_at k6155 (by decide) h4
      have f6167 := grw_at k6155 (by decide) h5
      have f6168 := grw_at k6155 (by decide) h6
      have f6169 := grw_at k6155 (by decide) h7
      have f6170 := grw_at k6155 (by decide) h8
      have f6171 := grw_at k6155 (by decide) h9
      have f6172 := grw_at k6155 (by decide) h10
      have f6173 := grw_at k6155 (by decide) h11
      have f6174 := grw_at k6155 (by decide) h12
      subst hQF
      exact aw_iret rfl dX8_chain_50 (by decide) (by decide) ⟨_, rfl, _, _, _, _, _, _, _, _, _, f6148, f6149, f6150, f6151, f6152, f6153, f6154, grw_gg (grw_rf 0 0 13 60 h) k6155 (fun j q1 q2 => by omega), p6156, p6157, p6158, p6159, p6160, p6161, u6162⟩
    · have d31 := mt (j_le (a := w.toInt) (b := (2)) (rfl) (rfl)).mpr c31
      exfalso
      omega
