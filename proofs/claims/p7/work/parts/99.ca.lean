set_option maxHeartbeats 4000000 in
theorem fc_J {l : Launch} {G : xG} {h : List va_E} {bv : Value} {J u v ro co : Nat} {rc : Nat → Nat} {lk bs wy nw : Nat → Int32} {m se ye fi : Nat → Nat} {W Sn Z Ro Co : Nat → Int32} {Ba : Nat → Int64} {nb sp fa ve : Nat} {lx : Nat → Nat → Nat → Nat → Nat} {a i y0 : Nat} {w : Int32} (h0 : h[0]? = some (oB 8 (lX G (.ref (G.1 + J)) (bv)))) (h1 : h[1]? = some (oB 1 (lC G (nI nb) (nI sp) (nI fa) (nI ve)))) (h2 : h[2]? = some (aI 20 (nA m))) (h3 : h[3]? = some (aI 20 (nA se))) (h4 : h[4]? = some (aI 4 (nA ye))) (h5 : h[5]? = some (aI 4 (nA fi))) (h6 : h[6]? = some (aI 40 W)) (h7 : h[7]? = some (aI 40 Sn)) (h8 : h[8]? = some (aI 40 Z)) (h9 : h[9]? = some (aI 40 Ro)) (h10 : h[10]? = some (aI 40 Co)) (h11 : h[11]? = some (aL 40 Ba)) (h12 : h[12]? = some (aR 16 (xjo G.1 16))) (hJ : h[J]? = some (oB 3 (lJ G J (.ref (G.1 + u)) (.ref (G.1 + v)) (nI ro) (nI co)))) (hJ_1 : h[J + 1]? = some (aI 100 lk)) (hJ_2 : h[J + 2]? = some (aI 11 (nA rc))) (hJ_3 : h[J + 3]? = some (aI 11264 bs)) (hu : h[u]? = some (aI 1024 wy)) (hv : h[v]? = some (aI 1024 nw)) (qu : J + 4 ≤ u ∧ u ≤ J + 5) (qv : J + 4 ≤ v ∧ v ≤ J + 5) (quv : (u ≠ v ∧ wZ wy nw)) (hrc : ∀ j, j < 11 → rc j < 1024) (hm : ∀ j, j < 20 → m j ≤ j) (hse : ∀ j, j < 20 → se j < 20) (hfi : ∀ j, j < 4 → fi j < 11) (hye : ∀ j, j < 4 → ye j < 1901) (ba : a < 4) (bi : i < 10) (bia : i < fi a) (qJ : 125 ≤ J) (bve : ve ≤ 600) (hJs : iJs G (jX lx fi ve) h) (hlx : ∀ a, a < 4 → ∀ b, b < 4 → ∀ i, i < fi a → ∀ k, k < fi b → likeC ye Sn Z Ro Co Ba sp fa (a * 10 + i) (b * 10 + k) = nI (lx a b i k)) (hlx3 : ∀ a b i k, lx a b i k ≤ 300) (g1 : 1 ≤ y0 % 10 ∧ y0 % 10 ≤ 4 ∧ y0 / 10 % 10 ≤ 4 ∧ y0 / 100 % 10 ≤ 4) (by0 : y0 < 1000) : CU l G yX8_followChain cX8_followChain 14 (some .int) 6 0 0 [.ref (G.1 + 0), .int (nI a), .int (nI i), .int (nI y0), .int w] h (fun r h1 => ∃ u1 : Nat, ∃ v1 : Nat, ∃ ro1 : Nat, ∃ co1 : Nat, ∃ rc1 : Nat → Nat, ∃ lk1 : Nat → Int32, ∃ bs1 : Nat → Int32, ∃ wy1 : Nat → Int32, ∃ nw1 : Nat → Int32, h1[J]? = some (oB 3 (lJ G J (.ref (G.1 + u1)) (.ref (G.1 + v1)) (nI ro1) (nI co1))) ∧ h1[J + 1]? = some (aI 100 lk1) ∧ h1[J + 2]? = some (aI 11 (nA rc1)) ∧ h1[J + 3]? = some (aI 11264 bs1) ∧ h1[u1]? = some (aI 1024 wy1) ∧ h1[v1]? = some (aI 1024 nw1) ∧ rg2 13 60 J (J + 5) h h1 ∧ (J + 4 ≤ u1 ∧ u1 ≤ J + 5) ∧ (J + 4 ≤ v1 ∧ v1 ≤ J + 5) ∧ (u1 ≠ v1 ∧ wZ wy1 nw1) ∧ (∀ j, j < 11 → rc1 j < 1024) ∧ iJs G (jX lx fi ve) h1 ∧ r = chR w (chV lx fi y0 3 a (nI i) 0 0)) := by
  refine cm_ofQ rfl (Nat.le_of_ble_eq_true rfl) [(0, .ref (G.1 + 0)), (1, .int (nI a)), (2, .int (nI i)), (3, .int (nI y0)), (4, .int w)] rfl (fun QF hQF => ?_)
  refine aw_iload_n 1 dX8_followChain_0 rfl rfl ?_
  refine aw_istore [(5, .int (nI a)), (0, .ref (G.1 + 0)), (1, .int (nI a)), (2, .int (nI i)), (3, .int (nI y0)), (4, .int w)] dX8_followChain_1 (by decide) rfl ?_
  refine aw_iload_n 3 dX8_followChain_3 rfl rfl ?_
  refine aw_istore [(6, .int (nI i)), (5, .int (nI a)), (0, .ref (G.1 + 0)), (1, .int (nI a)), (2, .int (nI i)), (3, .int (nI y0)), (4, .int w)] dX8_followChain_4 (by decide) rfl ?_
  refine aw_iconst (0) dX8_followChain_6 (by decide) ?_
  refine aw_istore [(7, .int 0), (6, .int (nI i)), (5, .int (nI a)), (0, .ref (G.1 + 0)), (1, .int (nI a)), (2, .int (nI i)), (3, .int (nI y0)), (4, .int w)] dX8_followChain_7 (by decide) rfl ?_
  refine aw_iconst (0) dX8_followChain_9 (by decide) ?_
  refine aw_istore [(8, .int 0), (7, .int 0), (6, .int (nI i)), (5, .int (nI a)), (0, .ref (G.1 + 0)), (1, .int (nI a)), (2, .int (nI i)), (3, .int (nI y0)), (4, .int w)] dX8_followChain_10 (by decide) rfl ?_
  refine aw_bipush (100) dX8_followChain_12 (by decide) ?_
  refine aw_istore [(9, .int 100), (8, .int 0), (7, .int 0), (6, .int (nI i)), (5, .int (nI a)), (0, .ref (G.1 + 0)), (1, .int (nI a)), (2, .int (nI i)), (3, .int (nI y0)), (4, .int w)] dX8_followChain_14 (by decide) rfl ?_
  refine aw_lv [(9, .int 100), (8, .int 0), (7, .int 0), (6, .int (nI i)), (5, .int (nI a)), (4, .int w), (3, .int (nI y0)), (0, .ref (G.1 + 0))] [0, 1, 2, 3, 4, 9, 8, 5] rfl ?_
  suffices L5644 : ∀ (mm : Nat) (x : Nat) (ev : Int32) (fr : Nat) (dv : Int32) (sv : Int32) (u1 : Nat) (v1 : Nat) (ro1 : Nat) (co1 : Nat) (rc1 : Nat → Nat) (lk1 : Nat → Int32) (bs1 : Nat → Int32) (wy1 : Nat → Int32) (nw1 : Nat → Int32) (h5623 : List va_E), x < mm → (x = 0 ∨ x = 1 ∨ x = 2 ∨ x = 3) → (ev = -9 ∨ ∃ q, q < 10 ∧ q < fi fr ∧ ev = nI q) → (fr < 4) → (J + 4 ≤ u1 ∧ u1 ≤ J + 5) → (J + 4 ≤ v1 ∧ v1 ≤ J + 5) → (u1 ≠ v1 ∧ wZ wy1 nw1) → (∀ j, j < 11 → rc1 j < 1024) → (iJs G (jX lx fi ve) h5623) → (chV lx fi y0 3 a (nI i) 0 0 = chV lx fi y0 x fr ev sv dv) → h5623[0]? = some (oB 8 (lX G (.ref (G.1 + J)) (bv))) → h5623[1]? = some (oB 1 (lC G (nI nb) (nI sp) (nI fa) (nI ve))) → h5623[2]? = some (aI 20 (nA m)) → h5623[3]? = some (aI 20 (nA se)) → h5623[4]? = some (aI 4 (nA ye)) → h5623[5]? = some (aI 4 (nA fi)) → h5623[6]? = some (aI 40 W) → h5623[7]? = some (aI 40 Sn) → h5623[8]? = some (aI 40 Z) → h5623[9]? = some (aI 40 Ro) → h5623[10]? = some (aI 40 Co) → h5623[11]? = some (aL 40 Ba) → h5623[12]? = some (aR 16 (xjo G.1 16)) → h5623[J]? = some (oB 3 (lJ G J (.ref (G.1 + u1)) (.ref (G.1 + v1)) (nI ro1) (nI co1))) → h5623[J + 1]? = some (aI 100 lk1) → h5623[J + 2]? = some (aI 11 (nA rc1)) → h5623[J + 3]? = some (aI 11264 bs1) → h5623[u1]? = some (aI 1024 wy1) → h5623[v1]? = some (aI 1024 nw1) → rg2 13 60 J (J + 5) h h5623 → AW l G yX8_followChain cX8_followChain 14 (some .int) (xR 6 0 0) (fun _ _ => True) QF 0 0 16 [(9, .int (nI (p10 x))), (8, .int dv), (7, .int sv), (6, .int ev), (5, .int (nI fr)), (4, .int w), (3, .int (nI y0)), (0, .ref (G.1 + 0))] [] h5623 from L5644 (3 + 1) 3 (nI i) a 0 0 u v ro co rc lk bs wy nw _ (Nat.lt_succ_self _) (by decide) (Or.inr ⟨_, bi, bia, rfl⟩) (ba) (qu) (qv) (quv) (hrc) (hJs) (rfl) h0 h1 h2 h3 h4 h5 h6 h7 h8 h9 h10 h11 h12 hJ hJ_1 hJ_2 hJ_3 hu hv (rg2_rf 13 60 J (J + 5) h)
  intro mm
  induction mm with
  | zero =>
    intro x ev fr dv sv u1 v1 ro1 co1 rc1 lk1 bs1 wy1 nw1 h5623 hmm hx he bfr hu1 hv1 huv1 hrc1 hJ1 hcv f5624 f5625 f5626 f5627 f5628 f5629 f5630 f5631 f5632 f5633 f5634 f5635 f5636 f5637 f5638 f5639 f5640 f5641 f5642 k5643
    exact absurd hmm (Nat.not_lt_zero _)
  | succ mm ih5644 =>
    intro x ev fr dv sv u1 v1 ro1 co1 rc1 lk1 bs1 wy1 nw1 h5623 hmm hx he bfr hu1 hv1 huv1 hrc1 hJ1 hcv f5624 f5625 f5626 f5627 f5628 f5629 f5630 f5631 f5632 f5633 f5634 f5635 f5636 f5637 f5638 f5639 f5640 f5641 f5642 k5643
    rcases hx with rfl | rfl | rfl | rfl
    · refine aw_lv [(9, .int 0), (8, .int dv), (7, .int sv), (6, .int ev), (5, .int (nI fr)), (4, .int w), (3, .int (nI y0)), (0, .ref (G.1 + 0))] [0, 1, 2, 3, 4, 5, 6, 7] rfl ?_
      refine aw_iload 0 dX8_followChain_16 rfl ?_
      refine aw_if_le 149 dX8_followChain_18 (by decide) (fun c18 => ?_) (fun c18 => absurd (by decide) c18)
      refine aw_iload 5 dX8_followChain_149 rfl ?_
      refine aw_if_ne 157 dX8_followChain_151 (by decide) (fun c151 => ?_) (fun c151 => ?_)
      · have d151 := mt (j_eq (a := w.toInt) (b := (0)) (rfl) (rfl)).mpr c151
        refine aw_iload 5 dX8_followChain_157 rfl ?_
        refine aw_iconst (1) dX8_followChain_159 (by decide) ?_
        refine aw_icmp_ne 168 dX8_followChain_160 (by decide) (fun c160 => ?_) (fun c160 => ?_)
        · have d160 := mt (j_eq (a := w.toInt) (b := (1)) (rfl) (rfl)).mpr c160
          refine aw_iload 1 dX8_followChain_168 rfl ?_
          subst hQF
          exact aw_iret rfl dX8_followChain_170 (by decide) (by decide) ⟨_, rfl, _, _, _, _, _, _, _, _, _, f5637, f5638, f5639, f5640, f5641, f5642, k5643, hu1, hv1, huv1, hrc1, hJ1, by rw [hcv, chV_z, chR_2 c151 c160]⟩
        · have d160 := (j_eq (a := w.toInt) (b := (1)) (rfl) (rfl)).mp c160
          refine aw_iload 2 dX8_followChain_163 rfl ?_
          refine aw_goto 170 dX8_followChain_165 (by decide) ?_
          subst hQF
          exact aw_iret rfl dX8_followChain_170 (by decide) (by decide) ⟨_, rfl, _, _, _, _, _, _, _, _, _, f5637, f5638, f5639, f5640, f5641, f5642, k5643, hu1, hv1, huv1, hrc1, hJ1, by rw [hcv, chV_z, chR_1 c151 c160]⟩
      · have d151 := (j_eq (a := w.toInt) (b := (0)) (rfl) (rfl)).mp c151
        refine aw_iload 3 dX8_followChain_154 rfl ?_
        subst hQF
        exact aw_iret rfl dX8_followChain_156 (by decide) (by decide) ⟨_, rfl, _, _, _, _, _, _, _, _, _, f5637, f5638, f5639, f5640, f5641, f5642, k5643, hu1, hv1, huv1, hrc1, hJ1, by rw [hcv, chV_z, chR_0 c151]⟩
    · refine aw_lv [(9, .int 1), (8, .int dv), (7, .int sv), (6, .int ev), (5, .int (nI fr)), (4, .int w), (3, .int (nI y0)), (0, .ref (G.1 + 0))] [0, 1, 2, 3, 4, 5, 6, 7] rfl ?_
      refine aw_iload 0 dX8_followChain_16 rfl ?_
      refine aw_if_le 149 dX8_followChain_18 (by decide) (fun c18 => absurd c18 (by decide)) (fun c18 => ?_)
      refine aw_iload 3 dX8_followChain_21 rfl ?_
      refine aw_bipush (-9) dX8_followChain_23 (by decide) ?_
      refine aw_icmp_eq 149 dX8_followChain_25 (by decide) (fun c25 => ?_) (fun c25 => ?_)
      · have d25 := (j_eq (a := ev.toInt) (b := (-9)) (rfl) (rfl)).mp c25
        refine aw_iload 5 dX8_followChain_149 rfl ?_
        refine aw_if_ne 157 dX8_followChain_151 (by decide) (fun c151 => ?_) (fun c151 => ?_)
        · have d151 := mt (j_eq (a := w.toInt) (b := (0)) (rfl) (rfl)).mpr c151
          refine aw_iload 5 dX8_followChain_157 rfl ?_
          refine aw_iconst (1) dX8_followChain_159 (by decide) ?_
          refine aw_icmp_ne 168 dX8_followChain_160 (by decide) (fun c160 => ?_) (fun c160 => ?_)
          · have d160 := mt (j_eq (a := w.toInt) (b := (1)) (rfl) (rfl)).mpr c160
            refine aw_iload 1 dX8_followChain_168 rfl ?_
            subst hQF
            exact aw_iret rfl dX8_followChain_170 (by decide) (by decide) ⟨_, rfl, _, _, _, _, _, _, _, _, _, f5637, f5638, f5639, f5640, f5641, f5642, k5643, hu1, hv1, huv1, hrc1, hJ1, by rw [hcv, c25, chV_9, chR_2 c151 c160]⟩
          · have d160 := (j_eq (a := w.toInt) (b := (1)) (rfl) (rfl)).mp c160
            refine aw_iload 2 dX8_followChain_163 rfl ?_
            refine aw_goto 170 dX8_followChain_165 (by decide) ?_
            subst hQF
            exact aw_iret rfl dX8_followChain_170 (by decide) (by decide) ⟨_, rfl, _, _, _, _, _, _, _, _, _, f5637, f5638, f5639, f5640, f5641, f5642, k5643, hu1, hv1, huv1, hrc1, hJ1, by rw [hcv, c25, chV_9, chR_1 c151 c160]⟩
        · have d151 := (j_eq (a := w.toInt) (b := (0)) (rfl) (rfl)).mp c151
          refine aw_iload 3 dX8_followChain_154 rfl ?_
          subst hQF
          exact aw_iret rfl dX8_followChain_156 (by decide) (by decide) ⟨_, rfl, _, _, _, _, _, _, _, _, _, f5637, f5638, f5639, f5640, f5641, f5642, k5643, hu1, hv1, huv1, hrc1, hJ1, by rw [hcv, c25, chV_9, chR_0 c151]⟩
      · have d25 := mt (j_eq (a := ev.toInt) (b := (-9)) (rfl) (rfl)).mpr c25
        obtain ⟨q, bq, bqf, rfl⟩ := he.resolve_left c25
        refine aw_iload_n 6 dX8_followChain_28 rfl rfl ?_
        refine aw_iload 0 dX8_followChain_29 rfl ?_
        refine aw_idiv dX8_followChain_31 (by decide) ?_
        refine aw_toe (nI (y0 / 1)) (nv_div (rfl) (rfl) (by omega) (by decide) (by decide)) ?_
        refine aw_bipush (10) dX8_followChain_32 (by decide) ?_
        refine aw_irem dX8_followChain_34 (by decide) ?_
        refine aw_toe (nI ((y0 / 1) % 10)) (nv_rem (rfl) (rfl) (by omega) (by decide) (by decide)) ?_
        refine aw_iconst (1) dX8_followChain_35 (by decide) ?_
        refine aw_isub dX8_followChain_36 ?_
        refine aw_istore [(10, .int ((nI ((y0 / 1) % 10)) - 1)), (9, .int 1), (8, .int dv), (7, .int sv), (6, .int (nI q)), (5, .int (nI fr)), (4, .int w), (3, .int (nI y0)), (0, .ref (G.1 + 0))] dX8_followChain_37 (by decide) rfl ?_
        refine aw_iload 0 dX8_followChain_39 rfl ?_
        refine aw_if_lt 139 dX8_followChain_41 (by decide) (fun c41 => ?_) (fun c41 => ?_)
        · have d41 := (j_lt (a := ((nI ((y0 / 1) % 10)) - 1).toInt) (b := (0)) (rfl) (rfl)).mp c41
          refine aw_iload 1 dX8_followChain_139 rfl ?_
          refine aw_bipush (10) dX8_followChain_141 (by decide) ?_
          refine aw_idiv dX8_followChain_143 (by decide) ?_
          refine aw_toe 0 (by decide) ?_
          refine aw_istore [(9, .int 0), (10, .int ((nI ((y0 / 1) % 10)) - 1)), (8, .int dv), (7, .int sv), (6, .int (nI q)), (5, .int (nI fr)), (4, .int w), (3, .int (nI y0)), (0, .ref (G.1 + 0))] dX8_followChain_144 (by decide) rfl ?_
          refine aw_goto 16 dX8_followChain_146 (by decide) ?_
          refine aw_lv [(9, .int 0), (8, .int dv), (7, .int sv), (6, .int (nI q)), (5, .int (nI fr)), (4, .int w), (3, .int (nI y0)), (0, .ref (G.1 + 0))] [0, 2, 3, 4, 5, 6, 7, 8] rfl ?_
          exact ih5644 0 (nI q) fr dv sv u1 v1 ro1 co1 rc1 lk1 bs1 wy1 nw1 _ (by omega) (by decide) (Or.inr ⟨_, bq, bqf, rfl⟩) (by omega) (hu1) (hv1) (huv1) (hrc1) (hJ1) (hcv.trans (chV_0 (by omega) (by rw [dig_i (by omega)] at d41; show y0 / 1 % 10 = 0; omega))) f5624 f5625 f5626 f5627 f5628 f5629 f5630 f5631 f5632 f5633 f5634 f5635 f5636 f5637 f5638 f5639 f5640 f5641 f5642 (k5643)
        · have d41 := mt (j_lt (a := ((nI ((y0 / 1) % 10)) - 1).toInt) (b := (0)) (rfl) (rfl)).mpr c41
          have g0 : 1 ≤ y0 / 1 % 10 := by rw [dig_i (by omega)] at d41; omega
          rw [dig_e g0]
          obtain ⟨su, wa, pt, ce, pv, gg0, gg1, gg2, hpt, bpv, hfz⟩ := hJ1 (fr * 4 + (y0 / 1 % 10 - 1)) (by omega)
          obtain ⟨P, eP⟩ : ∃ P, P = 13 + 3 * (fr * 4 + (y0 / 1 % 10 - 1)) := ⟨_, rfl⟩
          rw [← eP] at gg0 gg1 gg2
          refine aw_aload_n 8 dX8_followChain_44 rfl rfl ?_
          refine aw_iload 5 dX8_followChain_45 rfl ?_
          refine aw_iload 0 dX8_followChain_47 rfl ?_
          refine aw_eV [.int (nI fr), .int (nI (y0 / 1 % 10 - 1))] [] lX8_124 vX8_bestJoining mX8_bestJoining dX8_followChain_49 (bJ (bv := bv) (J := J) (u := u1) (v := v1) (ro := ro1) (co := co1) (rc := rc1) (lk := lk1) (bs := bs1) (wy := wy1) (nw := nw1) (P := P) (pv := pv) (su := su) (wa := wa) (pt := pt) (ce := ce) (m := m) (se := se) (ye := ye) (fi := fi) (W := W) (Sn := Sn) (Z := Z) (Ro := Ro) (Co := Co) (Ba := Ba) (nb := nb) (sp := sp) (fa := fa) (ve := ve) (a := fr) (b := y0 / 1 % 10 - 1) f5624 f5625 f5626 f5627 f5628 f5629 f5630 f5631 f5632 f5633 f5634 f5635 f5636 f5637 f5638 f5639 f5640 f5641 f5642 gg0 gg1 gg2 hu1 hv1 huv1 hrc1 (by omega) hm hse hfi hye (by omega) (by omega) (by omega) (by omega) hpt eP (hlx fr (by omega) (y0 / 1 % 10 - 1) (by omega)) (hlx3 fr (y0 / 1 % 10 - 1)) (by omega) (by omega) (jX_g hfz (by omega))) f5624 rfl rfl rfl (Nat.le_of_ble_eq_true rfl) (by decide) (by decide) rfl (fun h5659 q5658 => ?_)
          obtain ⟨u15645, v15646, ro15647, co15648, rc15649, lk15650, bs15651, wy15652, nw15653, su15654, wa15655, pt15656, ce15657, f5660, f5661, f5662, f5663, f5664, f5665, f5666, f5667, f5668, k5669, p5670, p5671, p5672, p5673, p5674, p5675⟩ := q5658
          have f5676 := rg2_at k5669 (by omega) f5624
          have f5677 := rg2_at k5669 (by omega) f5625
          have f5678 := rg2_at k5669 (by omega) f5626
          have f5679 := rg2_at k5669 (by omega) f5627
          have f5680 := rg2_at k5669 (by omega) f5628
          have f5681 := rg2_at k5669 (by omega) f5629
          have f5682 := rg2_at k5669 (by omega) f5630
          have f5683 := rg2_at k5669 (by omega) f5631
          have f5684 := rg2_at k5669 (by omega) f5632
          have f5685 := rg2_at k5669 (by omega) f5633
          have f5686 := rg2_at k5669 (by omega) f5634
          have f5687 := rg2_at k5669 (by omega) f5635
          have f5688 := rg2_at k5669 (by omega) f5636
          have hJ2 : iJs G (jX lx fi ve) h5659 := iJs_up hJ1 (k := fr * 4 + (y0 / 1 % 10 - 1)) (by omega) eP (fun j q1 q2 q3 => k5669.2 j (by omega)) f5666 f5667 f5668 p5674 bve (jX_at p5675 (by omega))
          refine aw_astore [(11, .ref (G.1 + P)), (10, .int (nI (y0 / 1 % 10 - 1))), (9, .int 1), (8, .int dv), (7, .int sv), (6, .int (nI q)), (5, .int (nI fr)), (4, .int w), (3, .int (nI y0)), (0, .ref (G.1 + 0))] dX8_followChain_52 (by decide) rfl ?_
          refine aw_aload 0 dX8_followChain_54 rfl ?_
          refine aw_get fX8_131 dX8_followChain_56 f5666 rfl ?_
          refine aw_iload 5 dX8_followChain_59 rfl ?_
          refine aw_iald q (rfl) (by omega) (by decide) dX8_followChain_61 f5667 ?_
          refine aw_istore [(12, .int (pt15656 q)), (11, .ref (G.1 + P)), (10, .int (nI (y0 / 1 % 10 - 1))), (9, .int 1), (8, .int dv), (7, .int sv), (6, .int (nI q)), (5, .int (nI fr)), (4, .int w), (3, .int (nI y0)), (0, .ref (G.1 + 0))] dX8_followChain_62 (by decide) rfl ?_
          refine aw_iload 0 dX8_followChain_64 rfl ?_
          refine aw_bipush (-9) dX8_followChain_66 (by decide) ?_
          refine aw_icmp_eq 131 dX8_followChain_68 (by decide) (fun c68 => ?_) (fun c68 => ?_)
          · have d68 := (j_eq (a := (pt15656 q).toInt) (b := (-9)) (rfl) (rfl)).mp c68
            refine aw_iload 2 dX8_followChain_131 rfl ?_
            refine aw_istore [(5, .int (nI (y0 / 1 % 10 - 1))), (12, .int (pt15656 q)), (11, .ref (G.1 + P)), (10, .int (nI (y0 / 1 % 10 - 1))), (9, .int 1), (8, .int dv), (7, .int sv), (6, .int (nI q)), (4, .int w), (3, .int (nI y0)), (0, .ref (G.1 + 0))] dX8_followChain_133 (by decide) rfl ?_
            refine aw_iload 1 dX8_followChain_135 rfl ?_
            refine aw_istore [(6, .int (pt15656 q)), (5, .int (nI (y0 / 1 % 10 - 1))), (12, .int (pt15656 q)), (11, .ref (G.1 + P)), (10, .int (nI (y0 / 1 % 10 - 1))), (9, .int 1), (8, .int dv), (7, .int sv), (4, .int w), (3, .int (nI y0)), (0, .ref (G.1 + 0))] dX8_followChain_137 (by decide) rfl ?_
            refine aw_iload 5 dX8_followChain_139 rfl ?_
            refine aw_bipush (10) dX8_followChain_141 (by decide) ?_
            refine aw_idiv dX8_followChain_143 (by decide) ?_
            refine aw_toe 0 (by decide) ?_
            refine aw_istore [(9, .int 0), (6, .int (pt15656 q)), (5, .int (nI (y0 / 1 % 10 - 1))), (12, .int (pt15656 q)), (11, .ref (G.1 + P)), (10, .int (nI (y0 / 1 % 10 - 1))), (8, .int dv), (7, .int sv), (4, .int w), (3, .int (nI y0)), (0, .ref (G.1 + 0))] dX8_followChain_144 (by decide) rfl ?_
            refine aw_goto 16 dX8_followChain_146 (by decide) ?_
            refine aw_lv [(9, .int 0), (8, .int dv), (7, .int sv), (6, .int (pt15656 q)), (5, .int (nI (y0 / 1 % 10 - 1))), (4, .int w), (3, .int (nI y0)), (0, .ref (G.1 + 0))] [0, 6, 7, 1, 2, 8, 9, 10] rfl ?_
            exact ih5644 0 (pt15656 q) (y0 / 1 % 10 - 1) dv sv u15645 v15646 ro15647 co15648 rc15649 lk15650 bs15651 wy15652 nw15653 _ (by omega) (by decide) (Or.inl c68) (by omega) (p5670) (p5671) (p5672) (p5673) (hJ2) (by rw [c68]; exact hcv.trans (chV_n (t := y0 / 1 % 10 - 1) (by omega) (by show ¬ y0 / 1 % 10 = 0; omega) rfl ((p5675.2.1 q (by omega)).symm.trans c68))) f5676 f5677 f5678 f5679 f5680 f5681 f5682 f5683 f5684 f5685 f5686 f5687 f5688 f5660 f5661 f5662 f5663 f5664 f5665 (rg2_tr (k5643) (rg2_w2 k5669 (by omega) (by omega)))
          · have d68 := mt (j_eq (a := (pt15656 q).toInt) (b := (-9)) (rfl) (rfl)).mpr c68
            obtain ⟨q2, bq2, eq2⟩ := (p5674 q (by omega)).resolve_left c68
            have fb9 := hfi (y0 / 1 % 10 - 1) (by omega)
            have hP := (p5675.2.1 q (by omega)).symm.trans eq2
            have bq2f := jP_lt (by omega) (by omega) hP
            rw [eq2]
            refine aw_iinc (j := 5) (sv + 1) [(7, .int (sv + 1)), (12, .int (nI q2)), (11, .ref (G.1 + P)), (10, .int (nI (y0 / 1 % 10 - 1))), (9, .int 1), (8, .int dv), (6, .int (nI q)), (5, .int (nI fr)), (4, .int w), (3, .int (nI y0)), (0, .ref (G.1 + 0))] dX8_followChain_71 rfl (by rfl) (by decide) rfl ?_
            refine aw_aload_n 10 dX8_followChain_74 rfl rfl ?_
            refine aw_get fX8_20 dX8_followChain_75 f5676 rfl ?_
            refine aw_iload 7 dX8_followChain_78 rfl ?_
            refine aw_bipush (10) dX8_followChain_80 (by decide) ?_
            refine aw_imul dX8_followChain_82 ?_
            refine aw_toe (nI (fr * 10)) (nv_mul (rfl) (rfl)) ?_
            refine aw_iload 6 dX8_followChain_83 rfl ?_
            refine aw_iadd dX8_followChain_85 ?_
            refine aw_toe (nI ((fr * 10) + q)) (nv_add (rfl) (rfl)) ?_
            refine aw_iload 3 dX8_followChain_86 rfl ?_
            refine aw_bipush (10) dX8_followChain_88 (by decide) ?_
            refine aw_imul dX8_followChain_90 ?_
            refine aw_toe (nI ((y0 / 1 % 10 - 1) * 10)) (nv_mul (rfl) (rfl)) ?_
            refine aw_iload 1 dX8_followChain_91 rfl ?_
            refine aw_iadd dX8_followChain_93 ?_
            refine aw_toe (nI (((y0 / 1 % 10 - 1) * 10) + q2)) (nv_add (rfl) (rfl)) ?_
            refine aw_dV [.int (nI ((fr * 10) + q)), .int (nI (((y0 / 1 % 10 - 1) * 10) + q2))] [] lX8_121 vX1_likeness mX1_likeness dX8_followChain_94 (aX1_likeness (m := m) (se := se) (ye := ye) (fi := fi) (W := W) (Sn := Sn) (Z := Z) (Ro := Ro) (Co := Co) (Ba := Ba) (nb := nb) (sp := sp) (fa := fa) (ve := ve) (e := (fr * 10) + q) (f := ((y0 / 1 % 10 - 1) * 10) + q2) f5677 f5678 f5679 f5680 f5681 f5682 f5683 f5684 f5685 f5686 f5687 hm hse hfi hye (by omega) (by omega)) f5677 rfl rfl rfl (Nat.le_of_ble_eq_true rfl) (by decide) (by decide) rfl ?_
            refine aw_toe (nI (lx fr (y0 / 1 % 10 - 1) q q2)) (hlx fr (by omega) (y0 / 1 % 10 - 1) (by omega) q (by omega) q2 (by omega)) ?_
            refine aw_istore [(13, .int (nI (lx fr (y0 / 1 % 10 - 1) q q2))), (7, .int (sv + 1)), (12, .int (nI q2)), (11, .ref (G.1 + P)), (10, .int (nI (y0 / 1 % 10 - 1))), (9, .int 1), (8, .int dv), (6, .int (nI q)), (5, .int (nI fr)), (4, .int w), (3, .int (nI y0)), (0, .ref (G.1 + 0))] dX8_followChain_97 (by decide) rfl ?_
            refine aw_iload 6 dX8_followChain_99 rfl ?_
            refine aw_iconst (0) dX8_followChain_101 (by decide) ?_
            refine aw_bipush (100) dX8_followChain_102 (by decide) ?_
            refine aw_iload 0 dX8_followChain_104 rfl ?_
            refine aw_isub dX8_followChain_106 ?_
            refine aw_mmax lX8_251 dX8_followChain_107 (Nat.le_of_ble_eq_true rfl) (by decide) (by decide) ?_
            refine aw_toe (chX (nI (lx fr (y0 / 1 % 10 - 1) q q2))) (rfl) ?_
            refine aw_aload 3 dX8_followChain_110 rfl ?_
            refine aw_get fX8_137 dX8_followChain_112 f5666 rfl ?_
            refine aw_iload 7 dX8_followChain_115 rfl ?_
            refine aw_zald q (rfl) (by omega) (by decide) dX8_followChain_117 f5668 ?_
            refine aw_if_eq 125 dX8_followChain_118 (by decide) (fun c118 => ?_) (fun c118 => ?_)
            · have d118 := (j_eq (a := (ce15657 q).toInt) (b := (0)) (rfl) (rfl)).mp c118
              refine aw_bipush (50) dX8_followChain_125 (by decide) ?_
              refine aw_iadd dX8_followChain_127 ?_
              refine aw_iadd dX8_followChain_128 ?_
              refine aw_istore [(8, .int (dv + ((chX (nI (lx fr (y0 / 1 % 10 - 1) q q2))) + 50))), (13, .int (nI (lx fr (y0 / 1 % 10 - 1) q q2))), (7, .int (sv + 1)), (12, .int (nI q2)), (11, .ref (G.1 + P)), (10, .int (nI (y0 / 1 % 10 - 1))), (9, .int 1), (6, .int (nI q)), (5, .int (nI fr)), (4, .int w), (3, .int (nI y0)), (0, .ref (G.1 + 0))] dX8_followChain_129 (by decide) rfl ?_
              refine aw_iload 5 dX8_followChain_131 rfl ?_
              refine aw_istore [(5, .int (nI (y0 / 1 % 10 - 1))), (8, .int (dv + ((chX (nI (lx fr (y0 / 1 % 10 - 1) q q2))) + 50))), (13, .int (nI (lx fr (y0 / 1 % 10 - 1) q q2))), (7, .int (sv + 1)), (12, .int (nI q2)), (11, .ref (G.1 + P)), (10, .int (nI (y0 / 1 % 10 - 1))), (9, .int 1), (6, .int (nI q)), (4, .int w), (3, .int (nI y0)), (0, .ref (G.1 + 0))] dX8_followChain_133 (by decide) rfl ?_
              refine aw_iload 4 dX8_followChain_135 rfl ?_
              refine aw_istore [(6, .int (nI q2)), (5, .int (nI (y0 / 1 % 10 - 1))), (8, .int (dv + ((chX (nI (lx fr (y0 / 1 % 10 - 1) q q2))) + 50))), (13, .int (nI (lx fr (y0 / 1 % 10 - 1) q q2))), (7, .int (sv + 1)), (12, .int (nI q2)), (11, .ref (G.1 + P)), (10, .int (nI (y0 / 1 % 10 - 1))), (9, .int 1), (4, .int w), (3, .int (nI y0)), (0, .ref (G.1 + 0))] dX8_followChain_137 (by decide) rfl ?_
              refine aw_iload 8 dX8_followChain_139 rfl ?_
              refine aw_bipush (10) dX8_followChain_141 (by decide) ?_
              refine aw_idiv dX8_followChain_143 (by decide) ?_
              refine aw_toe 0 (by decide) ?_
              refine aw_istore [(9, .int 0), (6, .int (nI q2)), (5, .int (nI (y0 / 1 % 10 - 1))), (8, .int (dv + ((chX (nI (lx fr (y0 / 1 % 10 - 1) q q2))) + 50))), (13, .int (nI (lx fr (y0 / 1 % 10 - 1) q q2))), (7, .int (sv + 1)), (12, .int (nI q2)), (11, .ref (G.1 + P)), (10, .int (nI (y0 / 1 % 10 - 1))), (4, .int w), (3, .int (nI y0)), (0, .ref (G.1 + 0))] dX8_followChain_144 (by decide) rfl ?_
              refine aw_goto 16 dX8_followChain_146 (by decide) ?_
              refine aw_lv [(9, .int 0), (8, .int (dv + ((chX (nI (lx fr (y0 / 1 % 10 - 1) q q2))) + 50))), (7, .int (sv + 1)), (6, .int (nI q2)), (5, .int (nI (y0 / 1 % 10 - 1))), (4, .int w), (3, .int (nI y0)), (0, .ref (G.1 + 0))] [0, 3, 5, 1, 2, 9, 10, 11] rfl ?_
              exact ih5644 0 (nI q2) (y0 / 1 % 10 - 1) (dv + ((chX (nI (lx fr (y0 / 1 % 10 - 1) q q2))) + 50)) (sv + 1) u15645 v15646 ro15647 co15648 rc15649 lk15650 bs15651 wy15652 nw15653 _ (by omega) (by decide) (Or.inr ⟨_, bq2, bq2f, rfl⟩) (by omega) (p5670) (p5671) (p5672) (p5673) (hJ2) (hcv.trans (chV_s (t := y0 / 1 % 10 - 1) (by omega) (by omega) (by show ¬ y0 / 1 % 10 = 0; omega) rfl hP (cc_0 (p5675.2.2.2 q (by omega)) c118))) f5676 f5677 f5678 f5679 f5680 f5681 f5682 f5683 f5684 f5685 f5686 f5687 f5688 f5660 f5661 f5662 f5663 f5664 f5665 (rg2_tr (k5643) (rg2_w2 k5669 (by omega) (by omega)))
            · have d118 := mt (j_eq (a := (ce15657 q).toInt) (b := (0)) (rfl) (rfl)).mpr c118
              refine aw_iconst (0) dX8_followChain_121 (by decide) ?_
              refine aw_goto 127 dX8_followChain_122 (by decide) ?_
              refine aw_iadd dX8_followChain_127 ?_
              refine aw_iadd dX8_followChain_128 ?_
              refine aw_istore [(8, .int (dv + ((chX (nI (lx fr (y0 / 1 % 10 - 1) q q2))) + 0))), (13, .int (nI (lx fr (y0 / 1 % 10 - 1) q q2))), (7, .int (sv + 1)), (12, .int (nI q2)), (11, .ref (G.1 + P)), (10, .int (nI (y0 / 1 % 10 - 1))), (9, .int 1), (6, .int (nI q)), (5, .int (nI fr)), (4, .int w), (3, .int (nI y0)), (0, .ref (G.1 + 0))] dX8_followChain_129 (by decide) rfl ?_
              refine aw_iload 5 dX8_followChain_131 rfl ?_
              refine aw_istore [(5, .int (nI (y0 / 1 % 10 - 1))), (8, .int (dv + ((chX (nI (lx fr (y0 / 1 % 10 - 1) q q2))) + 0))), (13, .int (nI (lx fr (y0 / 1 % 10 - 1) q q2))), (7, .int (sv + 1)), (12, .int (nI q2)), (11, .ref (G.1 + P)), (10, .int (nI (y0 / 1 % 10 - 1))), (9, .int 1), (6, .int (nI q)), (4, .int w), (3, .int (nI y0)), (0, .ref (G.1 + 0))] dX8_followChain_133 (by decide) rfl ?_
              refine aw_iload 4 dX8_followChain_135 rfl ?_
              refine aw_istore [(6, .int (nI q2)), (5, .int (nI (y0 / 1 % 10 - 1))), (8, .int (dv + ((chX (nI (lx fr (y0 / 1 % 10 - 1) q q2))) + 0))), (13, .int (nI (lx fr (y0 / 1 % 10 - 1) q q2))), (7, .int (sv + 1)), (12, .int (nI q2)), (11, .ref (G.1 + P)), (10, .int (nI (y0 / 1 % 10 - 1))), (9, .int 1), (4, .int w), (3, .int (nI y0)), (0, .ref (G.1 + 0))] dX8_followChain_137 (by decide) rfl ?_
              refine aw_iload 8 dX8_followChain_139 rfl ?_
              refine aw_bipush (10) dX8_followChain_141 (by decide) ?_
              refine aw_idiv dX8_followChain_143 (by decide) ?_
              refine aw_toe 0 (by decide) ?_
              refine aw_istore [(9, .int 0), (6, .int (nI q2)), (5, .int (nI (y0 / 1 % 10 - 1))), (8, .int (dv + ((chX (nI (lx fr (y0 / 1 % 10 - 1) q q2))) + 0))), (13, .int (nI (lx fr (y0 / 1 % 10 - 1) q q2))), (7, .int (sv + 1)), (12, .int (nI q2)), (11, .ref (G.1 + P)), (10, .int (nI (y0 / 1 % 10 - 1))), (4, .int w), (3, .int (nI y0)), (0, .ref (G.1 + 0))] dX8_followChain_144 (by decide) rfl ?_
              refine aw_goto 16 dX8_followChain_146 (by decide) ?_
              refine aw_lv [(9, .int 0), (8, .int (dv + ((chX (nI (lx fr (y0 / 1 % 10 - 1) q q2))) + 0))), (7, .int (sv + 1)), (6, .int (nI q2)), (5, .int (nI (y0 / 1 % 10 - 1))), (4, .int w), (3, .int (nI y0)), (0, .ref (G.1 + 0))] [0, 3, 5, 1, 2, 9, 10, 11] rfl ?_
              exact ih5644 0 (nI q2) (y0 / 1 % 10 - 1) (dv + ((chX (nI (lx fr (y0 / 1 % 10 - 1) q q2))) + 0)) (sv + 1) u15645 v15646 ro15647 co15648 rc15649 lk15650 bs15651 wy15652 nw15653 _ (by omega) (by decide) (Or.inr ⟨_, bq2, bq2f, rfl⟩) (by omega) (p5670) (p5671) (p5672) (p5673) (hJ2) (hcv.trans (chV_s (t := y0 / 1 % 10 - 1) (by omega) (by omega) (by show ¬ y0 / 1 % 10 = 0; omega) rfl hP (cc_1 (p5675.2.2.2 q (by omega)) c118))) f5676 f5677 f5678 f5679 f5680 f5681 f5682 f5683 f5684 f5685 f5686 f5687 f5688 f5660 f5661 f5662 f5663 f5664 f5665 (rg2_tr (k5643) (rg2_w2 k5669 (by omega) (by omega)))
    · refine aw_lv [(9, .int 10), (8, .int dv), (7, .int sv), (6, .int ev), (5, .int (nI fr)), (4, .int w), (3, .int (nI y0)), (0, .ref (G.1 + 0))] [0, 1, 2, 3, 4, 5, 6, 7] rfl ?_
      refine aw_iload 0 dX8_followChain_16 rfl ?_
      refine aw_if_le 149 dX8_followChain_18 (by decide) (fun c18 => absurd c18 (by decide)) (fun c18 => ?_)
      refine aw_iload 3 dX8_followChain_21 rfl ?_
      refine aw_bipush (-9) dX8_followChain_23 (by decide) ?_
      refine aw_icmp_eq 149 dX8_followChain_25 (by decide) (fun c25 => ?_) (fun c25 => ?_)
      · have d25 := (j_eq (a := ev.toInt) (b := (-9)) (rfl) (rfl)).mp c25
        refine aw_iload 5 dX8_followChain_149 rfl ?_
        refine aw_if_ne 157 dX8_followChain_151 (by decide) (fun c151 => ?_) (fun c151 => ?_)
        · have d151 := mt (j_eq (a := w.toInt) (b := (0)) (rfl) (rfl)).mpr c151
          refine aw_iload 5 dX8_followChain_157 rfl ?_
          refine aw_iconst (1) dX8_followChain_159 (by decide) ?_
          refine aw_icmp_ne 168 dX8_followChain_160 (by decide) (fun c160 => ?_) (fun c160 => ?_)
          · have d160 := mt (j_eq (a := w.toInt) (b := (1)) (rfl) (rfl)).mpr c160
            refine aw_iload 1 dX8_followChain_168 rfl ?_
            subst hQF
            exact aw_iret rfl dX8_followChain_170 (by decide) (by decide) ⟨_, rfl, _, _, _, _, _, _, _, _, _, f5637, f5638, f5639, f5640, f5641, f5642, k5643, hu1, hv1, huv1, hrc1, hJ1, by rw [hcv, c25, chV_9, chR_2 c151 c160]⟩
          · have d160 := (j_eq (a := w.toInt) (b := (1)) (rfl) (rfl)).mp c160
            refine aw_iload 2 dX8_followChain_163 rfl ?_
            refine aw_goto 170 dX8_followChain_165 (by decide) ?_
            subst hQF
            exact aw_iret rfl dX8_followChain_170 (by decide) (by decide) ⟨_, rfl, _, _, _, _, _, _, _, _, _, f5637, f5638, f5639, f5640, f5641, f5642, k5643, hu1, hv1, huv1, hrc1, hJ1, by rw [hcv, c25, chV_9, chR_1 c151 c160]⟩
        · have d151 := (j_eq (a := w.toInt) (b := (0)) (rfl) (rfl)).mp c151
          refine aw_iload 3 dX8_followChain_154 rfl ?_
          subst hQF
          exact aw_iret rfl dX8_followChain_156 (by decide) (by decide) ⟨_, rfl, _, _, _, _, _, _, _, _, _, f5637, f5638, f5639, f5640, f5641, f5642, k5643, hu1, hv1, huv1, hrc1, hJ1, by rw [hcv, c25, chV_9, chR_0 c151]⟩
      · have d25 := mt (j_eq (a := ev.toInt) (b := (-9)) (rfl) (rfl)).mpr c25
        obtain ⟨q, bq, bqf, rfl⟩ := he.resolve_left c25
        refine aw_iload_n 6 dX8_followChain_28 rfl rfl ?_
        refine aw_iload 0 dX8_followChain_29 rfl ?_
        refine aw_idiv dX8_followChain_31 (by decide) ?_
        refine aw_toe (nI (y0 / 10)) (nv_div (rfl) (rfl) (by omega) (by decide) (by decide)) ?_
        refine aw_bipush (10) dX8_followChain_32 (by decide) ?_
        refine aw_irem dX8_followChain_34 (by decide) ?_
        refine aw_toe (nI ((y0 / 10) % 10)) (nv_rem (rfl) (rfl) (by omega) (by decide) (by decide)) ?_
        refine aw_iconst (1) dX8_followChain_35 (by decide) ?_
        refine aw_isub dX8_followChain_36 ?_
        refine aw_istore [(10, .int ((nI ((y0 / 10) % 10)) - 1)), (9, .int 10), (8, .int dv), (7, .int sv), (6, .int (nI q)), (5, .int (nI fr)), (4, .int w), (3, .int (nI y0)), (0, .ref (G.1 + 0))] dX8_followChain_37 (by decide) rfl ?_
        refine aw_iload 0 dX8_followChain_39 rfl ?_
        refine aw_if_lt 139 dX8_followChain_41 (by decide) (fun c41 => ?_) (fun c41 => ?_)
        · have d41 := (j_lt (a := ((nI ((y0 / 10) % 10)) - 1).toInt) (b := (0)) (rfl) (rfl)).mp c41
          refine aw_iload 1 dX8_followChain_139 rfl ?_
          refine aw_bipush (10) dX8_followChain_141 (by decide) ?_
          refine aw_idiv dX8_followChain_143 (by decide) ?_
          refine aw_toe 1 (by decide) ?_
          refine aw_istore [(9, .int 1), (10, .int ((nI ((y0 / 10) % 10)) - 1)), (8, .int dv), (7, .int sv), (6, .int (nI q)), (5, .int (nI fr)), (4, .int w), (3, .int (nI y0)), (0, .ref (G.1 + 0))] dX8_followChain_144 (by decide) rfl ?_
          refine aw_goto 16 dX8_followChain_146 (by decide) ?_
          refine aw_lv [(9, .int 1), (8, .int dv), (7, .int sv), (6, .int (nI q)), (5, .int (nI fr)), (4, .int w), (3, .int (nI y0)), (0, .ref (G.1 + 0))] [0, 2, 3, 4, 5, 6, 7, 8] rfl ?_
          exact ih5644 1 (nI q) fr dv sv u1 v1 ro1 co1 rc1 lk1 bs1 wy1 nw1 _ (by omega) (by decide) (Or.inr ⟨_, bq, bqf, rfl⟩) (by omega) (hu1) (hv1) (huv1) (hrc1) (hJ1) (hcv.trans (chV_0 (by omega) (by rw [dig_i (by omega)] at d41; show y0 / 10 % 10 = 0; omega))) f5624 f5625 f5626 f5627 f5628 f5629 f5630 f5631 f5632 f5633 f5634 f5635 f5636 f5637 f5638 f5639 f5640 f5641 f5642 (k5643)
        · have d41 := mt (j_lt (a := ((nI ((y0 / 10) % 10)) - 1).toInt) (b := (0)) (rfl) (rfl)).mpr c41
          have g0 : 1 ≤ y0 / 10 % 10 := by rw [dig_i (by omega)] at d41; omega
          rw [dig_e g0]
          obtain ⟨su, wa, pt, ce, pv, gg0, gg1, gg2, hpt, bpv, hfz⟩ := hJ1 (fr * 4 + (y0 / 10 % 10 - 1)) (by omega)
          obtain ⟨P, eP⟩ : ∃ P, P = 13 + 3 * (fr * 4 + (y0 / 10 % 10 - 1)) := ⟨_, rfl⟩
          rw [← eP] at gg0 gg1 gg2
          refine aw_aload_n 8 dX8_followChain_44 rfl rfl ?_
          refine aw_iload 5 dX8_followChain_45 rfl ?_
          refine aw_iload 0 dX8_followChain_47 rfl ?_
          refine aw_eV [.int (nI fr), .int (nI (y0 / 10 % 10 - 1))] [] lX8_124 vX8_bestJoining mX8_bestJoining dX8_followChain_49 (bJ (bv := bv) (J := J) (u := u1) (v := v1) (ro := ro1) (co := co1) (rc := rc1) (lk := lk1) (bs := bs1) (wy := wy1) (nw := nw1) (P := P) (pv := pv) (su := su) (wa := wa) (pt := pt) (ce := ce) (m := m) (se := se) (ye := ye) (fi := fi) (W := W) (Sn := Sn) (Z := Z) (Ro := Ro) (Co := Co) (Ba := Ba) (nb := nb) (sp := sp) (fa := fa) (ve := ve) (a := fr) (b := y0 / 10 % 10 - 1) f5624 f5625 f5626 f5627 f5628 f5629 f5630 f5631 f5632 f5633 f5634 f5635 f5636 f5637 f5638 f5639 f5640 f5641 f5642 gg0 gg1 gg2 hu1 hv1 huv1 hrc1 (by omega) hm hse hfi hye (by omega) (by omega) (by omega) (by omega) hpt eP (hlx fr (by omega) (y0 / 10 % 10 - 1) (by omega)) (hlx3 fr (y0 / 10 % 10 - 1)) (by omega) (by omega) (jX_g hfz (by omega))) f5624 rfl rfl rfl (Nat.le_of_ble_eq_true rfl) (by decide) (by decide) rfl (fun h5703 q5702 => ?_)
          obtain ⟨u15689, v15690, ro15691, co15692, rc15693, lk15694, bs15695, wy15696, nw15697, su15698, wa15699, pt15700, ce15701, f5704, f5705, f5706, f5707, f5708, f5709, f5710, f5711, f5712, k5713, p5714, p5715, p5716, p5717, p5718, p5719⟩ := q5702
          have f5720 := rg2_at k5713 (by omega) f5624
          have f5721 := rg2_at k5713 (by omega) f5625
          have f5722 := rg2_at k5713 (by omega) f5626
          have f5723 := rg2_at k5713 (by omega) f5627
          have f5724 := rg2_at k5713 (by omega) f5628
          have f5725 := rg2_at k5713 (by omega) f5629
          have f5726 := rg2_at k5713 (by omega) f5630
          have f5727 := rg2_at k5713 (by omega) f5631
          have f5728 := rg2_at k5713 (by omega) f5632
          have f5729 := rg2_at k5713 (by omega) f5633
          have f5730 := rg2_at k5713 (by omega) f5634
          have f5731 := rg2_at k5713 (by omega) f5635
          have f5732 := rg2_at k5713 (by omega) f5636
          have hJ2 : iJs G (jX lx fi ve) h5703 := iJs_up hJ1 (k := fr * 4 + (y0 / 10 % 10 - 1)) (by omega) eP (fun j q1 q2 q3 => k5713.2 j (by omega)) f5710 f5711 f5712 p5718 bve (jX_at p5719 (by omega))
          refine aw_astore [(11, .ref (G.1 + P)), (10, .int (nI (y0 / 10 % 10 - 1))), (9, .int 10), (8, .int dv), (7, .int sv), (6, .int (nI q)), (5, .int (nI fr)), (4, .int w), (3, .int (nI y0)), (0, .ref (G.1 + 0))] dX8_followChain_52 (by decide) rfl ?_
          refine aw_aload 0 dX8_followChain_54 rfl ?_
          refine aw_get fX8_131 dX8_followChain_56 f5710 rfl ?_
          refine aw_iload 5 dX8_followChain_59 rfl ?_
          refine aw_iald q (rfl) (by omega) (by decide) dX8_followChain_61 f5711 ?_
          refine aw_istore [(12, .int (pt15700 q)), (11, .ref (G.1 + P)), (10, .int (nI (y0 / 10 % 10 - 1))), (9, .int 10), (8, .int dv), (7, .int sv), (6, .int (nI q)), (5, .int (nI fr)), (4, .int w), (3, .int (nI y0)), (0, .ref (G.1 + 0))] dX8_followChain_62 (by decide) rfl ?_
          refine aw_iload 0 dX8_followChain_64 rfl ?_
          refine aw_bipush (-9) dX8_followChain_66 (by decide) ?_
          refine aw_icmp_eq 131 dX8_followChain_68 (by decide) (fun c68 => ?_) (fun c68 => ?_)
          · have d68 := (j_eq (a := (pt15700 q).toInt) (b := (-9)) (rfl) (rfl)).mp c68
            refine aw_iload 2 dX8_followChain_131 rfl ?_
            refine aw_istore [(5, .int (nI (y0 / 10 % 10 - 1))), (12, .int (pt15700 q)), (11, .ref (G.1 + P)), (10, .int (nI (y0 / 10 % 10 - 1))), (9, .int 10), (8, .int dv), (7, .int sv), (6, .int (nI q)), (4, .int w), (3, .int (nI y0)), (0, .ref (G.1 + 0))] dX8_followChain_133 (by decide) rfl ?_
            refine aw_iload 1 dX8_followChain_135 rfl ?_
            refine aw_istore [(6, .int (pt15700 q)), (5, .int (nI (y0 / 10 % 10 - 1))), (12, .int (pt15700 q)), (11, .ref (G.1 + P)), (10, .int (nI (y0 / 10 % 10 - 1))), (9, .int 10), (8, .int dv), (7, .int sv), (4, .int w), (3, .int (nI y0)), (0, .ref (G.1 + 0))] dX8_followChain_137 (by decide) rfl ?_
            refine aw_iload 5 dX8_followChain_139 rfl ?_
            refine aw_bipush (10) dX8_followChain_141 (by decide) ?_
            refine aw_idiv dX8_followChain_143 (by decide) ?_
            refine aw_toe 1 (by decide) ?_
            refine aw_istore [(9, .int 1), (6, .int (pt15700 q)), (5, .int (nI (y0 / 10 % 10 - 1))), (12, .int (pt15700 q)), (11, .ref (G.1 + P)), (10, .int (nI (y0 / 10 % 10 - 1))), (8, .int dv), (7, .int sv), (4, .int w), (3, .int (nI y0)), (0, .ref (G.1 + 0))] dX8_followChain_144 (by decide) rfl ?_
            refine aw_goto 16 dX8_followChain_146 (by decide) ?_
            refine aw_lv [(9, .int 1), (8, .int dv), (7, .int sv), (6, .int (pt15700 q)), (5, .int (nI (y0 / 10 % 10 - 1))), (4, .int w), (3, .int (nI y0)), (0, .ref (G.1 + 0))] [0, 6, 7, 1, 2, 8, 9, 10] rfl ?_
            exact ih5644 1 (pt15700 q) (y0 / 10 % 10 - 1) dv sv u15689 v15690 ro15691 co15692 rc15693 lk15694 bs15695 wy15696 nw15697 _ (by omega) (by decide) (Or.inl c68) (by omega) (p5714) (p5715) (p5716) (p5717) (hJ2) (by rw [c68]; exact hcv.trans (chV_n (t := y0 / 10 % 10 - 1) (by omega) (by show ¬ y0 / 10 % 10 = 0; omega) rfl ((p5719.2.1 q (by omega)).symm.trans c68))) f5720 f5721 f5722 f5723 f5724 f5725 f5726 f5727 f5728 f5729 f5730 f5731 f5732 f5704 f5705 f5706 f5707 f5708 f5709 (rg2_tr (k5643) (rg2_w2 k5713 (by omega) (by omega)))
          · have d68 := mt (j_eq (a := (pt15700 q).toInt) (b := (-9)) (rfl) (rfl)).mpr c68
            obtain ⟨q2, bq2, eq2⟩ := (p5718 q (by omega)).resolve_left c68
            have fb9 := hfi (y0 / 10 % 10 - 1) (by omega)
            have hP := (p5719.2.1 q (by omega)).symm.trans eq2
            have bq2f := jP_lt (by omega) (by omega) hP
            rw [eq2]
            refine aw_iinc (j := 5) (sv + 1) [(7, .int (sv + 1)), (12, .int (nI q2)), (11, .ref (G.1 + P)), (10, .int (nI (y0 / 10 % 10 - 1))), (9, .int 10), (8, .int dv), (6, .int (nI q)), (5, .int (nI fr)), (4, .int w), (3, .int (nI y0)), (0, .ref (G.1 + 0))] dX8_followChain_71 rfl (by rfl) (by decide) rfl ?_
            refine aw_aload_n 10 dX8_followChain_74 rfl rfl ?_
            refine aw_get fX8_20 dX8_followChain_75 f5720 rfl ?_
            refine aw_iload 7 dX8_followChain_78 rfl ?_
            refine aw_bipush (10) dX8_followChain_80 (by decide) ?_
            refine aw_imul dX8_followChain_82 ?_
            refine aw_toe (nI (fr * 10)) (nv_mul (rfl) (rfl)) ?_
            refine aw_iload 6 dX8_followChain_83 rfl ?_
            refine aw_iadd dX8_followChain_85 ?_
            refine aw_toe (nI ((fr * 10) + q)) (nv_add (rfl) (rfl)) ?_
            refine aw_iload 3 dX8_followChain_86 rfl ?_
            refine aw_bipush (10) dX8_followChain_88 (by decide) ?_
            refine aw_imul dX8_followChain_90 ?_
            refine aw_toe (nI ((y0 / 10 % 10 - 1) * 10)) (nv_mul (rfl) (rfl)) ?_
            refine aw_iload 1 dX8_followChain_91 rfl ?_
            refine aw_iadd dX8_followChain_93 ?_
            refine aw_toe (nI (((y0 / 10 % 10 - 1) * 10) + q2)) (nv_add (rfl) (rfl)) ?_
            refine aw_dV [.int (nI ((fr * 10) + q)), .int (nI (((y0 / 10 % 10 - 1) * 10) + q2))] [] lX8_121 vX1_likeness mX1_likeness dX8_followChain_94 (aX1_likeness (m := m) (se := se) (ye := ye) (fi := fi) (W := W) (Sn := Sn) (Z := Z) (Ro := Ro) (Co := Co) (Ba := Ba) (nb := nb) (sp := sp) (fa := fa) (ve := ve) (e := (fr * 10) + q) (f := ((y0 / 10 % 10 - 1) * 10) + q2) f5721 f5722 f5723 f5724 f5725 f5726 f5727 f5728 f5729 f5730 f5731 hm hse hfi hye (by omega) (by omega)) f5721 rfl rfl rfl (Nat.le_of_ble_eq_true rfl) (by decide) (by decide) rfl ?_
            refine aw_toe (nI (lx fr (y0 / 10 % 10 - 1) q q2)) (hlx fr (by omega) (y0 / 10 % 10 - 1) (by omega) q (by omega) q2 (by omega)) ?_
            refine aw_istore [(13, .int (nI (lx fr (y0 / 10 % 10 - 1) q q2))), (7, .int (sv + 1)), (12, .int (nI q2)), (11, .ref (G.1 + P)), (10, .int (nI (y0 / 10 % 10 - 1))), (9, .int 10), (8, .int dv), (6, .int (nI q)), (5, .int (nI fr)), (4, .int w), (3, .int (nI y0)), (0, .ref (G.1 + 0))] dX8_followChain_97 (by decide) rfl ?_
            refine aw_iload 6 dX8_followChain_99 rfl ?_
            refine aw_iconst (0) dX8_followChain_101 (by decide) ?_
            refine aw_bipush (100) dX8_followChain_102 (by decide) ?_
            refine aw_iload 0 dX8_followChain_104 rfl ?_
            refine aw_isub dX8_followChain_106 ?_
            refine aw_mmax lX8_251 dX8_followChain_107 (Nat.le_of_ble_eq_true rfl) (by decide) (by decide) ?_
            refine aw_toe (chX (nI (lx fr (y0 / 10 % 10 - 1) q q2))) (rfl) ?_
            refine aw_aload 3 dX8_followChain_110 rfl ?_
            refine aw_get fX8_137 dX8_followChain_112 f5710 rfl ?_
            refine aw_iload 7 dX8_followChain_115 rfl ?_
            refine aw_zald q (rfl) (by omega) (by decide) dX8_followChain_117 f5712 ?_
            refine aw_if_eq 125 dX8_followChain_118 (by decide) (fun c118 => ?_) (fun c118 => ?_)
            · have d118 := (j_eq (a := (ce15701 q).toInt) (b := (0)) (rfl) (rfl)).mp c118
              refine aw_bipush (50) dX8_followChain_125 (by decide) ?_
              refine aw_iadd dX8_followChain_127 ?_
              refine aw_iadd dX8_followChain_128 ?_
              refine aw_istore [(8, .int (dv + ((chX (nI (lx fr (y0 / 10 % 10 - 1) q q2))) + 50))), (13, .int (nI (lx fr (y0 / 10 % 10 - 1) q q2))), (7, .int (sv + 1)), (12, .int (nI q2)), (11, .ref (G.1 + P)), (10, .int (nI (y0 / 10 % 10 - 1))), (9, .int 10), (6, .int (nI q)), (5, .int (nI fr)), (4, .int w), (3, .int (nI y0)), (0, .ref (G.1 + 0))] dX8_followChain_129 (by decide) rfl ?_
              refine aw_iload 5 dX8_followChain_131 rfl ?_
              refine aw_istore [(5, .int (nI (y0 / 10 % 10 - 1))), (8, .int (dv + ((chX (nI (lx fr (y0 / 10 % 10 - 1) q q2))) + 50))), (13, .int (nI (lx fr (y0 / 10 % 10 - 1) q q2))), (7, .int (sv + 1)), (12, .int (nI q2)), (11, .ref (G.1 + P)), (10, .int (nI (y0 / 10 % 10 - 1))), (9, .int 10), (6, .int (nI q)), (4, .int w), (3, .int (nI y0)), (0, .ref (G.1 + 0))] dX8_followChain_133 (by decide) rfl ?_
              refine aw_iload 4 dX8_followChain_135 rfl ?_
              refine aw_istore [(6, .int (nI q2)), (5, .int (nI (y0 / 10 % 10 - 1))), (8, .int (dv + ((chX (nI (lx fr (y0 / 10 % 10 - 1) q q2))) + 50))), (13, .int (nI (lx fr (y0 / 10 % 10 - 1) q q2))), (7, .int (sv + 1)), (12, .int (nI q2)), (11, .ref (G.1 + P)), (10, .int (nI (y0 / 10 % 10 - 1))), (9, .int 10), (4, .int w), (3, .int (nI y0)), (0, .ref (G.1 + 0))] dX8_followChain_137 (by decide) rfl ?_
              refine aw_iload 8 dX8_followChain_139 rfl ?_
              refine aw_bipush (10) dX8_followChain_141 (by decide) ?_
              refine aw_idiv dX8_followChain_143 (by decide) ?_
              refine aw_toe 1 (by decide) ?_
              refine aw_istore [(9, .int 1), (6, .int (nI q2)), (5, .int (nI (y0 / 10 % 10 - 1))), (8, .int (dv + ((chX (nI (lx fr (y0 / 10 % 10 - 1) q q2))) + 50))), (13, .int (nI (lx fr (y0 / 10 % 10 - 1) q q2))), (7, .int (sv + 1)), (12, .int (nI q2)), (11, .ref (G.1 + P)), (10, .int (nI (y0 / 10 % 10 - 1))), (4, .int w), (3, .int (nI y0)), (0, .ref (G.1 + 0))] dX8_followChain_144 (by decide) rfl ?_
              refine aw_goto 16 dX8_followChain_146 (by decide) ?_
              refine aw_lv [(9, .int 1), (8, .int (dv + ((chX (nI (lx fr (y0 / 10 % 10 - 1) q q2))) + 50))), (7, .int (sv + 1)), (6, .int (nI q2)), (5, .int (nI (y0 / 10 % 10 - 1))), (4, .int w), (3, .int (nI y0)), (0, .ref (G.1 + 0))] [0, 3, 5, 1, 2, 9, 10, 11] rfl ?_
              exact ih5644 1 (nI q2) (y0 / 10 % 10 - 1) (dv + ((chX (nI (lx fr (y0 / 10 % 10 - 1) q q2))) + 50)) (sv + 1) u15689 v15690 ro15691 co15692 rc15693 lk15694 bs15695 wy15696 nw15697 _ (by omega) (by decide) (Or.inr ⟨_, bq2, bq2f, rfl⟩) (by omega) (p5714) (p5715) (p5716) (p5717) (hJ2) (hcv.trans (chV_s (t := y0 / 10 % 10 - 1) (by omega) (by omega) (by show ¬ y0 / 10 % 10 = 0; omega) rfl hP (cc_0 (p5719.2.2.2 q (by omega)) c118))) f5720 f5721 f5722 f5723 f5724 f5725 f5726 f5727 f5728 f5729 f5730 f5731 f5732 f5704 f5705 f5706 f5707 f5708 f5709 (rg2_tr (k5643) (rg2_w2 k5713 (by omega) (by omega)))
            · have d118 := mt (j_eq (a := (ce15701 q).toInt) (b := (0)) (rfl) (rfl)).mpr c118
              refine aw_iconst (0) dX8_followChain_121 (by decide) ?_
              refine aw_goto 127 dX8_followChain_122 (by decide) ?_
              refine aw_iadd dX8_followChain_127 ?_
              refine aw_iadd dX8_followChain_128 ?_
              refine aw_istore [(8, .int (dv + ((chX (nI (lx fr (y0 / 10 % 10 - 1) q q2))) + 0))), (13, .int (nI (lx fr (y0 / 10 % 10 - 1) q q2))), (7, .int (sv + 1)), (12, .int (nI q2)), (11, .ref (G.1 + P)), (10, .int (nI (y0 / 10 % 10 - 1))), (9, .int 10), (6, .int (nI q)), (5, .int (nI fr)), (4, .int w), (3, .int (nI y0)), (0, .ref (G.1 + 0))] dX8_followChain_129 (by decide) rfl ?_
              refine aw_iload 5 dX8_followChain_131 rfl ?_
              refine aw_istore [(5, .int (nI (y0 / 10 % 10 - 1))), (8, .int (dv + ((chX (nI (lx fr (y0 / 10 % 10 - 1) q q2))) + 0))), (13, .int (nI (lx fr (y0 / 10 % 10 - 1) q q2))), (7, .int (sv + 1)), (12, .int (nI q2)), (11, .ref (G.1 + P)), (10, .int (nI (y0 / 10 % 10 - 1))), (9, .int 10), (6, .int (nI q)), (4, .int w), (3, .int (nI y0)), (0, .ref (G.1 + 0))] dX8_followChain_133 (by decide) rfl ?_
              refine aw_iload 4 dX8_followChain_135 rfl ?_
              refine aw_istore [(6, .int (nI q2)), (5, .int (nI (y0 / 10 % 10 - 1))), (8, .int (dv + ((chX (nI (lx fr (y0 / 10 % 10 - 1) q q2))) + 0))), (13, .int (nI (lx fr (y0 / 10 % 10 - 1) q q2))), (7, .int (sv + 1)), (12, .int (nI q2)), (11, .ref (G.1 + P)), (10, .int (nI (y0 / 10 % 10 - 1))), (9, .int 10), (4, .int w), (3, .int (nI y0)), (0, .ref (G.1 + 0))] dX8_followChain_137 (by decide) rfl ?_
              refine aw_iload 8 dX8_followChain_139 rfl ?_
              refine aw_bipush (10) dX8_followChain_141 (by decide) ?_
              refine aw_idiv dX8_followChain_143 (by decide) ?_
              refine aw_toe 1 (by decide) ?_
              refine aw_istore [(9, .int 1), (6, .int (nI q2)), (5, .int (nI (y0 / 10 % 10 - 1))), (8, .int (dv + ((chX (nI (lx fr (y0 / 10 % 10 - 1) q q2))) + 0))), (13, .int (nI (lx fr (y0 / 10 % 10 - 1) q q2))), (7, .int (sv + 1)), (12, .int (nI q2)), (11, .ref (G.1 + P)), (10, .int (nI (y0 / 10 % 10 - 1))), (4, .int w), (3, .int (nI y0)), (0, .ref (G.1 + 0))] dX8_followChain_144 (by decide) rfl ?_
              refine aw_goto 16 dX8_followChain_146 (by decide) ?_
              refine aw_lv [(9, .int 1), (8, .int (dv + ((chX (nI (lx fr (y0 / 10 % 10 - 1) q q2))) + 0))), (7, .int (sv + 1)), (6, .int (nI q2)), (5, .int (nI (y0 / 10 % 10 - 1))), (4, .int w), (3, .int (nI y0)), (0, .ref (G.1 + 0))] [0, 3, 5, 1, 2, 9, 10, 11] rfl ?_
              exact ih5644 1 (nI q2) (y0 / 10 % 10 - 1) (dv + ((chX (nI (lx fr (y0 / 10 % 10 - 1) q q2))) + 0)) (sv + 1) u15689 v15690 ro15691 co15692 rc15693 lk15694 bs15695 wy15696 nw15697 _ (by omega) (by decide) (Or.inr ⟨_, bq2, bq2f, rfl⟩) (by omega) (p5714) (p5715) (p5716) (p5717) (hJ2) (hcv.trans (chV_s (t := y0 / 10 % 10 - 1) (by omega) (by omega) (by show ¬ y0 / 10 % 10 = 0; omega) rfl hP (cc_1 (p5719.2.2.2 q (by omega)) c118))) f5720 f5721 f5722 f5723 f5724 f5725 f5726 f5727 f5728 f5729 f5730 f5731 f5732 f5704 f5705 f5706 f5707 f5708 f5709 (rg2_tr (k5643) (rg2_w2 k5713 (by omega) (by omega)))
    · refine aw_lv [(9, .int 100), (8, .int dv), (7, .int sv), (6, .int ev), (5, .int (nI fr)), (4, .int w), (3, .int (nI y0)), (0, .ref (G.1 + 0))] [0, 1, 2, 3, 4, 5, 6, 7] rfl ?_
      refine aw_iload 0 dX8_followChain_16 rfl ?_
      refine aw_if_le 149 dX8_followChain_18 (by decide) (fun c18 => absurd c18 (by decide)) (fun c18 => ?_)
      refine aw_iload 3 dX8_followChain_21 rfl ?_
      refine aw_bipush (-9) dX8_followChain_23 (by decide) ?_
      refine aw_icmp_eq 149 dX8_followChain_25 (by decide) (fun c25 => ?_) (fun c25 => ?_)
      · have d25 := (j_eq (a := ev.toInt) (b := (-9)) (rfl) (rfl)).mp c25
        refine aw_iload 5 dX8_followChain_149 rfl ?_
        refine aw_if_ne 157 dX8_followChain_151 (by decide) (fun c151 => ?_) (fun c151 => ?_)
        · have d151 := mt (j_eq (a := w.toInt) (b := (0)) (rfl) (rfl)).mpr c151
          refine aw_iload 5 dX8_followChain_157 rfl ?_
          refine aw_iconst (1) dX8_followChain_159 (by decide) ?_
          refine aw_icmp_ne 168 dX8_followChain_160 (by decide) (fun c160 => ?_) (fun c160 => ?_)
          · have d160 := mt (j_eq (a := w.toInt) (b := (1)) (rfl) (rfl)).mpr c160
            refine aw_iload 1 dX8_followChain_168 rfl ?_
            subst hQF
            exact aw_iret rfl dX8_followChain_170 (by decide) (by decide) ⟨_, rfl, _, _, _, _, _, _, _, _, _, f5637, f5638, f5639, f5640, f5641, f5642, k5643, hu1, hv1, huv1, hrc1, hJ1, by rw [hcv, c25, chV_9, chR_2 c151 c160]⟩
          · have d160 := (j_eq (a := w.toInt) (b := (1)) (rfl) (rfl)).mp c160
            refine aw_iload 2 dX8_followChain_163 rfl ?_
            refine aw_goto 170 dX8_followChain_165 (by decide) ?_
            subst hQF
            exact aw_iret rfl dX8_followChain_170 (by decide) (by decide) ⟨_, rfl, _, _, _, _, _, _, _, _, _, f5637, f5638, f5639, f5640, f5641, f5642, k5643, hu1, hv1, huv1, hrc1, hJ1, by rw [hcv, c25, chV_9, chR_1 c151 c160]⟩
        · have d151 := (j_eq (a := w.toInt) (b := (0)) (rfl) (rfl)).mp c151
          refine aw_iload 3 dX8_followChain_154 rfl ?_
          subst hQF
          exact aw_iret rfl dX8_followChain_156 (by decide) (by decide) ⟨_, rfl, _, _, _, _, _, _, _, _, _, f5637, f5638, f5639, f5640, f5641, f5642, k5643, hu1, hv1, huv1, hrc1, hJ1, by rw [hcv, c25, chV_9, chR_0 c151]⟩
      · have d25 := mt (j_eq (a := ev.toInt) (b := (-9)) (rfl) (rfl)).mpr c25
        obtain ⟨q, bq, bqf, rfl⟩ := he.resolve_left c25
        refine aw_iload_n 6 dX8_followChain_28 rfl rfl ?_
        refine aw_iload 0 dX8_followChain_29 rfl ?_
        refine aw_idiv dX8_followChain_31 (by decide) ?_
        refine aw_toe (nI (y0 / 100)) (nv_div (rfl) (rfl) (by omega) (by decide) (by decide)) ?_
        refine aw_bipush (10) dX8_followChain_32 (by decide) ?_
        refine aw_irem dX8_followChain_34 (by decide) ?_
        refine aw_toe (nI ((y0 / 100) % 10)) (nv_rem (rfl) (rfl) (by omega) (by decide) (by decide)) ?_
        refine aw_iconst (1) dX8_followChain_35 (by decide) ?_
        refine aw_isub dX8_followChain_36 ?_
        refine aw_istore [(10, .int ((nI ((y0 / 100) % 10)) - 1)), (9, .int 100), (8, .int dv), (7, .int sv), (6, .int (nI q)), (5, .int (nI fr)), (4, .int w), (3, .int (nI y0)), (0, .ref (G.1 + 0))] dX8_followChain_37 (by decide) rfl ?_
        refine aw_iload 0 dX8_followChain_39 rfl ?_
        refine aw_if_lt 139 dX8_followChain_41 (by decide) (fun c41 => ?_) (fun c41 => ?_)
        · have d41 := (j_lt (a := ((nI ((y0 / 100) % 10)) - 1).toInt) (b := (0)) (rfl) (rfl)).mp c41
          refine aw_iload 1 dX8_followChain_139 rfl ?_
          refine aw_bipush (10) dX8_followChain_141 (by decide) ?_
          refine aw_idiv dX8_followChain_143 (by decide) ?_
          refine aw_toe 10 (by decide) ?_
          refine aw_istore [(9, .int 10), (10, .int ((nI ((y0 / 100) % 10)) - 1)), (8, .int dv), (7, .int sv), (6, .int (nI q)), (5, .int (nI fr)), (4, .int w), (3, .int (nI y0)), (0, .ref (G.1 + 0))] dX8_followChain_144 (by decide) rfl ?_
          refine aw_goto 16 dX8_followChain_146 (by decide) ?_
          refine aw_lv [(9, .int 10), (8, .int dv), (7, .int sv), (6, .int (nI q)), (5, .int (nI fr)), (4, .int w), (3, .int (nI y0)), (0, .ref (G.1 + 0))] [0, 2, 3, 4, 5, 6, 7, 8] rfl ?_
          exact ih5644 2 (nI q) fr dv sv u1 v1 ro1 co1 rc1 lk1 bs1 wy1 nw1 _ (by omega) (by decide) (Or.inr ⟨_, bq, bqf, rfl⟩) (by omega) (hu1) (hv1) (huv1) (hrc1) (hJ1) (hcv.trans (chV_0 (by omega) (by rw [dig_i (by omega)] at d41; show y0 / 100 % 10 = 0; omega))) f5624 f5625 f5626 f5627 f5628 f5629 f5630 f5631 f5632 f5633 f5634 f5635 f5636 f5637 f5638 f5639 f5640 f5641 f5642 (k5643)
        · have d41 := mt (j_lt (a := ((nI ((y0 / 100) % 10)) - 1).toInt) (b := (0)) (rfl) (rfl)).mpr c41
          have g0 : 1 ≤ y0 / 100 % 10 := by rw [dig_i (by omega)] at d41; omega
          rw [dig_e g0]
          obtain ⟨su, wa, pt, ce, pv, gg0, gg1, gg2, hpt, bpv, hfz⟩ := hJ1 (fr * 4 + (y0 / 100 % 10 - 1)) (by omega)
          obtain ⟨P, eP⟩ : ∃ P, P = 13 + 3 * (fr * 4 + (y0 / 100 % 10 - 1)) := ⟨_, rfl⟩
          rw [← eP] at gg0 gg1 gg2
          refine aw_aload_n 8 dX8_followChain_44 rfl rfl ?_
          refine aw_iload 5 dX8_followChain_45 rfl ?_
          refine aw_iload 0 dX8_followChain_47 rfl ?_
          refine aw_eV [.int (nI fr), .int (nI (y0 / 100 % 10 - 1))] [] lX8_124 vX8_bestJoining mX8_bestJoining dX8_followChain_49 (bJ (bv := bv) (J := J) (u := u1) (v := v1) (ro := ro1) (co := co1) (rc := rc1) (lk := lk1) (bs := bs1) (wy := wy1) (nw := nw1) (P := P) (pv := pv) (su := su) (wa := wa) (pt := pt) (ce := ce) (m := m) (se := se) (ye := ye) (fi := fi) (W := W) (Sn := Sn) (Z := Z) (Ro := Ro) (Co := Co) (Ba := Ba) (nb := nb) (sp := sp) (fa := fa) (ve := ve) (a := fr) (b := y0 / 100 % 10 - 1) f5624 f5625 f5626 f5627 f5628 f5629 f5630 f5631 f5632 f5633 f5634 f5635 f5636 f5637 f5638 f5639 f5640 f5641 f5642 gg0 gg1 gg2 hu1 hv1 huv1 hrc1 (by omega) hm hse hfi hye (by omega) (by omega) (by omega) (by omega) hpt eP (hlx fr (by omega) (y0 / 100 % 10 - 1) (by omega)) (hlx3 fr (y0 / 100 % 10 - 1)) (by omega) (by omega) (jX_g hfz (by omega))) f5624 rfl rfl rfl (Nat.le_of_ble_eq_true rfl) (by decide) (by decide) rfl (fun h5747 q5746 => ?_)
          obtain ⟨u15733, v15734, ro15735, co15736, rc15737, lk15738, bs15739, wy15740, nw15741, su15742, wa15743, pt15744, ce15745, f5748, f5749, f5750, f5751, f5752, f5753, f5754, f5755, f5756, k5757, p5758, p5759, p5760, p5761, p5762, p5763⟩ := q5746
          have f5764 := rg2_at k5757 (by omega) f5624
          have f5765 := rg2_at k5757 (by omega) f5625
          have f5766 := rg2_at k5757 (by omega) f5626
          have f5767 := rg2_at k5757 (by omega) f5627
          have f5768 := rg2_at k5757 (by omega) f5628
          have f5769 := rg2_at k5757 (by omega) f5629
          have f5770 := rg2_at k5757 (by omega) f5630
          have f5771 := rg2_at k5757 (by omega) f5631
          have f5772 := rg2_at k5757 (by omega) f5632
          have f5773 := rg2_at k5757 (by omega) f5633
          have f5774 := rg2_at k5757 (by omega) f5634
          have f5775 := rg2_at k5757 (by omega) f5635
          have f5776 := rg2_at k5757 (by omega) f5636
          have hJ2 : iJs G (jX lx fi ve) h5747 := iJs_up hJ1 (k := fr * 4 + (y0 / 100 % 10 - 1)) (by omega) eP (fun j q1 q2 q3 => k5757.2 j (by omega)) f5754 f5755 f5756 p5762 bve (jX_at p5763 (by omega))
          refine aw_astore [(11, .ref (G.1 + P)), (10, .int (nI (y0 / 100 % 10 - 1))), (9, .int 100), (8, .int dv), (7, .int sv), (6, .int (nI q)), (5, .int (nI fr)), (4, .int w), (3, .int (nI y0)), (0, .ref (G.1 + 0))] dX8_followChain_52 (by decide) rfl ?_
          refine aw_aload 0 dX8_followChain_54 rfl ?_
          refine aw_get fX8_131 dX8_followChain_56 f5754 rfl ?_
          refine aw_iload 5 dX8_followChain_59 rfl ?_
          refine aw_iald q (rfl) (by omega) (by decide) dX8_followChain_61 f5755 ?_
          refine aw_istore [(12, .int (pt15744 q)), (11, .ref (G.1 + P)), (10, .int (nI (y0 / 100 % 10 - 1))), (9, .int 100), (8, .int dv), (7, .int sv), (6, .int (nI q)), (5, .int (nI fr)), (4, .int w), (3, .int (nI y0)), (0, .ref (G.1 + 0))] dX8_followChain_62 (by decide) rfl ?_
          refine aw_iload 0 dX8_followChain_64 rfl ?_
          refine aw_bipush (-9) dX8_followChain_66 (by decide) ?_
          refine aw_icmp_eq 131 dX8_followChain_68 (by decide) (fun c68 => ?_) (fun c68 => ?_)
          · have d68 := (j_eq (a := (pt15744 q).toInt) (b := (-9)) (rfl) (rfl)).mp c68
            refine aw_iload 2 dX8_followChain_131 rfl ?_
            refine aw_istore [(5, .int (nI (y0 / 100 % 10 - 1))), (12, .int (pt15744 q)), (11, .ref (G.1 + P)), (10, .int (nI (y0 / 100 % 10 - 1))), (9, .int 100), (8, .int dv), (7, .int sv), (6, .int (nI q)), (4, .int w), (3, .int (nI y0)), (0, .ref (G.1 + 0))] dX8_followChain_133 (by decide) rfl ?_
            refine aw_iload 1 dX8_followChain_135 rfl ?_
            refine aw_istore [(6, .int (pt15744 q)), (5, .int (nI (y0 / 100 % 10 - 1))), (12, .int (pt15744 q)), (11, .ref (G.1 + P)), (10, .int (nI (y0 / 100 % 10 - 1))), (9, .int 100), (8, .int dv), (7, .int sv), (4, .int w), (3, .int (nI y0)), (0, .ref (G.1 + 0))] dX8_followChain_137 (by decide) rfl ?_
            refine aw_iload 5 dX8_followChain_139 rfl ?_
            refine aw_bipush (10) dX8_followChain_141 (by decide) ?_
            refine aw_idiv dX8_followChain_143 (by decide) ?_
            refine aw_toe 10 (by decide) ?_
            refine aw_istore [(9, .int 10), (6, .int (pt15744 q)), (5, .int (nI (y0 / 100 % 10 - 1))), (12, .int (pt15744 q)), (11, .ref (G.1 + P)), (10, .int (nI (y0 / 100 % 10 - 1))), (8, .int dv), (7, .int sv), (4, .int w), (3, .int (nI y0)), (0, .ref (G.1 + 0))] dX8_followChain_144 (by decide) rfl ?_
            refine aw_goto 16 dX8_followChain_146 (by decide) ?_
            refine aw_lv [(9, .int 10), (8, .int dv), (7, .int sv), (6, .int (pt15744 q)), (5, .int (nI (y0 / 100 % 10 - 1))), (4, .int w), (3, .int (nI y0)), (0, .ref (G.1 + 0))] [0, 6, 7, 1, 2, 8, 9, 10] rfl ?_
            exact ih5644 2 (pt15744 q) (y0 / 100 % 10 - 1) dv sv u15733 v15734 ro15735 co15736 rc15737 lk15738 bs15739 wy15740 nw15741 _ (by omega) (by decide) (Or.inl c68) (by omega) (p5758) (p5759) (p5760) (p5761) (hJ2) (by rw [c68]; exact hcv.trans (chV_n (t := y0 / 100 % 10 - 1) (by omega) (by show ¬ y0 / 100 % 10 = 0; omega) rfl ((p5763.2.1 q (by omega)).symm.trans c68))) f5764 f5765 f5766 f5767 f5768 f5769 f5770 f5771 f5772 f5773 f5774 f5775 f5776 f5748 f5749 f5750 f5751 f5752 f5753 (rg2_tr (k5643) (rg2_w2 k5757 (by omega) (by omega)))
          · have d68 := mt (j_eq (a := (pt15744 q).toInt) (b := (-9)) (rfl) (rfl)).mpr c68
            obtain ⟨q2, bq2, eq2⟩ := (p5762 q (by omega)).resolve_left c68
            have fb9 := hfi (y0 / 100 % 10 - 1) (by omega)
            have hP := (p5763.2.1 q (by omega)).symm.trans eq2
            have bq2f := jP_lt (by omega) (by omega) hP
            rw [eq2]
            refine aw_iinc (j := 5) (sv + 1) [(7, .int (sv + 1)), (12, .int (nI q2)), (11, .ref (G.1 + P)), (10, .int (nI (y0 / 100 % 10 - 1))), (9, .int 100), (8, .int dv), (6, .int (nI q)), (5, .int (nI fr)), (4, .int w), (3, .int (nI y0)), (0, .ref (G.1 + 0))] dX8_followChain_71 rfl (by rfl) (by decide) rfl ?_
            refine aw_aload_n 10 dX8_followChain_74 rfl rfl ?_
            refine aw_get fX8_20 dX8_followChain_75 f5764 rfl ?_
            refine aw_iload 7 dX8_followChain_78 rfl ?_
            refine aw_bipush (10) dX8_followChain_80 (by decide) ?_
            refine aw_imul dX8_followChain_82 ?_
            refine aw_toe (nI (fr * 10)) (nv_mul (rfl) (rfl)) ?_
            refine aw_iload 6 dX8_followChain_83 rfl ?_
            refine aw_iadd dX8_followChain_85 ?_
            refine aw_toe (nI ((fr * 10) + q)) (nv_add (rfl) (rfl)) ?_
            refine aw_iload 3 dX8_followChain_86 rfl ?_
            refine aw_bipush (10) dX8_followChain_88 (by decide) ?_
            refine aw_imul dX8_followChain_90 ?_
            refine aw_toe (nI ((y0 / 100 % 10 - 1) * 10)) (nv_mul (rfl) (rfl)) ?_
            refine aw_iload 1 dX8_followChain_91 rfl ?_
            refine aw_iadd dX8_followChain_93 ?_
            refine aw_toe (nI (((y0 / 100 % 10 - 1) * 10) + q2)) (nv_add (rfl) (rfl)) ?_
            refine aw_dV [.int (nI ((fr * 10) + q)), .int (nI (((y0 / 100 % 10 - 1) * 10) + q2))] [] lX8_121 vX1_likeness mX1_likeness dX8_followChain_94 (aX1_likeness (m := m) (se := se) (ye := ye) (fi := fi) (W := W) (Sn := Sn) (Z := Z) (Ro := Ro) (Co := Co) (Ba := Ba) (nb := nb) (sp := sp) (fa := fa) (ve := ve) (e := (fr * 10) + q) (f := ((y0 / 100 % 10 - 1) * 10) + q2) f5765 f5766 f5767 f5768 f5769 f5770 f5771 f5772 f5773 f5774 f5775 hm hse hfi hye (by omega) (by omega)) f5765 rfl rfl rfl (Nat.le_of_ble_eq_true rfl) (by decide) (by decide) rfl ?_
            refine aw_toe (nI (lx fr (y0 / 100 % 10 - 1) q q2)) (hlx fr (by omega) (y0 / 100 % 10 - 1) (by omega) q (by omega) q2 (by omega)) ?_
            refine aw_istore [(13, .int (nI (lx fr (y0 / 100 % 10 - 1) q q2))), (7, .int (sv + 1)), (12, .int (nI q2)), (11, .ref (G.1 + P)), (10, .int (nI (y0 / 100 % 10 - 1))), (9, .int 100), (8, .int dv), (6, .int (nI q)), (5, .int (nI fr)), (4, .int w), (3, .int (nI y0)), (0, .ref (G.1 + 0))] dX8_followChain_97 (by decide) rfl ?_
            refine aw_iload 6 dX8_followChain_99 rfl ?_
            refine aw_iconst (0) dX8_followChain_101 (by decide) ?_
            refine aw_bipush (100) dX8_followChain_102 (by decide) ?_
            refine aw_iload 0 dX8_followChain_104 rfl ?_
            refine aw_isub dX8_followChain_106 ?_
            refine aw_mmax lX8_251 dX8_followChain_107 (Nat.le_of_ble_eq_true rfl) (by decide) (by decide) ?_
            refine aw_toe (chX (nI (lx fr (y0 / 100 % 10 - 1) q q2))) (rfl) ?_
            refine aw_aload 3 dX8_followChain_110 rfl ?_
            refine aw_get fX8_137 dX8_followChain_112 f5754 rfl ?_
            refine aw_iload 7 dX8_followChain_115 rfl ?_
            refine aw_zald q (rfl) (by omega) (by decide) dX8_followChain_117 f5756 ?_
            refine aw_if_eq 125 dX8_followChain_118 (by decide) (fun c118 => ?_) (fun c118 => ?_)
            · have d118 := (j_eq (a := (ce15745 q).toInt) (b := (0)) (rfl) (rfl)).mp c118
              refine aw_bipush (50) dX8_followChain_125 (by decide) ?_
              refine aw_iadd dX8_followChain_127 ?_
              refine aw_iadd dX8_followChain_128 ?_
              refine aw_istore [(8, .int (dv + ((chX (nI (lx fr (y0 / 100 % 10 - 1) q q2))) + 50))), (13, .int (nI (lx fr (y0 / 100 % 10 - 1) q q2))), (7, .int (sv + 1)), (12, .int (nI q2)), (11, .ref (G.1 + P)), (10, .int (nI (y0 / 100 % 10 - 1))), (9, .int 100), (6, .int (nI q)), (5, .int (nI fr)), (4, .int w), (3, .int (nI y0)), (0, .ref (G.1 + 0))] dX8_followChain_129 (by decide) rfl ?_
              refine aw_iload 5 dX8_followChain_131 rfl ?_
              refine aw_istore [(5, .int (nI (y0 / 100 % 10 - 1))), (8, .int (dv + ((chX (nI (lx fr (y0 / 100 % 10 - 1) q q2))) + 50))), (13, .int (nI (lx fr (y0 / 100 % 10 - 1) q q2))), (7, .int (sv + 1)), (12, .int (nI q2)), (11, .ref (G.1 + P)), (10, .int (nI (y0 / 100 % 10 - 1))), (9, .int 100), (6, .int (nI q)), (4, .int w), (3, .int (nI y0)), (0, .ref (G.1 + 0))] dX8_followChain_133 (by decide) rfl ?_
              refine aw_iload 4 dX8_followChain_135 rfl ?_
              refine aw_istore [(6, .int (nI q2)), (5, .int (nI (y0 / 100 % 10 - 1))), (8, .int (dv + ((chX (nI (lx fr (y0 / 100 % 10 - 1) q q2))) + 50))), (13, .int (nI (lx fr (y0 / 100 % 10 - 1) q q2))), (7, .int (sv + 1)), (12, .int (nI q2)), (11, .ref (G.1 + P)), (10, .int (nI (y0 / 100 % 10 - 1))), (9, .int 100), (4, .int w), (3, .int (nI y0)), (0, .ref (G.1 + 0))] dX8_followChain_137 (by decide) rfl ?_
              refine aw_iload 8 dX8_followChain_139 rfl ?_
              refine aw_bipush (10) dX8_followChain_141 (by decide) ?_
              refine aw_idiv dX8_followChain_143 (by decide) ?_
              refine aw_toe 10 (by decide) ?_
              refine aw_istore [(9, .int 10), (6, .int (nI q2)), (5, .int (nI (y0 / 100 % 10 - 1))), (8, .int (dv + ((chX (nI (lx fr (y0 / 100 % 10 - 1) q q2))) + 50))), (13, .int (nI (lx fr (y0 / 100 % 10 - 1) q q2))), (7, .int (sv + 1)), (12, .int (nI q2)), (11, .ref (G.1 + P)), (10, .int (nI (y0 / 100 % 10 - 1))), (4, .int w), (3, .int (nI y0)), (0, .ref (G.1 + 0))] dX8_followChain_144 (by decide) rfl ?_
              refine aw_goto 16 dX8_followChain_146 (by decide) ?_
              refine aw_lv [(9, .int 10), (8, .int (dv + ((chX (nI (lx fr (y0 / 100 % 10 - 1) q q2))) + 50))), (7, .int (sv + 1)), (6, .int (nI q2)), (5, .int (nI (y0 / 100 % 10 - 1))), (4, .int w), (3, .int (nI y0)), (0, .ref (G.1 + 0))] [0, 3, 5, 1, 2, 9, 10, 11] rfl ?_
              exact ih5644 2 (nI q2) (y0 / 100 % 10 - 1) (dv + ((chX (nI (lx fr (y0 / 100 % 10 - 1) q q2))) + 50)) (sv + 1) u15733 v15734 ro15735 co15736 rc15737 lk15738 bs15739 wy15740 nw15741 _ (by omega) (by decide) (Or.inr ⟨_, bq2, bq2f, rfl⟩) (by omega) (p5758) (p5759) (p5760) (p5761) (hJ2) (hcv.trans (chV_s (t := y0 / 100 % 10 - 1) (by omega) (by omega) (by show ¬ y0 / 100 % 10 = 0; omega) rfl hP (cc_0 (p5763.2.2.2 q (by omega)) c118))) f5764 f5765 f5766 f5767 f5768 f5769 f5770 f5771 f5772 f5773 f5774 f5775 f5776 f5748 f5749 f5750 f5751 f5752 f5753 (rg2_tr (k5643) (rg2_w2 k5757 (by omega) (by omega)))
            · have d118 := mt (j_eq (a := (ce15745 q).toInt) (b := (0)) (rfl) (rfl)).mpr c118
              refine aw_iconst (0) dX8_followChain_121 (by decide) ?_
              refine aw_goto 127 dX8_followChain_122 (by decide) ?_
              refine aw_iadd dX8_followChain_127 ?_
              refine aw_iadd dX8_followChain_128 ?_
              refine aw_istore [(8, .int (dv + ((chX (nI (lx fr (y0 / 100 % 10 - 1) q q2))) + 0))), (13, .int (nI (lx fr (y0 / 100 % 10 - 1) q q2))), (7, .int (sv + 1)), (12, .int (nI q2)), (11, .ref (G.1 + P)), (10, .int (nI (y0 / 100 % 10 - 1))), (9, .int 100), (6, .int (nI q)), (5, .int (nI fr)), (4, .int w), (3, .int (nI y0)), (0, .ref (G.1 + 0))] dX8_followChain_129 (by decide) rfl ?_
              refine aw_iload 5 dX8_followChain_131 rfl ?_
              refine aw_istore [(5, .int (nI (y0 / 100 % 10 - 1))), (8, .int (dv + ((chX (nI (lx fr (y0 / 100 % 10 - 1) q q2))) + 0))), (13, .int (nI (lx fr (y0 / 100 % 10 - 1) q q2))), (7, .int (sv + 1)), (12, .int (nI q2)), (11, .ref (G.1 + P)), (10, .int (nI (y0 / 100 % 10 - 1))), (9, .int 100), (6, .int (nI q)), (4, .int w), (3, .int (nI y0)), (0, .ref (G.1 + 0))] dX8_followChain_133 (by decide) rfl ?_
              refine aw_iload 4 dX8_followChain_135 rfl ?_
              refine aw_istore [(6, .int (nI q2)), (5, .int (nI (y0 / 100 % 10 - 1))), (8, .int (dv + ((chX (nI (lx fr (y0 / 100 % 10 - 1) q q2))) + 0))), (13, .int (nI (lx fr (y0 / 100 % 10 - 1) q q2))), (7, .int (sv + 1)), (12, .int (nI q2)), (11, .ref (G.1 + P)), (10, .int (nI (y0 / 100 % 10 - 1))), (9, .int 100), (4, .int w), (3, .int (nI y0)), (0, .ref (G.1 + 0))] dX8_followChain_137 (by decide) rfl ?_
              refine aw_iload 8 dX8_followChain_139 rfl ?_
              refine aw_bipush (10) dX8_followChain_141 (by decide) ?_
              refine aw_idiv dX8_followChain_143 (by decide) ?_
              refine aw_toe 10 (by decide) ?_
              refine aw_istore [(9, .int 10), (6, .int (nI q2)), (5, .int (nI (y0 / 100 % 10 - 1))), (8, .int (dv + ((chX (nI (lx fr (y0 / 100 % 10 - 1) q q2))) + 0))), (13, .int (nI (lx fr (y0 / 100 % 10 - 1) q q2))), (7, .int (sv + 1)), (12, .int (nI q2)), (11, .ref (G.1 + P)), (10, .int (nI (y0 / 100 % 10 - 1))), (4, .int w), (3, .int (nI y0)), (0, .ref (G.1 + 0))] dX8_followChain_144 (by decide) rfl ?_
              refine aw_goto 16 dX8_followChain_146 (by decide) ?_
              refine aw_lv [(9, .int 10), (8, .int (dv + ((chX (nI (lx fr (y0 / 100 % 10 - 1) q q2))) + 0))), (7, .int (sv + 1)), (6, .int (nI q2)), (5, .int (nI (y0 / 100 % 10 - 1))), (4, .int w), (3, .int (nI y0)), (0, .ref (G.1 + 0))] [0, 3, 5, 1, 2, 9, 10, 11] rfl ?_
              exact ih5644 2 (nI q2) (y0 / 100 % 10 - 1) (dv + ((chX (nI (lx fr (y0 / 100 % 10 - 1) q q2))) + 0)) (sv + 1) u15733 v15734 ro15735 co15736 rc15737 lk15738 bs15739 wy15740 nw15741 _ (by omega) (by decide) (Or.inr ⟨_, bq2, bq2f, rfl⟩) (by omega) (p5758) (p5759) (p5760) (p5761) (hJ2) (hcv.trans (chV_s (t := y0 / 100 % 10 - 1) (by omega) (by omega) (by show ¬ y0 / 100 % 10 = 0; omega) rfl hP (cc_1 (p5763.2.2.2 q (by omega)) c118))) f5764 f5765 f5766 f5767 f5768 f5769 f5770 f5771 f5772 f5773 f5774 f5775 f5776 f5748 f5749 f5750 f5751 f5752 f5753 (rg2_tr (k5643) (rg2_w2 k5757 (by omega) (by omega)))
