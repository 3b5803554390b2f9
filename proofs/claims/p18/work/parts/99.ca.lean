set_option maxHeartbeats 4000000 in
theorem fc_J {l : Launch} {G : xG} {h : List va_E} {bv : Value} {J u v ro co : Nat} {rc : Nat → Nat} {lk bs wy nw : Nat → Int32} {m se ye fi : Nat → Nat} {W Sn Z Ro Co : Nat → Int32} {Ba : Nat → Int64} {nb sp fa ve : Nat} {a i y0 : Nat} {w : Int32} (h0 : h[0]? = some (oB 8 (lX G (.ref (G.1 + J)) (bv)))) (h1 : h[1]? = some (oB 1 (lC G (nI nb) (nI sp) (nI fa) (nI ve)))) (h2 : h[2]? = some (aI 20 (nA m))) (h3 : h[3]? = some (aI 20 (nA se))) (h4 : h[4]? = some (aI 4 (nA ye))) (h5 : h[5]? = some (aI 4 (nA fi))) (h6 : h[6]? = some (aI 40 W)) (h7 : h[7]? = some (aI 40 Sn)) (h8 : h[8]? = some (aI 40 Z)) (h9 : h[9]? = some (aI 40 Ro)) (h10 : h[10]? = some (aI 40 Co)) (h11 : h[11]? = some (aL 40 Ba)) (h12 : h[12]? = some (aR 16 (xjo G.1 16))) (hJ : h[J]? = some (oB 3 (lJ G J (.ref (G.1 + u)) (.ref (G.1 + v)) (nI ro) (nI co)))) (hJ_1 : h[J + 1]? = some (aI 100 lk)) (hJ_2 : h[J + 2]? = some (aI 11 (nA rc))) (hJ_3 : h[J + 3]? = some (aI 11264 bs)) (hu : h[u]? = some (aI 1024 wy)) (hv : h[v]? = some (aI 1024 nw)) (qu : J + 4 ≤ u ∧ u ≤ J + 5) (qv : J + 4 ≤ v ∧ v ≤ J + 5) (quv : u ≠ v) (hrc : ∀ j, j < 11 → rc j < 1024) (hm : ∀ j, j < 20 → m j ≤ j) (hse : ∀ j, j < 20 → se j < 20) (hfi : ∀ j, j < 4 → fi j < 11) (hye : ∀ j, j < 4 → ye j < 1901) (ba : a < 4) (bi : i < 10) (qJ : 125 ≤ J) (bve : ve ≤ 600) (hJs : iJs G jT h) (g1 : 1 ≤ y0 % 10 ∧ y0 % 10 ≤ 4 ∧ y0 / 10 % 10 ≤ 4 ∧ y0 / 100 % 10 ≤ 4) (by0 : y0 < 1000) : CU l G yX8_followChain cX8_followChain 14 (some .int) 6 0 0 [.ref (G.1 + 0), .int (nI a), .int (nI i), .int (nI y0), .int w] h (fun r h1 => ∃ u1 : Nat, ∃ v1 : Nat, ∃ ro1 : Nat, ∃ co1 : Nat, ∃ rc1 : Nat → Nat, ∃ lk1 : Nat → Int32, ∃ bs1 : Nat → Int32, ∃ wy1 : Nat → Int32, ∃ nw1 : Nat → Int32, h1[J]? = some (oB 3 (lJ G J (.ref (G.1 + u1)) (.ref (G.1 + v1)) (nI ro1) (nI co1))) ∧ h1[J + 1]? = some (aI 100 lk1) ∧ h1[J + 2]? = some (aI 11 (nA rc1)) ∧ h1[J + 3]? = some (aI 11264 bs1) ∧ h1[u1]? = some (aI 1024 wy1) ∧ h1[v1]? = some (aI 1024 nw1) ∧ rg2 13 60 J (J + 5) h h1 ∧ (J + 4 ≤ u1 ∧ u1 ≤ J + 5) ∧ (J + 4 ≤ v1 ∧ v1 ≤ J + 5) ∧ u1 ≠ v1 ∧ (∀ j, j < 11 → rc1 j < 1024) ∧ iJs G jT h1 ∧ True) := by
  refine cm_ofQ rfl (Nat.le_of_ble_eq_true rfl) [(0, .ref (G.1 + 0)), (1, .int (nI a)), (2, .int (nI i)), (3, .int (nI y0)), (4, .int w)] rfl (fun QF hQF => ?_)
  refine aw_iload_n 1 dX8_followChain_0 rfl rfl ?_
  refine aw_istore [(5, .int (nI a)), (0, .ref (G.1 + 0)), (1, .int (nI a)), (2, .int (nI i)), (3, .int (nI y0)), (4, .int w)] dX8_followChain_1 (by decide) rfl ?_
  refine aw_iload_n 3 dX8_followChain_3 rfl rfl ?_
  refine aw_istore [(6, .int (nI i)), (5, .int (nI a)), (0, .ref (G.1 + 0)), (1, .int (nI a)), (2, .int (nI i)), (3, .int (nI y0)), (4, .int w)] dX8_followChain_4 (by decide) rfl ?_
  refine aw_iconst (0) dX8_followChain_6 (by decide) ?_
  refine aw_istore [(7, .int 0), (6, .int (nI i)), (5, .int (nI a)), (0, .ref (G.1 + 0)), (1, .int (nI a)), (2, .int (nI i)), (3, .int (nI y0)), (4, .int w)] dX8_followChain_7 (by decide) rfl ?_
  refine aw_iconst (0) dX8_followChain_9 (by decide) ?_
  refine aw_istore [(8, .int 0), (7, .int 0), (6, .int (nI i)), (5, .int (nI a)), (0, .ref (G.1 + 0)), (1, .int (nI a)), (2, .int (nI i)), (3, .int (nI y0)), (4, .int w)] dX8_followChain_10 (by decide) rfl ?_
  refine aw_bipush (100) dX8_followChain_12 (by decide) ?_
  refine aw_istore [(9, .int 100), (8, .int 0), (7, .int 0), (6, .int (nI i)), (5, .int (nI a)), (0, .ref (G.1 + 0)), (1, .int (nI a)), (2, .int (nI i)), (3, .int (nI y0)), (4, .int w)] dX8_followChain_14 (by decide) rfl ?_
  refine aw_lv [(9, .int 100), (8, .int 0), (7, .int 0), (6, .int (nI i)), (5, .int (nI a)), (4, .int w), (3, .int (nI y0)), (0, .ref (G.1 + 0))] [0, 1, 2, 3, 4, 9, 8, 5] rfl ?_
  suffices L5669 : ∀ (mm : Nat) (x : Nat) (ev : Int32) (fr : Nat) (dv : Int32) (sv : Int32) (u1 : Nat) (v1 : Nat) (ro1 : Nat) (co1 : Nat) (rc1 : Nat → Nat) (lk1 : Nat → Int32) (bs1 : Nat → Int32) (wy1 : Nat → Int32) (nw1 : Nat → Int32) (h5648 : List va_E), x < mm → (x = 0 ∨ x = 1 ∨ x = 2 ∨ x = 3) → (ev = -9 ∨ ∃ q, q < 10 ∧ ev = nI q) → (fr < 4) → (J + 4 ≤ u1 ∧ u1 ≤ J + 5) → (J + 4 ≤ v1 ∧ v1 ≤ J + 5) → (u1 ≠ v1) → (∀ j, j < 11 → rc1 j < 1024) → (iJs G jT h5648) → h5648[0]? = some (oB 8 (lX G (.ref (G.1 + J)) (bv))) → h5648[1]? = some (oB 1 (lC G (nI nb) (nI sp) (nI fa) (nI ve))) → h5648[2]? = some (aI 20 (nA m)) → h5648[3]? = some (aI 20 (nA se)) → h5648[4]? = some (aI 4 (nA ye)) → h5648[5]? = some (aI 4 (nA fi)) → h5648[6]? = some (aI 40 W) → h5648[7]? = some (aI 40 Sn) → h5648[8]? = some (aI 40 Z) → h5648[9]? = some (aI 40 Ro) → h5648[10]? = some (aI 40 Co) → h5648[11]? = some (aL 40 Ba) → h5648[12]? = some (aR 16 (xjo G.1 16)) → h5648[J]? = some (oB 3 (lJ G J (.ref (G.1 + u1)) (.ref (G.1 + v1)) (nI ro1) (nI co1))) → h5648[J + 1]? = some (aI 100 lk1) → h5648[J + 2]? = some (aI 11 (nA rc1)) → h5648[J + 3]? = some (aI 11264 bs1) → h5648[u1]? = some (aI 1024 wy1) → h5648[v1]? = some (aI 1024 nw1) → rg2 13 60 J (J + 5) h h5648 → AW l G yX8_followChain cX8_followChain 14 (some .int) (xR 6 0 0) (fun _ _ => True) QF 0 0 16 [(9, .int (nI (p10 x))), (8, .int dv), (7, .int sv), (6, .int ev), (5, .int (nI fr)), (4, .int w), (3, .int (nI y0)), (0, .ref (G.1 + 0))] [] h5648 from L5669 (3 + 1) 3 (nI i) a 0 0 u v ro co rc lk bs wy nw _ (Nat.lt_succ_self _) (by decide) (Or.inr ⟨_, bi, rfl⟩) (ba) (qu) (qv) (quv) (hrc) (hJs) h0 h1 h2 h3 h4 h5 h6 h7 h8 h9 h10 h11 h12 hJ hJ_1 hJ_2 hJ_3 hu hv (rg2_rf 13 60 J (J + 5) h)
  intro mm
  induction mm with
  | zero =>
    intro x ev fr dv sv u1 v1 ro1 co1 rc1 lk1 bs1 wy1 nw1 h5648 hmm hx he bfr hu1 hv1 huv1 hrc1 hJ1 f5649 f5650 f5651 f5652 f5653 f5654 f5655 f5656 f5657 f5658 f5659 f5660 f5661 f5662 f5663 f5664 f5665 f5666 f5667 k5668
    exact absurd hmm (Nat.not_lt_zero _)
  | succ mm ih5669 =>
    intro x ev fr dv sv u1 v1 ro1 co1 rc1 lk1 bs1 wy1 nw1 h5648 hmm hx he bfr hu1 hv1 huv1 hrc1 hJ1 f5649 f5650 f5651 f5652 f5653 f5654 f5655 f5656 f5657 f5658 f5659 f5660 f5661 f5662 f5663 f5664 f5665 f5666 f5667 k5668
    rcases hx with rfl | rfl | rfl | rfl
    · refine aw_lv [(9, .int 0), (8, .int dv), (7, .int sv), (6, .int ev), (5, .int (nI fr)), (4, .int w), (3, .int (nI y0)), (0, .ref (G.1 + 0))] [0, 1, 2, 3, 4, 5, 6, 7] rfl ?_
      refine aw_iload 0 dX8_followChain_16 rfl ?_
      refine aw_if_le 149 dX8_followChain_18 (by decide) (fun c18 => ?_) (fun c18 => absurd (by decide) c18)
      refine aw_iload 5 dX8_followChain_149 rfl ?_
      refine aw_if_ne 157 dX8_followChain_151 (by decide) (fun c151 => ?_) (fun c151 => ?_)
      · have d151 := mt (j_eq (a := w.toInt) (b := (0)) (rfl) (rfl)).mpr c151
        refine aw_iload 5 dX8_followChain_157 rfl ?_
        refine aw_iconst (1) dX8_followChain_159 (by decide) ?_
        refine aw_icmp_ne 168 dX8_followChain_160 (by decide) (fun c160 => ?_) (fun c160 => ?_)
        · have d160 := mt (j_eq (a := w.toInt) (b := (1)) (rfl) (rfl)).mpr c160
          refine aw_iload 1 dX8_followChain_168 rfl ?_
          subst hQF
          exact aw_iret rfl dX8_followChain_170 (by decide) (by decide) ⟨_, rfl, _, _, _, _, _, _, _, _, _, f5662, f5663, f5664, f5665, f5666, f5667, k5668, hu1, hv1, huv1, hrc1, hJ1, trivial⟩
        · have d160 := (j_eq (a := w.toInt) (b := (1)) (rfl) (rfl)).mp c160
          refine aw_iload 2 dX8_followChain_163 rfl ?_
          refine aw_goto 170 dX8_followChain_165 (by decide) ?_
          subst hQF
          exact aw_iret rfl dX8_followChain_170 (by decide) (by decide) ⟨_, rfl, _, _, _, _, _, _, _, _, _, f5662, f5663, f5664, f5665, f5666, f5667, k5668, hu1, hv1, huv1, hrc1, hJ1, trivial⟩
      · have d151 := (j_eq (a := w.toInt) (b := (0)) (rfl) (rfl)).mp c151
        refine aw_iload 3 dX8_followChain_154 rfl ?_
        subst hQF
        exact aw_iret rfl dX8_followChain_156 (by decide) (by decide) ⟨_, rfl, _, _, _, _, _, _, _, _, _, f5662, f5663, f5664, f5665, f5666, f5667, k5668, hu1, hv1, huv1, hrc1, hJ1, trivial⟩
    · refine aw_lv [(9, .int 1), (8, .int dv), (7, .int sv), (6, .int ev), (5, .int (nI fr)), (4, .int w), (3, .int (nI y0)), (0, .ref (G.1 + 0))] [0, 1, 2, 3, 4, 5, 6, 7] rfl ?_
      refine aw_iload 0 dX8_followChain_16 rfl ?_
      refine aw_if_le 149 dX8_followChain_18 (by decide) (fun c18 => absurd c18 (by decide)) (fun c18 => ?_)
      refine aw_iload 3 dX8_followChain_21 rfl ?_
      refine aw_bipush (-9) dX8_followChain_23 (by decide) ?_
      refine aw_icmp_eq 149 dX8_followChain_25 (by decide) (fun c25 => ?_) (fun c25 => ?_)
      · have d25 := (j_eq (a := ev.toInt) (b := (-9)) (rfl) (rfl)).mp c25
        refine aw_iload 5 dX8_followChain_149 rfl ?_
        refine aw_if_ne 157 dX8_followChain_151 (by decide) (fun c151 => ?_) (fun c151 => ?_)
        · have d151 := mt (j_eq (a := w.toInt) (b := (0)) (rfl) (rfl)).mpr c151
          refine aw_iload 5 dX8_followChain_157 rfl ?_
          refine aw_iconst (1) dX8_followChain_159 (by decide) ?_
          refine aw_icmp_ne 168 dX8_followChain_160 (by decide) (fun c160 => ?_) (fun c160 => ?_)
          · have d160 := mt (j_eq (a := w.toInt) (b := (1)) (rfl) (rfl)).mpr c160
            refine aw_iload 1 dX8_followChain_168 rfl ?_
            subst hQF
            exact aw_iret rfl dX8_followChain_170 (by decide) (by decide) ⟨_, rfl, _, _, _, _, _, _, _, _, _, f5662, f5663, f5664, f5665, f5666, f5667, k5668, hu1, hv1, huv1, hrc1, hJ1, trivial⟩
          · have d160 := (j_eq (a := w.toInt) (b := (1)) (rfl) (rfl)).mp c160
            refine aw_iload 2 dX8_followChain_163 rfl ?_
            refine aw_goto 170 dX8_followChain_165 (by decide) ?_
            subst hQF
            exact aw_iret rfl dX8_followChain_170 (by decide) (by decide) ⟨_, rfl, _, _, _, _, _, _, _, _, _, f5662, f5663, f5664, f5665, f5666, f5667, k5668, hu1, hv1, huv1, hrc1, hJ1, trivial⟩
        · have d151 := (j_eq (a := w.toInt) (b := (0)) (rfl) (rfl)).mp c151
          refine aw_iload 3 dX8_followChain_154 rfl ?_
          subst hQF
          exact aw_iret rfl dX8_followChain_156 (by decide) (by decide) ⟨_, rfl, _, _, _, _, _, _, _, _, _, f5662, f5663, f5664, f5665, f5666, f5667, k5668, hu1, hv1, huv1, hrc1, hJ1, trivial⟩
      · have d25 := mt (j_eq (a := ev.toInt) (b := (-9)) (rfl) (rfl)).mpr c25
        obtain ⟨q, bq, rfl⟩ := he.resolve_left c25
        refine aw_iload_n 6 dX8_followChain_28 rfl rfl ?_
        refine aw_iload 0 dX8_followChain_29 rfl ?_
        refine aw_idiv dX8_followChain_31 (by decide) ?_
        refine aw_toe (nI (y0 / 1)) (nv_div (rfl) (rfl) (by omega) (by decide) (by decide)) ?_
        refine aw_bipush (10) dX8_followChain_32 (by decide) ?_
        refine aw_irem dX8_followChain_34 (by decide) ?_
        refine aw_toe (nI ((y0 / 1) % 10)) (nv_rem (rfl) (rfl) (by omega) (by decide) (by decide)) ?_
        refine aw_iconst (1) dX8_followChain_35 (by decide) ?_
        refine aw_isub dX8_followChain_36 ?_
        refine aw_istore [(10, .int ((nI ((y0 / 1) % 10)) - 1)), (9, .int 1), (8, .int dv), (7, .int sv), (6, .int (nI q)), (5, .int (nI fr)), (4, .int w), (3, .int (nI y0)), (0, .ref (G.1 + 0))] dX8_followChain_37 (by decide) rfl ?_
        refine aw_iload 0 dX8_followChain_39 rfl ?_
        refine aw_if_lt 139 dX8_followChain_41 (by decide) (fun c41 => ?_) (fun c41 => ?_)
        · have d41 := (j_lt (a := ((nI ((y0 / 1) % 10)) - 1).toInt) (b := (0)) (rfl) (rfl)).mp c41
          refine aw_iload 1 dX8_followChain_139 rfl ?_
          refine aw_bipush (10) dX8_followChain_141 (by decide) ?_
          refine aw_idiv dX8_followChain_143 (by decide) ?_
          refine aw_toe 0 (by decide) ?_
          refine aw_istore [(9, .int 0), (10, .int ((nI ((y0 / 1) % 10)) - 1)), (8, .int dv), (7, .int sv), (6, .int (nI q)), (5, .int (nI fr)), (4, .int w), (3, .int (nI y0)), (0, .ref (G.1 + 0))] dX8_followChain_144 (by decide) rfl ?_
          refine aw_goto 16 dX8_followChain_146 (by decide) ?_
          refine aw_lv [(9, .int 0), (8, .int dv), (7, .int sv), (6, .int (nI q)), (5, .int (nI fr)), (4, .int w), (3, .int (nI y0)), (0, .ref (G.1 + 0))] [0, 2, 3, 4, 5, 6, 7, 8] rfl ?_
          exact ih5669 0 (nI q) fr dv sv u1 v1 ro1 co1 rc1 lk1 bs1 wy1 nw1 _ (by omega) (by decide) (Or.inr ⟨_, bq, rfl⟩) (by omega) (hu1) (hv1) (huv1) (hrc1) (hJ1) f5649 f5650 f5651 f5652 f5653 f5654 f5655 f5656 f5657 f5658 f5659 f5660 f5661 f5662 f5663 f5664 f5665 f5666 f5667 (k5668)
        · have d41 := mt (j_lt (a := ((nI ((y0 / 1) % 10)) - 1).toInt) (b := (0)) (rfl) (rfl)).mpr c41
          have g0 : 1 ≤ y0 / 1 % 10 := by rw [dig_i (by omega)] at d41; omega
          rw [dig_e g0]
          obtain ⟨su, wa, pt, ce, pv, gg0, gg1, gg2, hpt, bpv, hfz⟩ := hJ1 (fr * 4 + (y0 / 1 % 10 - 1)) (by omega)
          obtain ⟨P, eP⟩ : ∃ P, P = 13 + 3 * (fr * 4 + (y0 / 1 % 10 - 1)) := ⟨_, rfl⟩
          rw [← eP] at gg0 gg1 gg2
          refine aw_aload_n 8 dX8_followChain_44 rfl rfl ?_
          refine aw_iload 5 dX8_followChain_45 rfl ?_
          refine aw_iload 0 dX8_followChain_47 rfl ?_
          refine aw_eV [.int (nI fr), .int (nI (y0 / 1 % 10 - 1))] [] lX8_124 vX8_bestJoining mX8_bestJoining dX8_followChain_49 (bJ (bv := bv) (J := J) (u := u1) (v := v1) (ro := ro1) (co := co1) (rc := rc1) (lk := lk1) (bs := bs1) (wy := wy1) (nw := nw1) (P := P) (pv := pv) (su := su) (wa := wa) (pt := pt) (ce := ce) (m := m) (se := se) (ye := ye) (fi := fi) (W := W) (Sn := Sn) (Z := Z) (Ro := Ro) (Co := Co) (Ba := Ba) (nb := nb) (sp := sp) (fa := fa) (ve := ve) (a := fr) (b := y0 / 1 % 10 - 1) f5649 f5650 f5651 f5652 f5653 f5654 f5655 f5656 f5657 f5658 f5659 f5660 f5661 f5662 f5663 f5664 f5665 f5666 f5667 gg0 gg1 gg2 hu1 hv1 huv1 hrc1 (by omega) hm hse hfi hye (by omega) (by omega) (by omega) (by omega) hpt eP (by omega) (by omega)) f5649 rfl rfl rfl (Nat.le_of_ble_eq_true rfl) (by decide) (by decide) rfl (fun h5684 q5683 => ?_)
          obtain ⟨u15670, v15671, ro15672, co15673, rc15674, lk15675, bs15676, wy15677, nw15678, su15679, wa15680, pt15681, ce15682, f5685, f5686, f5687, f5688, f5689, f5690, f5691, f5692, f5693, k5694, p5695, p5696, p5697, p5698, p5699⟩ := q5683
          have f5700 := rg2_at k5694 (by omega) f5649
          have f5701 := rg2_at k5694 (by omega) f5650
          have f5702 := rg2_at k5694 (by omega) f5651
          have f5703 := rg2_at k5694 (by omega) f5652
          have f5704 := rg2_at k5694 (by omega) f5653
          have f5705 := rg2_at k5694 (by omega) f5654
          have f5706 := rg2_at k5694 (by omega) f5655
          have f5707 := rg2_at k5694 (by omega) f5656
          have f5708 := rg2_at k5694 (by omega) f5657
          have f5709 := rg2_at k5694 (by omega) f5658
          have f5710 := rg2_at k5694 (by omega) f5659
          have f5711 := rg2_at k5694 (by omega) f5660
          have f5712 := rg2_at k5694 (by omega) f5661
          have hJ2 : iJs G jT h5684 := iJs_up hJ1 (k := fr * 4 + (y0 / 1 % 10 - 1)) (by omega) eP (fun j q1 q2 q3 => k5694.2 j (by omega)) f5691 f5692 f5693 p5699 bve trivial
          refine aw_astore [(11, .ref (G.1 + P)), (10, .int (nI (y0 / 1 % 10 - 1))), (9, .int 1), (8, .int dv), (7, .int sv), (6, .int (nI q)), (5, .int (nI fr)), (4, .int w), (3, .int (nI y0)), (0, .ref (G.1 + 0))] dX8_followChain_52 (by decide) rfl ?_
          refine aw_aload 0 dX8_followChain_54 rfl ?_
          refine aw_get fX8_131 dX8_followChain_56 f5691 rfl ?_
          refine aw_iload 5 dX8_followChain_59 rfl ?_
          refine aw_iald q (rfl) (by omega) (by decide) dX8_followChain_61 f5692 ?_
          refine aw_istore [(12, .int (pt15681 q)), (11, .ref (G.1 + P)), (10, .int (nI (y0 / 1 % 10 - 1))), (9, .int 1), (8, .int dv), (7, .int sv), (6, .int (nI q)), (5, .int (nI fr)), (4, .int w), (3, .int (nI y0)), (0, .ref (G.1 + 0))] dX8_followChain_62 (by decide) rfl ?_
          refine aw_iload 0 dX8_followChain_64 rfl ?_
          refine aw_bipush (-9) dX8_followChain_66 (by decide) ?_
          refine aw_icmp_eq 131 dX8_followChain_68 (by decide) (fun c68 => ?_) (fun c68 => ?_)
          · have d68 := (j_eq (a := (pt15681 q).toInt) (b := (-9)) (rfl) (rfl)).mp c68
            refine aw_iload 2 dX8_followChain_131 rfl ?_
            refine aw_istore [(5, .int (nI (y0 / 1 % 10 - 1))), (12, .int (pt15681 q)), (11, .ref (G.1 + P)), (10, .int (nI (y0 / 1 % 10 - 1))), (9, .int 1), (8, .int dv), (7, .int sv), (6, .int (nI q)), (4, .int w), (3, .int (nI y0)), (0, .ref (G.1 + 0))] dX8_followChain_133 (by decide) rfl ?_
            refine aw_iload 1 dX8_followChain_135 rfl ?_
            refine aw_istore [(6, .int (pt15681 q)), (5, .int (nI (y0 / 1 % 10 - 1))), (12, .int (pt15681 q)), (11, .ref (G.1 + P)), (10, .int (nI (y0 / 1 % 10 - 1))), (9, .int 1), (8, .int dv), (7, .int sv), (4, .int w), (3, .int (nI y0)), (0, .ref (G.1 + 0))] dX8_followChain_137 (by decide) rfl ?_
            refine aw_iload 5 dX8_followChain_139 rfl ?_
            refine aw_bipush (10) dX8_followChain_141 (by decide) ?_
            refine aw_idiv dX8_followChain_143 (by decide) ?_
            refine aw_toe 0 (by decide) ?_
            refine aw_istore [(9, .int 0), (6, .int (pt15681 q)), (5, .int (nI (y0 / 1 % 10 - 1))), (12, .int (pt15681 q)), (11, .ref (G.1 + P)), (10, .int (nI (y0 / 1 % 10 - 1))), (8, .int dv), (7, .int sv), (4, .int w), (3, .int (nI y0)), (0, .ref (G.1 + 0))] dX8_followChain_144 (by decide) rfl ?_
            refine aw_goto 16 dX8_followChain_146 (by decide) ?_
            refine aw_lv [(9, .int 0), (8, .int dv), (7, .int sv), (6, .int (pt15681 q)), (5, .int (nI (y0 / 1 % 10 - 1))), (4, .int w), (3, .int (nI y0)), (0, .ref (G.1 + 0))] [0, 6, 7, 1, 2, 8, 9, 10] rfl ?_
            exact ih5669 0 (pt15681 q) (y0 / 1 % 10 - 1) dv sv u15670 v15671 ro15672 co15673 rc15674 lk15675 bs15676 wy15677 nw15678 _ (by omega) (by decide) (p5699 q bq) (by omega) (p5695) (p5696) (p5697) (p5698) (hJ2) f5700 f5701 f5702 f5703 f5704 f5705 f5706 f5707 f5708 f5709 f5710 f5711 f5712 f5685 f5686 f5687 f5688 f5689 f5690 (rg2_tr (k5668) (rg2_w2 k5694 (by omega) (by omega)))
          · have d68 := mt (j_eq (a := (pt15681 q).toInt) (b := (-9)) (rfl) (rfl)).mpr c68
            obtain ⟨q2, bq2, eq2⟩ := (p5699 q (by omega)).resolve_left c68
            rw [eq2]
            refine aw_iinc (j := 5) (sv + 1) [(7, .int (sv + 1)), (12, .int (nI q2)), (11, .ref (G.1 + P)), (10, .int (nI (y0 / 1 % 10 - 1))), (9, .int 1), (8, .int dv), (6, .int (nI q)), (5, .int (nI fr)), (4, .int w), (3, .int (nI y0)), (0, .ref (G.1 + 0))] dX8_followChain_71 rfl (by rfl) (by decide) rfl ?_
            refine aw_aload_n 10 dX8_followChain_74 rfl rfl ?_
            refine aw_get fX8_20 dX8_followChain_75 f5700 rfl ?_
            refine aw_iload 7 dX8_followChain_78 rfl ?_
            refine aw_bipush (10) dX8_followChain_80 (by decide) ?_
            refine aw_imul dX8_followChain_82 ?_
            refine aw_toe (nI (fr * 10)) (nv_mul (rfl) (rfl)) ?_
            refine aw_iload 6 dX8_followChain_83 rfl ?_
            refine aw_iadd dX8_followChain_85 ?_
            refine aw_toe (nI ((fr * 10) + q)) (nv_add (rfl) (rfl)) ?_
            refine aw_iload 3 dX8_followChain_86 rfl ?_
            refine aw_bipush (10) dX8_followChain_88 (by decide) ?_
            refine aw_imul dX8_followChain_90 ?_
            refine aw_toe (nI ((y0 / 1 % 10 - 1) * 10)) (nv_mul (rfl) (rfl)) ?_
            refine aw_iload 1 dX8_followChain_91 rfl ?_
            refine aw_iadd dX8_followChain_93 ?_
            refine aw_toe (nI (((y0 / 1 % 10 - 1) * 10) + q2)) (nv_add (rfl) (rfl)) ?_
            refine aw_dV [.int (nI ((fr * 10) + q)), .int (nI (((y0 / 1 % 10 - 1) * 10) + q2))] [] lX8_121 vX1_likeness mX1_likeness dX8_followChain_94 (aX1_likeness (m := m) (se := se) (ye := ye) (fi := fi) (W := W) (Sn := Sn) (Z := Z) (Ro := Ro) (Co := Co) (Ba := Ba) (nb := nb) (sp := sp) (fa := fa) (ve := ve) (e := (fr * 10) + q) (f := ((y0 / 1 % 10 - 1) * 10) + q2) f5701 f5702 f5703 f5704 f5705 f5706 f5707 f5708 f5709 f5710 f5711 hm hse hfi hye (by omega) (by omega)) f5701 rfl rfl rfl (Nat.le_of_ble_eq_true rfl) (by decide) (by decide) rfl ?_
            refine aw_istore [(13, .int (likeC ye Sn Z Ro Co Ba sp fa ((fr * 10) + q) (((y0 / 1 % 10 - 1) * 10) + q2))), (7, .int (sv + 1)), (12, .int (nI q2)), (11, .ref (G.1 + P)), (10, .int (nI (y0 / 1 % 10 - 1))), (9, .int 1), (8, .int dv), (6, .int (nI q)), (5, .int (nI fr)), (4, .int w), (3, .int (nI y0)), (0, .ref (G.1 + 0))] dX8_followChain_97 (by decide) rfl ?_
            refine aw_iload 6 dX8_followChain_99 rfl ?_
            refine aw_iconst (0) dX8_followChain_101 (by decide) ?_
            refine aw_bipush (100) dX8_followChain_102 (by decide) ?_
            refine aw_iload 0 dX8_followChain_104 rfl ?_
            refine aw_isub dX8_followChain_106 ?_
            refine aw_mmax lX8_251 dX8_followChain_107 (Nat.le_of_ble_eq_true rfl) (by decide) (by decide) ?_
            refine aw_aload 3 dX8_followChain_110 rfl ?_
            refine aw_get fX8_137 dX8_followChain_112 f5691 rfl ?_
            refine aw_iload 7 dX8_followChain_115 rfl ?_
            refine aw_zald q (rfl) (by omega) (by decide) dX8_followChain_117 f5693 ?_
            refine aw_if_eq 125 dX8_followChain_118 (by decide) (fun c118 => ?_) (fun c118 => ?_)
            · have d118 := (j_eq (a := (ce15682 q).toInt) (b := (0)) (rfl) (rfl)).mp c118
              refine aw_bipush (50) dX8_followChain_125 (by decide) ?_
              refine aw_iadd dX8_followChain_127 ?_
              refine aw_iadd dX8_followChain_128 ?_
              refine aw_istore [(8, .int (dv + ((if 0 < (100 - (likeC ye Sn Z Ro Co Ba sp fa ((fr * 10) + q) (((y0 / 1 % 10 - 1) * 10) + q2))) then (100 - (likeC ye Sn Z Ro Co Ba sp fa ((fr * 10) + q) (((y0 / 1 % 10 - 1) * 10) + q2))) else 0) + 50))), (13, .int (likeC ye Sn Z Ro Co Ba sp fa ((fr * 10) + q) (((y0 / 1 % 10 - 1) * 10) + q2))), (7, .int (sv + 1)), (12, .int (nI q2)), (11, .ref (G.1 + P)), (10, .int (nI (y0 / 1 % 10 - 1))), (9, .int 1), (6, .int (nI q)), (5, .int (nI fr)), (4, .int w), (3, .int (nI y0)), (0, .ref (G.1 + 0))] dX8_followChain_129 (by decide) rfl ?_
              refine aw_iload 5 dX8_followChain_131 rfl ?_
              refine aw_istore [(5, .int (nI (y0 / 1 % 10 - 1))), (8, .int (dv + ((if 0 < (100 - (likeC ye Sn Z Ro Co Ba sp fa ((fr * 10) + q) (((y0 / 1 % 10 - 1) * 10) + q2))) then (100 - (likeC ye Sn Z Ro Co Ba sp fa ((fr * 10) + q) (((y0 / 1 % 10 - 1) * 10) + q2))) else 0) + 50))), (13, .int (likeC ye Sn Z Ro Co Ba sp fa ((fr * 10) + q) (((y0 / 1 % 10 - 1) * 10) + q2))), (7, .int (sv + 1)), (12, .int (nI q2)), (11, .ref (G.1 + P)), (10, .int (nI (y0 / 1 % 10 - 1))), (9, .int 1), (6, .int (nI q)), (4, .int w), (3, .int (nI y0)), (0, .ref (G.1 + 0))] dX8_followChain_133 (by decide) rfl ?_
              refine aw_iload 4 dX8_followChain_135 rfl ?_
              refine aw_istore [(6, .int (nI q2)), (5, .int (nI (y0 / 1 % 10 - 1))), (8, .int (dv + ((if 0 < (100 - (likeC ye Sn Z Ro Co Ba sp fa ((fr * 10) + q) (((y0 / 1 % 10 - 1) * 10) + q2))) then (100 - (likeC ye Sn Z Ro Co Ba sp fa ((fr * 10) + q) (((y0 / 1 % 10 - 1) * 10) + q2))) else 0) + 50))), (13, .int (likeC ye Sn Z Ro Co Ba sp fa ((fr * 10) + q) (((y0 / 1 % 10 - 1) * 10) + q2))), (7, .int (sv + 1)), (12, .int (nI q2)), (11, .ref (G.1 + P)), (10, .int (nI (y0 / 1 % 10 - 1))), (9, .int 1), (4, .int w), (3, .int (nI y0)), (0, .ref (G.1 + 0))] dX8_followChain_137 (by decide) rfl ?_
              refine aw_iload 8 dX8_followChain_139 rfl ?_
              refine aw_bipush (10) dX8_followChain_141 (by decide) ?_
              refine aw_idiv dX8_followChain_143 (by decide) ?_
              refine aw_toe 0 (by decide) ?_
              refine aw_istore [(9, .int 0), (6, .int (nI q2)), (5, .int (nI (y0 / 1 % 10 - 1))), (8, .int (dv + ((if 0 < (100 - (likeC ye Sn Z Ro Co Ba sp fa ((fr * 10) + q) (((y0 / 1 % 10 - 1) * 10) + q2))) then (100 - (likeC ye Sn Z Ro Co Ba sp fa ((fr * 10) + q) (((y0 / 1 % 10 - 1) * 10) + q2))) else 0) + 50))), (13, .int (likeC ye Sn Z Ro Co Ba sp fa ((fr * 10) + q) (((y0 / 1 % 10 - 1) * 10) + q2))), (7, .int (sv + 1)), (12, .int (nI q2)), (11, .ref (G.1 + P)), (10, .int (nI (y0 / 1 % 10 - 1))), (4, .int w), (3, .int (nI y0)), (0, .ref (G.1 + 0))] dX8_followChain_144 (by decide) rfl ?_
              refine aw_goto 16 dX8_followChain_146 (by decide) ?_
              refine aw_lv [(9, .int 0), (8, .int (dv + ((if 0 < (100 - (likeC ye Sn Z Ro Co Ba sp fa ((fr * 10) + q) (((y0 / 1 % 10 - 1) * 10) + q2))) then (100 - (likeC ye Sn Z Ro Co Ba sp fa ((fr * 10) + q) (((y0 / 1 % 10 - 1) * 10) + q2))) else 0) + 50))), (7, .int (sv + 1)), (6, .int (nI q2)), (5, .int (nI (y0 / 1 % 10 - 1))), (4, .int w), (3, .int (nI y0)), (0, .ref (G.1 + 0))] [0, 3, 5, 1, 2, 9, 10, 11] rfl ?_
              exact ih5669 0 (nI q2) (y0 / 1 % 10 - 1) (dv + ((if 0 < (100 - (likeC ye Sn Z Ro Co Ba sp fa ((fr * 10) + q) (((y0 / 1 % 10 - 1) * 10) + q2))) then (100 - (likeC ye Sn Z Ro Co Ba sp fa ((fr * 10) + q) (((y0 / 1 % 10 - 1) * 10) + q2))) else 0) + 50)) (sv + 1) u15670 v15671 ro15672 co15673 rc15674 lk15675 bs15676 wy15677 nw15678 _ (by omega) (by decide) (Or.inr ⟨_, bq2, rfl⟩) (by omega) (p5695) (p5696) (p5697) (p5698) (hJ2) f5700 f5701 f5702 f5703 f5704 f5705 f5706 f5707 f5708 f5709 f5710 f5711 f5712 f5685 f5686 f5687 f5688 f5689 f5690 (rg2_tr (k5668) (rg2_w2 k5694 (by omega) (by omega)))
            · have d118 := mt (j_eq (a := (ce15682 q).toInt) (b := (0)) (rfl) (rfl)).mpr c118
              refine aw_iconst (0) dX8_followChain_121 (by decide) ?_
              refine aw_goto 127 dX8_followChain_122 (by decide) ?_
              refine aw_iadd dX8_followChain_127 ?_
              refine aw_iadd dX8_followChain_128 ?_
              refine aw_istore [(8, .int (dv + ((if 0 < (100 - (likeC ye Sn Z Ro Co Ba sp fa ((fr * 10) + q) (((y0 / 1 % 10 - 1) * 10) + q2))) then (100 - (likeC ye Sn Z Ro Co Ba sp fa ((fr * 10) + q) (((y0 / 1 % 10 - 1) * 10) + q2))) else 0) + 0))), (13, .int (likeC ye Sn Z Ro Co Ba sp fa ((fr * 10) + q) (((y0 / 1 % 10 - 1) * 10) + q2))), (7, .int (sv + 1)), (12, .int (nI q2)), (11, .ref (G.1 + P)), (10, .int (nI (y0 / 1 % 10 - 1))), (9, .int 1), (6, .int (nI q)), (5, .int (nI fr)), (4, .int w), (3, .int (nI y0)), (0, .ref (G.1 + 0))] dX8_followChain_129 (by decide) rfl ?_
              refine aw_iload 5 dX8_followChain_131 rfl ?_
              refine aw_istore [(5, .int (nI (y0 / 1 % 10 - 1))), (8, .int (dv + ((if 0 < (100 - (likeC ye Sn Z Ro Co Ba sp fa ((fr * 10) + q) (((y0 / 1 % 10 - 1) * 10) + q2))) then (100 - (likeC ye Sn Z Ro Co Ba sp fa ((fr * 10) + q) (((y0 / 1 % 10 - 1) * 10) + q2))) else 0) + 0))), (13, .int (likeC ye Sn Z Ro Co Ba sp fa ((fr * 10) + q) (((y0 / 1 % 10 - 1) * 10) + q2))), (7, .int (sv + 1)), (12, .int (nI q2)), (11, .ref (G.1 + P)), (10, .int (nI (y0 / 1 % 10 - 1))), (9, .int 1), (6, .int (nI q)), (4, .int w), (3, .int (nI y0)), (0, .ref (G.1 + 0))] dX8_followChain_133 (by decide) rfl ?_
              refine aw_iload 4 dX8_followChain_135 rfl ?_
              refine aw_istore [(6, .int (nI q2)), (5, .int (nI (y0 / 1 % 10 - 1))), (8, .int (dv + ((if 0 < (100 - (likeC ye Sn Z Ro Co Ba sp fa ((fr * 10) + q) (((y0 / 1 % 10 - 1) * 10) + q2))) then (100 - (likeC ye Sn Z Ro Co Ba sp fa ((fr * 10) + q) (((y0 / 1 % 10 - 1) * 10) + q2))) else 0) + 0))), (13, .int (likeC ye Sn Z Ro Co Ba sp fa ((fr * 10) + q) (((y0 / 1 % 10 - 1) * 10) + q2))), (7, .int (sv + 1)), (12, .int (nI q2)), (11, .ref (G.1 + P)), (10, .int (nI (y0 / 1 % 10 - 1))), (9, .int 1), (4, .int w), (3, .int (nI y0)), (0, .ref (G.1 + 0))] dX8_followChain_137 (by decide) rfl ?_
              refine aw_iload 8 dX8_followChain_139 rfl ?_
              refine aw_bipush (10) dX8_followChain_141 (by decide) ?_
              refine aw_idiv dX8_followChain_143 (by decide) ?_
              refine aw_toe 0 (by decide) ?_
              refine aw_istore [(9, .int 0), (6, .int (nI q2)), (5, .int (nI (y0 / 1 % 10 - 1))), (8, .int (dv + ((if 0 < (100 - (likeC ye Sn Z Ro Co Ba sp fa ((fr * 10) + q) (((y0 / 1 % 10 - 1) * 10) + q2))) then (100 - (likeC ye Sn Z Ro Co Ba sp fa ((fr * 10) + q) (((y0 / 1 % 10 - 1) * 10) + q2))) else 0) + 0))), (13, .int (likeC ye Sn Z Ro Co Ba sp fa ((fr * 10) + q) (((y0 / 1 % 10 - 1) * 10) + q2))), (7, .int (sv + 1)), (12, .int (nI q2)), (11, .ref (G.1 + P)), (10, .int (nI (y0 / 1 % 10 - 1))), (4, .int w), (3, .int (nI y0)), (0, .ref (G.1 + 0))] dX8_followChain_144 (by decide) rfl ?_
              refine aw_goto 16 dX8_followChain_146 (by decide) ?_
              refine aw_lv [(9, .int 0), (8, .int (dv + ((if 0 < (100 - (likeC ye Sn Z Ro Co Ba sp fa ((fr * 10) + q) (((y0 / 1 % 10 - 1) * 10) + q2))) then (100 - (likeC ye Sn Z Ro Co Ba sp fa ((fr * 10) + q) (((y0 / 1 % 10 - 1) * 10) + q2))) else 0) + 0))), (7, .int (sv + 1)), (6, .int (nI q2)), (5, .int (nI (y0 / 1 % 10 - 1))), (4, .int w), (3, .int (nI y0)), (0, .ref (G.1 + 0))] [0, 3, 5, 1, 2, 9, 10, 11] rfl ?_
              exact ih5669 0 (nI q2) (y0 / 1 % 10 - 1) (dv + ((if 0 < (100 - (likeC ye Sn Z Ro Co Ba sp fa ((fr * 10) + q) (((y0 / 1 % 10 - 1) * 10) + q2))) then (100 - (likeC ye Sn Z Ro Co Ba sp fa ((fr * 10) + q) (((y0 / 1 % 10 - 1) * 10) + q2))) else 0) + 0)) (sv + 1) u15670 v15671 ro15672 co15673 rc15674 lk15675 bs15676 wy15677 nw15678 _ (by omega) (by decide) (Or.inr ⟨_, bq2, rfl⟩) (by omega) (p5695) (p5696) (p5697) (p5698) (hJ2) f5700 f5701 f5702 f5703 f5704 f5705 f5706 f5707 f5708 f5709 f5710 f5711 f5712 f5685 f5686 f5687 f5688 f5689 f5690 (rg2_tr (k5668) (rg2_w2 k5694 (by omega) (by omega)))
    · refine aw_lv [(9, .int 10), (8, .int dv), (7, .int sv), (6, .int ev), (5, .int (nI fr)), (4, .int w), (3, .int (nI y0)), (0, .ref (G.1 + 0))] [0, 1, 2, 3, 4, 5, 6, 7] rfl ?_
      refine aw_iload 0 dX8_followChain_16 rfl ?_
      refine aw_if_le 149 dX8_followChain_18 (by decide) (fun c18 => absurd c18 (by decide)) (fun c18 => ?_)
      refine aw_iload 3 dX8_followChain_21 rfl ?_
      refine aw_bipush (-9) dX8_followChain_23 (by decide) ?_
      refine aw_icmp_eq 149 dX8_followChain_25 (by decide) (fun c25 => ?_) (fun c25 => ?_)
      · have d25 := (j_eq (a := ev.toInt) (b := (-9)) (rfl) (rfl)).mp c25
        refine aw_iload 5 dX8_followChain_149 rfl ?_
        refine aw_if_ne 157 dX8_followChain_151 (by decide) (fun c151 => ?_) (fun c151 => ?_)
        · have d151 := mt (j_eq (a := w.toInt) (b := (0)) (rfl) (rfl)).mpr c151
          refine aw_iload 5 dX8_followChain_157 rfl ?_
          refine aw_iconst (1) dX8_followChain_159 (by decide) ?_
          refine aw_icmp_ne 168 dX8_followChain_160 (by decide) (fun c160 => ?_) (fun c160 => ?_)
          · have d160 := mt (j_eq (a := w.toInt) (b := (1)) (rfl) (rfl)).mpr c160
            refine aw_iload 1 dX8_followChain_168 rfl ?_
            subst hQF
            exact aw_iret rfl dX8_followChain_170 (by decide) (by decide) ⟨_, rfl, _, _, _, _, _, _, _, _, _, f5662, f5663, f5664, f5665, f5666, f5667, k5668, hu1, hv1, huv1, hrc1, hJ1, trivial⟩
          · have d160 := (j_eq (a := w.toInt) (b := (1)) (rfl) (rfl)).mp c160
            refine aw_iload 2 dX8_followChain_163 rfl ?_
            refine aw_goto 170 dX8_followChain_165 (by decide) ?_
            subst hQF
            exact aw_iret rfl dX8_followChain_170 (by decide) (by decide) ⟨_, rfl, _, _, _, _, _, _, _, _, _, f5662, f5663, f5664, f5665, f5666, f5667, k5668, hu1, hv1, huv1, hrc1, hJ1, trivial⟩
        · have d151 := (j_eq (a := w.toInt) (b := (0)) (rfl) (rfl)).mp c151
          refine aw_iload 3 dX8_followChain_154 rfl ?_
          subst hQF
          exact aw_iret rfl dX8_followChain_156 (by decide) (by decide) ⟨_, rfl, _, _, _, _, _, _, _, _, _, f5662, f5663, f5664, f5665, f5666, f5667, k5668, hu1, hv1, huv1, hrc1, hJ1, trivial⟩
      · have d25 := mt (j_eq (a := ev.toInt) (b := (-9)) (rfl) (rfl)).mpr c25
        obtain ⟨q, bq, rfl⟩ := he.resolve_left c25
        refine aw_iload_n 6 dX8_followChain_28 rfl rfl ?_
        refine aw_iload 0 dX8_followChain_29 rfl ?_
        refine aw_idiv dX8_followChain_31 (by decide) ?_
        refine aw_toe (nI (y0 / 10)) (nv_div (rfl) (rfl) (by omega) (by decide) (by decide)) ?_
        refine aw_bipush (10) dX8_followChain_32 (by decide) ?_
        refine aw_irem dX8_followChain_34 (by decide) ?_
        refine aw_toe (nI ((y0 / 10) % 10)) (nv_rem (rfl) (rfl) (by omega) (by decide) (by decide)) ?_
        refine aw_iconst (1) dX8_followChain_35 (by decide) ?_
        refine aw_isub dX8_followChain_36 ?_
        refine aw_istore [(10, .int ((nI ((y0 / 10) % 10)) - 1)), (9, .int 10), (8, .int dv), (7, .int sv), (6, .int (nI q)), (5, .int (nI fr)), (4, .int w), (3, .int (nI y0)), (0, .ref (G.1 + 0))] dX8_followChain_37 (by decide) rfl ?_
        refine aw_iload 0 dX8_followChain_39 rfl ?_
        refine aw_if_lt 139 dX8_followChain_41 (by decide) (fun c41 => ?_) (fun c41 => ?_)
        · have d41 := (j_lt (a := ((nI ((y0 / 10) % 10)) - 1).toInt) (b := (0)) (rfl) (rfl)).mp c41
          refine aw_iload 1 dX8_followChain_139 rfl ?_
          refine aw_bipush (10) dX8_followChain_141 (by decide) ?_
          refine aw_idiv dX8_followChain_143 (by decide) ?_
          refine aw_toe 1 (by decide) ?_
          refine aw_istore [(9, .int 1), (10, .int ((nI ((y0 / 10) % 10)) - 1)), (8, .int dv), (7, .int sv), (6, .int (nI q)), (5, .int (nI fr)), (4, .int w), (3, .int (nI y0)), (0, .ref (G.1 + 0))] dX8_followChain_144 (by decide) rfl ?_
          refine aw_goto 16 dX8_followChain_146 (by decide) ?_
          refine aw_lv [(9, .int 1), (8, .int dv), (7, .int sv), (6, .int (nI q)), (5, .int (nI fr)), (4, .int w), (3, .int (nI y0)), (0, .ref (G.1 + 0))] [0, 2, 3, 4, 5, 6, 7, 8] rfl ?_
          exact ih5669 1 (nI q) fr dv sv u1 v1 ro1 co1 rc1 lk1 bs1 wy1 nw1 _ (by omega) (by decide) (Or.inr ⟨_, bq, rfl⟩) (by omega) (hu1) (hv1) (huv1) (hrc1) (hJ1) f5649 f5650 f5651 f5652 f5653 f5654 f5655 f5656 f5657 f5658 f5659 f5660 f5661 f5662 f5663 f5664 f5665 f5666 f5667 (k5668)
        · have d41 := mt (j_lt (a := ((nI ((y0 / 10) % 10)) - 1).toInt) (b := (0)) (rfl) (rfl)).mpr c41
          have g0 : 1 ≤ y0 / 10 % 10 := by rw [dig_i (by omega)] at d41; omega
          rw [dig_e g0]
          obtain ⟨su, wa, pt, ce, pv, gg0, gg1, gg2, hpt, bpv, hfz⟩ := hJ1 (fr * 4 + (y0 / 10 % 10 - 1)) (by omega)
          obtain ⟨P, eP⟩ : ∃ P, P = 13 + 3 * (fr * 4 + (y0 / 10 % 10 - 1)) := ⟨_, rfl⟩
          rw [← eP] at gg0 gg1 gg2
          refine aw_aload_n 8 dX8_followChain_44 rfl rfl ?_
          refine aw_iload 5 dX8_followChain_45 rfl ?_
          refine aw_iload 0 dX8_followChain_47 rfl ?_
          refine aw_eV [.int (nI fr), .int (nI (y0 / 10 % 10 - 1))] [] lX8_124 vX8_bestJoining mX8_bestJoining dX8_followChain_49 (bJ (bv := bv) (J := J) (u := u1) (v := v1) (ro := ro1) (co := co1) (rc := rc1) (lk := lk1) (bs := bs1) (wy := wy1) (nw := nw1) (P := P) (pv := pv) (su := su) (wa := wa) (pt := pt) (ce := ce) (m := m) (se := se) (ye := ye) (fi := fi) (W := W) (Sn := Sn) (Z := Z) (Ro := Ro) (Co := Co) (Ba := Ba) (nb := nb) (sp := sp) (fa := fa) (ve := ve) (a := fr) (b := y0 / 10 % 10 - 1) f5649 f5650 f5651 f5652 f5653 f5654 f5655 f5656 f5657 f5658 f5659 f5660 f5661 f5662 f5663 f5664 f5665 f5666 f5667 gg0 gg1 gg2 hu1 hv1 huv1 hrc1 (by omega) hm hse hfi hye (by omega) (by omega) (by omega) (by omega) hpt eP (by omega) (by omega)) f5649 rfl rfl rfl (Nat.le_of_ble_eq_true rfl) (by decide) (by decide) rfl (fun h5727 q5726 => ?_)
          obtain ⟨u15713, v15714, ro15715, co15716, rc15717, lk15718, bs15719, wy15720, nw15721, su15722, wa15723, pt15724, ce15725, f5728, f5729, f5730, f5731, f5732, f5733, f5734, f5735, f5736, k5737, p5738, p5739, p5740, p5741, p5742⟩ := q5726
          have f5743 := rg2_at k5737 (by omega) f5649
          have f5744 := rg2_at k5737 (by omega) f5650
          have f5745 := rg2_at k5737 (by omega) f5651
          have f5746 := rg2_at k5737 (by omega) f5652
          have f5747 := rg2_at k5737 (by omega) f5653
          have f5748 := rg2_at k5737 (by omega) f5654
          have f5749 := rg2_at k5737 (by omega) f5655
          have f5750 := rg2_at k5737 (by omega) f5656
          have f5751 := rg2_at k5737 (by omega) f5657
          have f5752 := rg2_at k5737 (by omega) f5658
          have f5753 := rg2_at k5737 (by omega) f5659
          have f5754 := rg2_at k5737 (by omega) f5660
          have f5755 := rg2_at k5737 (by omega) f5661
          have hJ2 : iJs G jT h5727 := iJs_up hJ1 (k := fr * 4 + (y0 / 10 % 10 - 1)) (by omega) eP (fun j q1 q2 q3 => k5737.2 j (by omega)) f5734 f5735 f5736 p5742 bve trivial
          refine aw_astore [(11, .ref (G.1 + P)), (10, .int (nI (y0 / 10 % 10 - 1))), (9, .int 10), (8, .int dv), (7, .int sv), (6, .int (nI q)), (5, .int (nI fr)), (4, .int w), (3, .int (nI y0)), (0, .ref (G.1 + 0))] dX8_followChain_52 (by decide) rfl ?_
          refine aw_aload 0 dX8_followChain_54 rfl ?_
          refine aw_get fX8_131 dX8_followChain_56 f5734 rfl ?_
          refine aw_iload 5 dX8_followChain_59 rfl ?_
          refine aw_iald q (rfl) (by omega) (by decide) dX8_followChain_61 f5735 ?_
          refine aw_istore [(12, .int (pt15724 q)), (11, .ref (G.1 + P)), (10, .int (nI (y0 / 10 % 10 - 1))), (9, .int 10), (8, .int dv), (7, .int sv), (6, .int (nI q)), (5, .int (nI fr)), (4, .int w), (3, .int (nI y0)), (0, .ref (G.1 + 0))] dX8_followChain_62 (by decide) rfl ?_
          refine aw_iload 0 dX8_followChain_64 rfl ?_
          refine aw_bipush (-9) dX8_followChain_66 (by decide) ?_
          refine aw_icmp_eq 131 dX8_followChain_68 (by decide) (fun c68 => ?_) (fun c68 => ?_)
          · have d68 := (j_eq (a := (pt15724 q).toInt) (b := (-9)) (rfl) (rfl)).mp c68
            refine aw_iload 2 dX8_followChain_131 rfl ?_
            refine aw_istore [(5, .int (nI (y0 / 10 % 10 - 1))), (12, .int (pt15724 q)), (11, .ref (G.1 + P)), (10, .int (nI (y0 / 10 % 10 - 1))), (9, .int 10), (8, .int dv), (7, .int sv), (6, .int (nI q)), (4, .int w), (3, .int (nI y0)), (0, .ref (G.1 + 0))] dX8_followChain_133 (by decide) rfl ?_
            refine aw_iload 1 dX8_followChain_135 rfl ?_
            refine aw_istore [(6, .int (pt15724 q)), (5, .int (nI (y0 / 10 % 10 - 1))), (12, .int (pt15724 q)), (11, .ref (G.1 + P)), (10, .int (nI (y0 / 10 % 10 - 1))), (9, .int 10), (8, .int dv), (7, .int sv), (4, .int w), (3, .int (nI y0)), (0, .ref (G.1 + 0))] dX8_followChain_137 (by decide) rfl ?_
            refine aw_iload 5 dX8_followChain_139 rfl ?_
            refine aw_bipush (10) dX8_followChain_141 (by decide) ?_
            refine aw_idiv dX8_followChain_143 (by decide) ?_
            refine aw_toe 1 (by decide) ?_
            refine aw_istore [(9, .int 1), (6, .int (pt15724 q)), (5, .int (nI (y0 / 10 % 10 - 1))), (12, .int (pt15724 q)), (11, .ref (G.1 + P)), (10, .int (nI (y0 / 10 % 10 - 1))), (8, .int dv), (7, .int sv), (4, .int w), (3, .int (nI y0)), (0, .ref (G.1 + 0))] dX8_followChain_144 (by decide) rfl ?_
            refine aw_goto 16 dX8_followChain_146 (by decide) ?_
            refine aw_lv [(9, .int 1), (8, .int dv), (7, .int sv), (6, .int (pt15724 q)), (5, .int (nI (y0 / 10 % 10 - 1))), (4, .int w), (3, .int (nI y0)), (0, .ref (G.1 + 0))] [0, 6, 7, 1, 2, 8, 9, 10] rfl ?_
            exact ih5669 1 (pt15724 q) (y0 / 10 % 10 - 1) dv sv u15713 v15714 ro15715 co15716 rc15717 lk15718 bs15719 wy15720 nw15721 _ (by omega) (by decide) (p5742 q bq) (by omega) (p5738) (p5739) (p5740) (p5741) (hJ2) f5743 f5744 f5745 f5746 f5747 f5748 f5749 f5750 f5751 f5752 f5753 f5754 f5755 f5728 f5729 f5730 f5731 f5732 f5733 (rg2_tr (k5668) (rg2_w2 k5737 (by omega) (by omega)))
          · have d68 := mt (j_eq (a := (pt15724 q).toInt) (b := (-9)) (rfl) (rfl)).mpr c68
            obtain ⟨q2, bq2, eq2⟩ := (p5742 q (by omega)).resolve_left c68
            rw [eq2]
            refine aw_iinc (j := 5) (sv + 1) [(7, .int (sv + 1)), (12, .int (nI q2)), (11, .ref (G.1 + P)), (10, .int (nI (y0 / 10 % 10 - 1))), (9, .int 10), (8, .int dv), (6, .int (nI q)), (5, .int (nI fr)), (4, .int w), (3, .int (nI y0)), (0, .ref (G.1 + 0))] dX8_followChain_71 rfl (by rfl) (by decide) rfl ?_
            refine aw_aload_n 10 dX8_followChain_74 rfl rfl ?_
            refine aw_get fX8_20 dX8_followChain_75 f5743 rfl ?_
            refine aw_iload 7 dX8_followChain_78 rfl ?_
            refine aw_bipush (10) dX8_followChain_80 (by decide) ?_
            refine aw_imul dX8_followChain_82 ?_
            refine aw_toe (nI (fr * 10)) (nv_mul (rfl) (rfl)) ?_
            refine aw_iload 6 dX8_followChain_83 rfl ?_
            refine aw_iadd dX8_followChain_85 ?_
            refine aw_toe (nI ((fr * 10) + q)) (nv_add (rfl) (rfl)) ?_
            refine aw_iload 3 dX8_followChain_86 rfl ?_
            refine aw_bipush (10) dX8_followChain_88 (by decide) ?_
            refine aw_imul dX8_followChain_90 ?_
            refine aw_toe (nI ((y0 / 10 % 10 - 1) * 10)) (nv_mul (rfl) (rfl)) ?_
            refine aw_iload 1 dX8_followChain_91 rfl ?_
            refine aw_iadd dX8_followChain_93 ?_
            refine aw_toe (nI (((y0 / 10 % 10 - 1) * 10) + q2)) (nv_add (rfl) (rfl)) ?_
            refine aw_dV [.int (nI ((fr * 10) + q)), .int (nI (((y0 / 10 % 10 - 1) * 10) + q2))] [] lX8_121 vX1_likeness mX1_likeness dX8_followChain_94 (aX1_likeness (m := m) (se := se) (ye := ye) (fi := fi) (W := W) (Sn := Sn) (Z := Z) (Ro := Ro) (Co := Co) (Ba := Ba) (nb := nb) (sp := sp) (fa := fa) (ve := ve) (e := (fr * 10) + q) (f := ((y0 / 10 % 10 - 1) * 10) + q2) f5744 f5745 f5746 f5747 f5748 f5749 f5750 f5751 f5752 f5753 f5754 hm hse hfi hye (by omega) (by omega)) f5744 rfl rfl rfl (Nat.le_of_ble_eq_true rfl) (by decide) (by decide) rfl ?_
            refine aw_istore [(13, .int (likeC ye Sn Z Ro Co Ba sp fa ((fr * 10) + q) (((y0 / 10 % 10 - 1) * 10) + q2))), (7, .int (sv + 1)), (12, .int (nI q2)), (11, .ref (G.1 + P)), (10, .int (nI (y0 / 10 % 10 - 1))), (9, .int 10), (8, .int dv), (6, .int (nI q)), (5, .int (nI fr)), (4, .int w), (3, .int (nI y0)), (0, .ref (G.1 + 0))] dX8_followChain_97 (by decide) rfl ?_
            refine aw_iload 6 dX8_followChain_99 rfl ?_
            refine aw_iconst (0) dX8_followChain_101 (by decide) ?_
            refine aw_bipush (100) dX8_followChain_102 (by decide) ?_
            refine aw_iload 0 dX8_followChain_104 rfl ?_
            refine aw_isub dX8_followChain_106 ?_
            refine aw_mmax lX8_251 dX8_followChain_107 (Nat.le_of_ble_eq_true rfl) (by decide) (by decide) ?_
            refine aw_aload 3 dX8_followChain_110 rfl ?_
            refine aw_get fX8_137 dX8_followChain_112 f5734 rfl ?_
            refine aw_iload 7 dX8_followChain_115 rfl ?_
            refine aw_zald q (rfl) (by omega) (by decide) dX8_followChain_117 f5736 ?_
            refine aw_if_eq 125 dX8_followChain_118 (by decide) (fun c118 => ?_) (fun c118 => ?_)
            · have d118 := (j_eq (a := (ce15725 q).toInt) (b := (0)) (rfl) (rfl)).mp c118
              refine aw_bipush (50) dX8_followChain_125 (by decide) ?_
              refine aw_iadd dX8_followChain_127 ?_
              refine aw_iadd dX8_followChain_128 ?_
              refine aw_istore [(8, .int (dv + ((if 0 < (100 - (likeC ye Sn Z Ro Co Ba sp fa ((fr * 10) + q) (((y0 / 10 % 10 - 1) * 10) + q2))) then (100 - (likeC ye Sn Z Ro Co Ba sp fa ((fr * 10) + q) (((y0 / 10 % 10 - 1) * 10) + q2))) else 0) + 50))), (13, .int (likeC ye Sn Z Ro Co Ba sp fa ((fr * 10) + q) (((y0 / 10 % 10 - 1) * 10) + q2))), (7, .int (sv + 1)), (12, .int (nI q2)), (11, .ref (G.1 + P)), (10, .int (nI (y0 / 10 % 10 - 1))), (9, .int 10), (6, .int (nI q)), (5, .int (nI fr)), (4, .int w), (3, .int (nI y0)), (0, .ref (G.1 + 0))] dX8_followChain_129 (by decide) rfl ?_
              refine aw_iload 5 dX8_followChain_131 rfl ?_
              refine aw_istore [(5, .int (nI (y0 / 10 % 10 - 1))), (8, .int (dv + ((if 0 < (100 - (likeC ye Sn Z Ro Co Ba sp fa ((fr * 10) + q) (((y0 / 10 % 10 - 1) * 10) + q2))) then (100 - (likeC ye Sn Z Ro Co Ba sp fa ((fr * 10) + q) (((y0 / 10 % 10 - 1) * 10) + q2))) else 0) + 50))), (13, .int (likeC ye Sn Z Ro Co Ba sp fa ((fr * 10) + q) (((y0 / 10 % 10 - 1) * 10) + q2))), (7, .int (sv + 1)), (12, .int (nI q2)), (11, .ref (G.1 + P)), (10, .int (nI (y0 / 10 % 10 - 1))), (9, .int 10), (6, .int (nI q)), (4, .int w), (3, .int (nI y0)), (0, .ref (G.1 + 0))] dX8_followChain_133 (by decide) rfl ?_
              refine aw_iload 4 dX8_followChain_135 rfl ?_
              refine aw_istore [(6, .int (nI q2)), (5, .int (nI (y0 / 10 % 10 - 1))), (8, .int (dv + ((if 0 < (100 - (likeC ye Sn Z Ro Co Ba sp fa ((fr * 10) + q) (((y0 / 10 % 10 - 1) * 10) + q2))) then (100 - (likeC ye Sn Z Ro Co Ba sp fa ((fr * 10) + q) (((y0 / 10 % 10 - 1) * 10) + q2))) else 0) + 50))), (13, .int (likeC ye Sn Z Ro Co Ba sp fa ((fr * 10) + q) (((y0 / 10 % 10 - 1) * 10) + q2))), (7, .int (sv + 1)), (12, .int (nI q2)), (11, .ref (G.1 + P)), (10, .int (nI (y0 / 10 % 10 - 1))), (9, .int 10), (4, .int w), (3, .int (nI y0)), (0, .ref (G.1 + 0))] dX8_followChain_137 (by decide) rfl ?_
              refine aw_iload 8 dX8_followChain_139 rfl ?_
              refine aw_bipush (10) dX8_followChain_141 (by decide) ?_
              refine aw_idiv dX8_followChain_143 (by decide) ?_
              refine aw_toe 1 (by decide) ?_
              refine aw_istore [(9, .int 1), (6, .int (nI q2)), (5, .int (nI (y0 / 10 % 10 - 1))), (8, .int (dv + ((if 0 < (100 - (likeC ye Sn Z Ro Co Ba sp fa ((fr * 10) + q) (((y0 / 10 % 10 - 1) * 10) + q2))) then (100 - (likeC ye Sn Z Ro Co Ba sp fa ((fr * 10) + q) (((y0 / 10 % 10 - 1) * 10) + q2))) else 0) + 50))), (13, .int (likeC ye Sn Z Ro Co Ba sp fa ((fr * 10) + q) (((y0 / 10 % 10 - 1) * 10) + q2))), (7, .int (sv + 1)), (12, .int (nI q2)), (11, .ref (G.1 + P)), (10, .int (nI (y0 / 10 % 10 - 1))), (4, .int w), (3, .int (nI y0)), (0, .ref (G.1 + 0))] dX8_followChain_144 (by decide) rfl ?_
              refine aw_goto 16 dX8_followChain_146 (by decide) ?_
              refine aw_lv [(9, .int 1), (8, .int (dv + ((if 0 < (100 - (likeC ye Sn Z Ro Co Ba sp fa ((fr * 10) + q) (((y0 / 10 % 10 - 1) * 10) + q2))) then (100 - (likeC ye Sn Z Ro Co Ba sp fa ((fr * 10) + q) (((y0 / 10 % 10 - 1) * 10) + q2))) else 0) + 50))), (7, .int (sv + 1)), (6, .int (nI q2)), (5, .int (nI (y0 / 10 % 10 - 1))), (4, .int w), (3, .int (nI y0)), (0, .ref (G.1 + 0))] [0, 3, 5, 1, 2, 9, 10, 11] rfl ?_
              exact ih5669 1 (nI q2) (y0 / 10 % 10 - 1) (dv + ((if 0 < (100 - (likeC ye Sn Z Ro Co Ba sp fa ((fr * 10) + q) (((y0 / 10 % 10 - 1) * 10) + q2))) then (100 - (likeC ye Sn Z Ro Co Ba sp fa ((fr * 10) + q) (((y0 / 10 % 10 - 1) * 10) + q2))) else 0) + 50)) (sv + 1) u15713 v15714 ro15715 co15716 rc15717 lk15718 bs15719 wy15720 nw15721 _ (by omega) (by decide) (Or.inr ⟨_, bq2, rfl⟩) (by omega) (p5738) (p5739) (p5740) (p5741) (hJ2) f5743 f5744 f5745 f5746 f5747 f5748 f5749 f5750 f5751 f5752 f5753 f5754 f5755 f5728 f5729 f5730 f5731 f5732 f5733 (rg2_tr (k5668) (rg2_w2 k5737 (by omega) (by omega)))
            · have d118 := mt (j_eq (a := (ce15725 q).toInt) (b := (0)) (rfl) (rfl)).mpr c118
              refine aw_iconst (0) dX8_followChain_121 (by decide) ?_
              refine aw_goto 127 dX8_followChain_122 (by decide) ?_
              refine aw_iadd dX8_followChain_127 ?_
              refine aw_iadd dX8_followChain_128 ?_
              refine aw_istore [(8, .int (dv + ((if 0 < (100 - (likeC ye Sn Z Ro Co Ba sp fa ((fr * 10) + q) (((y0 / 10 % 10 - 1) * 10) + q2))) then (100 - (likeC ye Sn Z Ro Co Ba sp fa ((fr * 10) + q) (((y0 / 10 % 10 - 1) * 10) + q2))) else 0) + 0))), (13, .int (likeC ye Sn Z Ro Co Ba sp fa ((fr * 10) + q) (((y0 / 10 % 10 - 1) * 10) + q2))), (7, .int (sv + 1)), (12, .int (nI q2)), (11, .ref (G.1 + P)), (10, .int (nI (y0 / 10 % 10 - 1))), (9, .int 10), (6, .int (nI q)), (5, .int (nI fr)), (4, .int w), (3, .int (nI y0)), (0, .ref (G.1 + 0))] dX8_followChain_129 (by decide) rfl ?_
              refine aw_iload 5 dX8_followChain_131 rfl ?_
              refine aw_istore [(5, .int (nI (y0 / 10 % 10 - 1))), (8, .int (dv + ((if 0 < (100 - (likeC ye Sn Z Ro Co Ba sp fa ((fr * 10) + q) (((y0 / 10 % 10 - 1) * 10) + q2))) then (100 - (likeC ye Sn Z Ro Co Ba sp fa ((fr * 10) + q) (((y0 / 10 % 10 - 1) * 10) + q2))) else 0) + 0))), (13, .int (likeC ye Sn Z Ro Co Ba sp fa ((fr * 10) + q) (((y0 / 10 % 10 - 1) * 10) + q2))), (7, .int (sv + 1)), (12, .int (nI q2)), (11, .ref (G.1 + P)), (10, .int (nI (y0 / 10 % 10 - 1))), (9, .int 10), (6, .int (nI q)), (4, .int w), (3, .int (nI y0)), (0, .ref (G.1 + 0))] dX8_followChain_133 (by decide) rfl ?_
              refine aw_iload 4 dX8_followChain_135 rfl ?_
              refine aw_istore [(6, .int (nI q2)), (5, .int (nI (y0 / 10 % 10 - 1))), (8, .int (dv + ((if 0 < (100 - (likeC ye Sn Z Ro Co Ba sp fa ((fr * 10) + q) (((y0 / 10 % 10 - 1) * 10) + q2))) then (100 - (likeC ye Sn Z Ro Co Ba sp fa ((fr * 10) + q) (((y0 / 10 % 10 - 1) * 10) + q2))) else 0) + 0))), (13, .int (likeC ye Sn Z Ro Co Ba sp fa ((fr * 10) + q) (((y0 / 10 % 10 - 1) * 10) + q2))), (7, .int (sv + 1)), (12, .int (nI q2)), (11, .ref (G.1 + P)), (10, .int (nI (y0 / 10 % 10 - 1))), (9, .int 10), (4, .int w), (3, .int (nI y0)), (0, .ref (G.1 + 0))] dX8_followChain_137 (by decide) rfl ?_
              refine aw_iload 8 dX8_followChain_139 rfl ?_
              refine aw_bipush (10) dX8_followChain_141 (by decide) ?_
              refine aw_idiv dX8_followChain_143 (by decide) ?_
              refine aw_toe 1 (by decide) ?_
              refine aw_istore [(9, .int 1), (6, .int (nI q2)), (5, .int (nI (y0 / 10 % 10 - 1))), (8, .int (dv + ((if 0 < (100 - (likeC ye Sn Z Ro Co Ba sp fa ((fr * 10) + q) (((y0 / 10 % 10 - 1) * 10) + q2))) then (100 - (likeC ye Sn Z Ro Co Ba sp fa ((fr * 10) + q) (((y0 / 10 % 10 - 1) * 10) + q2))) else 0) + 0))), (13, .int (likeC ye Sn Z Ro Co Ba sp fa ((fr * 10) + q) (((y0 / 10 % 10 - 1) * 10) + q2))), (7, .int (sv + 1)), (12, .int (nI q2)), (11, .ref (G.1 + P)), (10, .int (nI (y0 / 10 % 10 - 1))), (4, .int w), (3, .int (nI y0)), (0, .ref (G.1 + 0))] dX8_followChain_144 (by decide) rfl ?_
              refine aw_goto 16 dX8_followChain_146 (by decide) ?_
              refine aw_lv [(9, .int 1), (8, .int (dv + ((if 0 < (100 - (likeC ye Sn Z Ro Co Ba sp fa ((fr * 10) + q) (((y0 / 10 % 10 - 1) * 10) + q2))) then (100 - (likeC ye Sn Z Ro Co Ba sp fa ((fr * 10) + q) (((y0 / 10 % 10 - 1) * 10) + q2))) else 0) + 0))), (7, .int (sv + 1)), (6, .int (nI q2)), (5, .int (nI (y0 / 10 % 10 - 1))), (4, .int w), (3, .int (nI y0)), (0, .ref (G.1 + 0))] [0, 3, 5, 1, 2, 9, 10, 11] rfl ?_
              exact ih5669 1 (nI q2) (y0 / 10 % 10 - 1) (dv + ((if 0 < (100 - (likeC ye Sn Z Ro Co Ba sp fa ((fr * 10) + q) (((y0 / 10 % 10 - 1) * 10) + q2))) then (100 - (likeC ye Sn Z Ro Co Ba sp fa ((fr * 10) + q) (((y0 / 10 % 10 - 1) * 10) + q2))) else 0) + 0)) (sv + 1) u15713 v15714 ro15715 co15716 rc15717 lk15718 bs15719 wy15720 nw15721 _ (by omega) (by decide) (Or.inr ⟨_, bq2, rfl⟩) (by omega) (p5738) (p5739) (p5740) (p5741) (hJ2) f5743 f5744 f5745 f5746 f5747 f5748 f5749 f5750 f5751 f5752 f5753 f5754 f5755 f5728 f5729 f5730 f5731 f5732 f5733 (rg2_tr (k5668) (rg2_w2 k5737 (by omega) (by omega)))
    · refine aw_lv [(9, .int 100), (8, .int dv), (7, .int sv), (6, .int ev), (5, .int (nI fr)), (4, .int w), (3, .int (nI y0)), (0, .ref (G.1 + 0))] [0, 1, 2, 3, 4, 5, 6, 7] rfl ?_
      refine aw_iload 0 dX8_followChain_16 rfl ?_
      refine aw_if_le 149 dX8_followChain_18 (by decide) (fun c18 => absurd c18 (by decide)) (fun c18 => ?_)
      refine aw_iload 3 dX8_followChain_21 rfl ?_
      refine aw_bipush (-9) dX8_followChain_23 (by decide) ?_
      refine aw_icmp_eq 149 dX8_followChain_25 (by decide) (fun c25 => ?_) (fun c25 => ?_)
      · have d25 := (j_eq (a := ev.toInt) (b := (-9)) (rfl) (rfl)).mp c25
        refine aw_iload 5 dX8_followChain_149 rfl ?_
        refine aw_if_ne 157 dX8_followChain_151 (by decide) (fun c151 => ?_) (fun c151 => ?_)
        · have d151 := mt (j_eq (a := w.toInt) (b := (0)) (rfl) (rfl)).mpr c151
          refine aw_iload 5 dX8_followChain_157 rfl ?_
          refine aw_iconst (1) dX8_followChain_159 (by decide) ?_
          refine aw_icmp_ne 168 dX8_followChain_160 (by decide) (fun c160 => ?_) (fun c160 => ?_)
          · have d160 := mt (j_eq (a := w.toInt) (b := (1)) (rfl) (rfl)).mpr c160
            refine aw_iload 1 dX8_followChain_168 rfl ?_
            subst hQF
            exact aw_iret rfl dX8_followChain_170 (by decide) (by decide) ⟨_, rfl, _, _, _, _, _, _, _, _, _, f5662, f5663, f5664, f5665, f5666, f5667, k5668, hu1, hv1, huv1, hrc1, hJ1, trivial⟩
          · have d160 := (j_eq (a := w.toInt) (b := (1)) (rfl) (rfl)).mp c160
            refine aw_iload 2 dX8_followChain_163 rfl ?_
            refine aw_goto 170 dX8_followChain_165 (by decide) ?_
            subst hQF
            exact aw_iret rfl dX8_followChain_170 (by decide) (by decide) ⟨_, rfl, _, _, _, _, _, _, _, _, _, f5662, f5663, f5664, f5665, f5666, f5667, k5668, hu1, hv1, huv1, hrc1, hJ1, trivial⟩
        · have d151 := (j_eq (a := w.toInt) (b := (0)) (rfl) (rfl)).mp c151
          refine aw_iload 3 dX8_followChain_154 rfl ?_
          subst hQF
          exact aw_iret rfl dX8_followChain_156 (by decide) (by decide) ⟨_, rfl, _, _, _, _, _, _, _, _, _, f5662, f5663, f5664, f5665, f5666, f5667, k5668, hu1, hv1, huv1, hrc1, hJ1, trivial⟩
      · have d25 := mt (j_eq (a := ev.toInt) (b := (-9)) (rfl) (rfl)).mpr c25
        obtain ⟨q, bq, rfl⟩ := he.resolve_left c25
        refine aw_iload_n 6 dX8_followChain_28 rfl rfl ?_
        refine aw_iload 0 dX8_followChain_29 rfl ?_
        refine aw_idiv dX8_followChain_31 (by decide) ?_
        refine aw_toe (nI (y0 / 100)) (nv_div (rfl) (rfl) (by omega) (by decide) (by decide)) ?_
        refine aw_bipush (10) dX8_followChain_32 (by decide) ?_
        refine aw_irem dX8_followChain_34 (by decide) ?_
        refine aw_toe (nI ((y0 / 100) % 10)) (nv_rem (rfl) (rfl) (by omega) (by decide) (by decide)) ?_
        refine aw_iconst (1) dX8_followChain_35 (by decide) ?_
        refine aw_isub dX8_followChain_36 ?_
        refine aw_istore [(10, .int ((nI ((y0 / 100) % 10)) - 1)), (9, .int 100), (8, .int dv), (7, .int sv), (6, .int (nI q)), (5, .int (nI fr)), (4, .int w), (3, .int (nI y0)), (0, .ref (G.1 + 0))] dX8_followChain_37 (by decide) rfl ?_
        refine aw_iload 0 dX8_followChain_39 rfl ?_
        refine aw_if_lt 139 dX8_followChain_41 (by decide) (fun c41 => ?_) (fun c41 => ?_)
        · have d41 := (j_lt (a := ((nI ((y0 / 100) % 10)) - 1).toInt) (b := (0)) (rfl) (rfl)).mp c41
          refine aw_iload 1 dX8_followChain_139 rfl ?_
          refine aw_bipush (10) dX8_followChain_141 (by decide) ?_
          refine aw_idiv dX8_followChain_143 (by decide) ?_
          refine aw_toe 10 (by decide) ?_
          refine aw_istore [(9, .int 10), (10, .int ((nI ((y0 / 100) % 10)) - 1)), (8, .int dv), (7, .int sv), (6, .int (nI q)), (5, .int (nI fr)), (4, .int w), (3, .int (nI y0)), (0, .ref (G.1 + 0))] dX8_followChain_144 (by decide) rfl ?_
          refine aw_goto 16 dX8_followChain_146 (by decide) ?_
          refine aw_lv [(9, .int 10), (8, .int dv), (7, .int sv), (6, .int (nI q)), (5, .int (nI fr)), (4, .int w), (3, .int (nI y0)), (0, .ref (G.1 + 0))] [0, 2, 3, 4, 5, 6, 7, 8] rfl ?_
          exact ih5669 2 (nI q) fr dv sv u1 v1 ro1 co1 rc1 lk1 bs1 wy1 nw1 _ (by omega) (by decide) (Or.inr ⟨_, bq, rfl⟩) (by omega) (hu1) (hv1) (huv1) (hrc1) (hJ1) f5649 f5650 f5651 f5652 f5653 f5654 f5655 f5656 f5657 f5658 f5659 f5660 f5661 f5662 f5663 f5664 f5665 f5666 f5667 (k5668)
        · have d41 := mt (j_lt (a := ((nI ((y0 / 100) % 10)) - 1).toInt) (b := (0)) (rfl) (rfl)).mpr c41
          have g0 : 1 ≤ y0 / 100 % 10 := by rw [dig_i (by omega)] at d41; omega
          rw [dig_e g0]
          obtain ⟨su, wa, pt, ce, pv, gg0, gg1, gg2, hpt, bpv, hfz⟩ := hJ1 (fr * 4 + (y0 / 100 % 10 - 1)) (by omega)
          obtain ⟨P, eP⟩ : ∃ P, P = 13 + 3 * (fr * 4 + (y0 / 100 % 10 - 1)) := ⟨_, rfl⟩
          rw [← eP] at gg0 gg1 gg2
          refine aw_aload_n 8 dX8_followChain_44 rfl rfl ?_
          refine aw_iload 5 dX8_followChain_45 rfl ?_
          refine aw_iload 0 dX8_followChain_47 rfl ?_
          refine aw_eV [.int (nI fr), .int (nI (y0 / 100 % 10 - 1))] [] lX8_124 vX8_bestJoining mX8_bestJoining dX8_followChain_49 (bJ (bv := bv) (J := J) (u := u1) (v := v1) (ro := ro1) (co := co1) (rc := rc1) (lk := lk1) (bs := bs1) (wy := wy1) (nw := nw1) (P := P) (pv := pv) (su := su) (wa := wa) (pt := pt) (ce := ce) (m := m) (se := se) (ye := ye) (fi := fi) (W := W) (Sn := Sn) (Z := Z) (Ro := Ro) (Co := Co) (Ba := Ba) (nb := nb) (sp := sp) (fa := fa) (ve := ve) (a := fr) (b := y0 / 100 % 10 - 1) f5649 f5650 f5651 f5652 f5653 f5654 f5655 f5656 f5657 f5658 f5659 f5660 f5661 f5662 f5663 f5664 f5665 f5666 f5667 gg0 gg1 gg2 hu1 hv1 huv1 hrc1 (by omega) hm hse hfi hye (by omega) (by omega) (by omega) (by omega) hpt eP (by omega) (by omega)) f5649 rfl rfl rfl (Nat.le_of_ble_eq_true rfl) (by decide) (by decide) rfl (fun h5770 q5769 => ?_)
          obtain ⟨u15756, v15757, ro15758, co15759, rc15760, lk15761, bs15762, wy15763, nw15764, su15765, wa15766, pt15767, ce15768, f5771, f5772, f5773, f5774, f5775, f5776, f5777, f5778, f5779, k5780, p5781, p5782, p5783, p5784, p5785⟩ := q5769
          have f5786 := rg2_at k5780 (by omega) f5649
          have f5787 := rg2_at k5780 (by omega) f5650
          have f5788 := rg2_at k5780 (by omega) f5651
          have f5789 := rg2_at k5780 (by omega) f5652
          have f5790 := rg2_at k5780 (by omega) f5653
          have f5791 := rg2_at k5780 (by omega) f5654
          have f5792 := rg2_at k5780 (by omega) f5655
          have f5793 := rg2_at k5780 (by omega) f5656
          have f5794 := rg2_at k5780 (by omega) f5657
          have f5795 := rg2_at k5780 (by omega) f5658
          have f5796 := rg2_at k5780 (by omega) f5659
          have f5797 := rg2_at k5780 (by omega) f5660
          have f5798 := rg2_at k5780 (by omega) f5661
          have hJ2 : iJs G jT h5770 := iJs_up hJ1 (k := fr * 4 + (y0 / 100 % 10 - 1)) (by omega) eP (fun j q1 q2 q3 => k5780.2 j (by omega)) f5777 f5778 f5779 p5785 bve trivial
          refine aw_astore [(11, .ref (G.1 + P)), (10, .int (nI (y0 / 100 % 10 - 1))), (9, .int 100), (8, .int dv), (7, .int sv), (6, .int (nI q)), (5, .int (nI fr)), (4, .int w), (3, .int (nI y0)), (0, .ref (G.1 + 0))] dX8_followChain_52 (by decide) rfl ?_
          refine aw_aload 0 dX8_followChain_54 rfl ?_
          refine aw_get fX8_131 dX8_followChain_56 f5777 rfl ?_
          refine aw_iload 5 dX8_followChain_59 rfl ?_
          refine aw_iald q (rfl) (by omega) (by decide) dX8_followChain_61 f5778 ?_
          refine aw_istore [(12, .int (pt15767 q)), (11, .ref (G.1 + P)), (10, .int (nI (y0 / 100 % 10 - 1))), (9, .int 100), (8, .int dv), (7, .int sv), (6, .int (nI q)), (5, .int (nI fr)), (4, .int w), (3, .int (nI y0)), (0, .ref (G.1 + 0))] dX8_followChain_62 (by decide) rfl ?_
          refine aw_iload 0 dX8_followChain_64 rfl ?_
          refine aw_bipush (-9) dX8_followChain_66 (by decide) ?_
          refine aw_icmp_eq 131 dX8_followChain_68 (by decide) (fun c68 => ?_) (fun c68 => ?_)
          · have d68 := (j_eq (a := (pt15767 q).toInt) (b := (-9)) (rfl) (rfl)).mp c68
            refine aw_iload 2 dX8_followChain_131 rfl ?_
            refine aw_istore [(5, .int (nI (y0 / 100 % 10 - 1))), (12, .int (pt15767 q)), (11, .ref (G.1 + P)), (10, .int (nI (y0 / 100 % 10 - 1))), (9, .int 100), (8, .int dv), (7, .int sv), (6, .int (nI q)), (4, .int w), (3, .int (nI y0)), (0, .ref (G.1 + 0))] dX8_followChain_133 (by decide) rfl ?_
            refine aw_iload 1 dX8_followChain_135 rfl ?_
            refine aw_istore [(6, .int (pt15767 q)), (5, .int (nI (y0 / 100 % 10 - 1))), (12, .int (pt15767 q)), (11, .ref (G.1 + P)), (10, .int (nI (y0 / 100 % 10 - 1))), (9, .int 100), (8, .int dv), (7, .int sv), (4, .int w), (3, .int (nI y0)), (0, .ref (G.1 + 0))] dX8_followChain_137 (by decide) rfl ?_
            refine aw_iload 5 dX8_followChain_139 rfl ?_
            refine aw_bipush (10) dX8_followChain_141 (by decide) ?_
            refine aw_idiv dX8_followChain_143 (by decide) ?_
            refine aw_toe 10 (by decide) ?_
            refine aw_istore [(9, .int 10), (6, .int (pt15767 q)), (5, .int (nI (y0 / 100 % 10 - 1))), (12, .int (pt15767 q)), (11, .ref (G.1 + P)), (10, .int (nI (y0 / 100 % 10 - 1))), (8, .int dv), (7, .int sv), (4, .int w), (3, .int (nI y0)), (0, .ref (G.1 + 0))] dX8_followChain_144 (by decide) rfl ?_
            refine aw_goto 16 dX8_followChain_146 (by decide) ?_
            refine aw_lv [(9, .int 10), (8, .int dv), (7, .int sv), (6, .int (pt15767 q)), (5, .int (nI (y0 / 100 % 10 - 1))), (4, .int w), (3, .int (nI y0)), (0, .ref (G.1 + 0))] [0, 6, 7, 1, 2, 8, 9, 10] rfl ?_
            exact ih5669 2 (pt15767 q) (y0 / 100 % 10 - 1) dv sv u15756 v15757 ro15758 co15759 rc15760 lk15761 bs15762 wy15763 nw15764 _ (by omega) (by decide) (p5785 q bq) (by omega) (p5781) (p5782) (p5783) (p5784) (hJ2) f5786 f5787 f5788 f5789 f5790 f5791 f5792 f5793 f5794 f5795 f5796 f5797 f5798 f5771 f5772 f5773 f5774 f5775 f5776 (rg2_tr (k5668) (rg2_w2 k5780 (by omega) (by omega)))
          · have d68 := mt (j_eq (a := (pt15767 q).toInt) (b := (-9)) (rfl) (rfl)).mpr c68
            obtain ⟨q2, bq2, eq2⟩ := (p5785 q (by omega)).resolve_left c68
            rw [eq2]
            refine aw_iinc (j := 5) (sv + 1) [(7, .int (sv + 1)), (12, .int (nI q2)), (11, .ref (G.1 + P)), (10, .int (nI (y0 / 100 % 10 - 1))), (9, .int 100), (8, .int dv), (6, .int (nI q)), (5, .int (nI fr)), (4, .int w), (3, .int (nI y0)), (0, .ref (G.1 + 0))] dX8_followChain_71 rfl (by rfl) (by decide) rfl ?_
            refine aw_aload_n 10 dX8_followChain_74 rfl rfl ?_
            refine aw_get fX8_20 dX8_followChain_75 f5786 rfl ?_
            refine aw_iload 7 dX8_followChain_78 rfl ?_
            refine aw_bipush (10) dX8_followChain_80 (by decide) ?_
            refine aw_imul dX8_followChain_82 ?_
            refine aw_toe (nI (fr * 10)) (nv_mul (rfl) (rfl)) ?_
            refine aw_iload 6 dX8_followChain_83 rfl ?_
            refine aw_iadd dX8_followChain_85 ?_
            refine aw_toe (nI ((fr * 10) + q)) (nv_add (rfl) (rfl)) ?_
            refine aw_iload 3 dX8_followChain_86 rfl ?_
            refine aw_bipush (10) dX8_followChain_88 (by decide) ?_
            refine aw_imul dX8_followChain_90 ?_
            refine aw_toe (nI ((y0 / 100 % 10 - 1) * 10)) (nv_mul (rfl) (rfl)) ?_
            refine aw_iload 1 dX8_followChain_91 rfl ?_
            refine aw_iadd dX8_followChain_93 ?_
            refine aw_toe (nI (((y0 / 100 % 10 - 1) * 10) + q2)) (nv_add (rfl) (rfl)) ?_
            refine aw_dV [.int (nI ((fr * 10) + q)), .int (nI (((y0 / 100 % 10 - 1) * 10) + q2))] [] lX8_121 vX1_likeness mX1_likeness dX8_followChain_94 (aX1_likeness (m := m) (se := se) (ye := ye) (fi := fi) (W := W) (Sn := Sn) (Z := Z) (Ro := Ro) (Co := Co) (Ba := Ba) (nb := nb) (sp := sp) (fa := fa) (ve := ve) (e := (fr * 10) + q) (f := ((y0 / 100 % 10 - 1) * 10) + q2) f5787 f5788 f5789 f5790 f5791 f5792 f5793 f5794 f5795 f5796 f5797 hm hse hfi hye (by omega) (by omega)) f5787 rfl rfl rfl (Nat.le_of_ble_eq_true rfl) (by decide) (by decide) rfl ?_
            refine aw_istore [(13, .int (likeC ye Sn Z Ro Co Ba sp fa ((fr * 10) + q) (((y0 / 100 % 10 - 1) * 10) + q2))), (7, .int (sv + 1)), (12, .int (nI q2)), (11, .ref (G.1 + P)), (10, .int (nI (y0 / 100 % 10 - 1))), (9, .int 100), (8, .int dv), (6, .int (nI q)), (5, .int (nI fr)), (4, .int w), (3, .int (nI y0)), (0, .ref (G.1 + 0))] dX8_followChain_97 (by decide) rfl ?_
            refine aw_iload 6 dX8_followChain_99 rfl ?_
            refine aw_iconst (0) dX8_followChain_101 (by decide) ?_
            refine aw_bipush (100) dX8_followChain_102 (by decide) ?_
            refine aw_iload 0 dX8_followChain_104 rfl ?_
            refine aw_isub dX8_followChain_106 ?_
            refine aw_mmax lX8_251 dX8_followChain_107 (Nat.le_of_ble_eq_true rfl) (by decide) (by decide) ?_
            refine aw_aload 3 dX8_followChain_110 rfl ?_
            refine aw_get fX8_137 dX8_followChain_112 f5777 rfl ?_
            refine aw_iload 7 dX8_followChain_115 rfl ?_
            refine aw_zald q (rfl) (by omega) (by decide) dX8_followChain_117 f5779 ?_
            refine aw_if_eq 125 dX8_followChain_118 (by decide) (fun c118 => ?_) (fun c118 => ?_)
            · have d118 := (j_eq (a := (ce15768 q).toInt) (b := (0)) (rfl) (rfl)).mp c118
              refine aw_bipush (50) dX8_followChain_125 (by decide) ?_
              refine aw_iadd dX8_followChain_127 ?_
              refine aw_iadd dX8_followChain_128 ?_
              refine aw_istore [(8, .int (dv + ((if 0 < (100 - (likeC ye Sn Z Ro Co Ba sp fa ((fr * 10) + q) (((y0 / 100 % 10 - 1) * 10) + q2))) then (100 - (likeC ye Sn Z Ro Co Ba sp fa ((fr * 10) + q) (((y0 / 100 % 10 - 1) * 10) + q2))) else 0) + 50))), (13, .int (likeC ye Sn Z Ro Co Ba sp fa ((fr * 10) + q) (((y0 / 100 % 10 - 1) * 10) + q2))), (7, .int (sv + 1)), (12, .int (nI q2)), (11, .ref (G.1 + P)), (10, .int (nI (y0 / 100 % 10 - 1))), (9, .int 100), (6, .int (nI q)), (5, .int (nI fr)), (4, .int w), (3, .int (nI y0)), (0, .ref (G.1 + 0))] dX8_followChain_129 (by decide) rfl ?_
              refine aw_iload 5 dX8_followChain_131 rfl ?_
              refine aw_istore [(5, .int (nI (y0 / 100 % 10 - 1))), (8, .int (dv + ((if 0 < (100 - (likeC ye Sn Z Ro Co Ba sp fa ((fr * 10) + q) (((y0 / 100 % 10 - 1) * 10) + q2))) then (100 - (likeC ye Sn Z Ro Co Ba sp fa ((fr * 10) + q) (((y0 / 100 % 10 - 1) * 10) + q2))) else 0) + 50))), (13, .int (likeC ye Sn Z Ro Co Ba sp fa ((fr * 10) + q) (((y0 / 100 % 10 - 1) * 10) + q2))), (7, .int (sv + 1)), (12, .int (nI q2)), (11, .ref (G.1 + P)), (10, .int (nI (y0 / 100 % 10 - 1))), (9, .int 100), (6, .int (nI q)), (4, .int w), (3, .int (nI y0)), (0, .ref (G.1 + 0))] dX8_followChain_133 (by decide) rfl ?_
              refine aw_iload 4 dX8_followChain_135 rfl ?_
              refine aw_istore [(6, .int (nI q2)), (5, .int (nI (y0 / 100 % 10 - 1))), (8, .int (dv + ((if 0 < (100 - (likeC ye Sn Z Ro Co Ba sp fa ((fr * 10) + q) (((y0 / 100 % 10 - 1) * 10) + q2))) then (100 - (likeC ye Sn Z Ro Co Ba sp fa ((fr * 10) + q) (((y0 / 100 % 10 - 1) * 10) + q2))) else 0) + 50))), (13, .int (likeC ye Sn Z Ro Co Ba sp fa ((fr * 10) + q) (((y0 / 100 % 10 - 1) * 10) + q2))), (7, .int (sv + 1)), (12, .int (nI q2)), (11, .ref (G.1 + P)), (10, .int (nI (y0 / 100 % 10 - 1))), (9, .int 100), (4, .int w), (3, .int (nI y0)), (0, .ref (G.1 + 0))] dX8_followChain_137 (by decide) rfl ?_
              refine aw_iload 8 dX8_followChain_139 rfl ?_
              refine aw_bipush (10) dX8_followChain_141 (by decide) ?_
              refine aw_idiv dX8_followChain_143 (by decide) ?_
              refine aw_toe 10 (by decide) ?_
              refine aw_istore [(9, .int 10), (6, .int (nI q2)), (5, .int (nI (y0 / 100 % 10 - 1))), (8, .int (dv + ((if 0 < (100 - (likeC ye Sn Z Ro Co Ba sp fa ((fr * 10) + q) (((y0 / 100 % 10 - 1) * 10) + q2))) then (100 - (likeC ye Sn Z Ro Co Ba sp fa ((fr * 10) + q) (((y0 / 100 % 10 - 1) * 10) + q2))) else 0) + 50))), (13, .int (likeC ye Sn Z Ro Co Ba sp fa ((fr * 10) + q) (((y0 / 100 % 10 - 1) * 10) + q2))), (7, .int (sv + 1)), (12, .int (nI q2)), (11, .ref (G.1 + P)), (10, .int (nI (y0 / 100 % 10 - 1))), (4, .int w), (3, .int (nI y0)), (0, .ref (G.1 + 0))] dX8_followChain_144 (by decide) rfl ?_
              refine aw_goto 16 dX8_followChain_146 (by decide) ?_
              refine aw_lv [(9, .int 10), (8, .int (dv + ((if 0 < (100 - (likeC ye Sn Z Ro Co Ba sp fa ((fr * 10) + q) (((y0 / 100 % 10 - 1) * 10) + q2))) then (100 - (likeC ye Sn Z Ro Co Ba sp fa ((fr * 10) + q) (((y0 / 100 % 10 - 1) * 10) + q2))) else 0) + 50))), (7, .int (sv + 1)), (6, .int (nI q2)), (5, .int (nI (y0 / 100 % 10 - 1))), (4, .int w), (3, .int (nI y0)), (0, .ref (G.1 + 0))] [0, 3, 5, 1, 2, 9, 10, 11] rfl ?_
              exact ih5669 2 (nI q2) (y0 / 100 % 10 - 1) (dv + ((if 0 < (100 - (likeC ye Sn Z Ro Co Ba sp fa ((fr * 10) + q) (((y0 / 100 % 10 - 1) * 10) + q2))) then (100 - (likeC ye Sn Z Ro Co Ba sp fa ((fr * 10) + q) (((y0 / 100 % 10 - 1) * 10) + q2))) else 0) + 50)) (sv + 1) u15756 v15757 ro15758 co15759 rc15760 lk15761 bs15762 wy15763 nw15764 _ (by omega) (by decide) (Or.inr ⟨_, bq2, rfl⟩) (by omega) (p5781) (p5782) (p5783) (p5784) (hJ2) f5786 f5787 f5788 f5789 f5790 f5791 f5792 f5793 f5794 f5795 f5796 f5797 f5798 f5771 f5772 f5773 f5774 f5775 f5776 (rg2_tr (k5668) (rg2_w2 k5780 (by omega) (by omega)))
            · have d118 := mt (j_eq (a := (ce15768 q).toInt) (b := (0)) (rfl) (rfl)).mpr c118
              refine aw_iconst (0) dX8_followChain_121 (by decide) ?_
              refine aw_goto 127 dX8_followChain_122 (by decide) ?_
              refine aw_iadd dX8_followChain_127 ?_
              refine aw_iadd dX8_followChain_128 ?_
              refine aw_istore [(8, .int (dv + ((if 0 < (100 - (likeC ye Sn Z Ro Co Ba sp fa ((fr * 10) + q) (((y0 / 100 % 10 - 1) * 10) + q2))) then (100 - (likeC ye Sn Z Ro Co Ba sp fa ((fr * 10) + q) (((y0 / 100 % 10 - 1) * 10) + q2))) else 0) + 0))), (13, .int (likeC ye Sn Z Ro Co Ba sp fa ((fr * 10) + q) (((y0 / 100 % 10 - 1) * 10) + q2))), (7, .int (sv + 1)), (12, .int (nI q2)), (11, .ref (G.1 + P)), (10, .int (nI (y0 / 100 % 10 - 1))), (9, .int 100), (6, .int (nI q)), (5, .int (nI fr)), (4, .int w), (3, .int (nI y0)), (0, .ref (G.1 + 0))] dX8_followChain_129 (by decide) rfl ?_
              refine aw_iload 5 dX8_followChain_131 rfl ?_
              refine aw_istore [(5, .int (nI (y0 / 100 % 10 - 1))), (8, .int (dv + ((if 0 < (100 - (likeC ye Sn Z Ro Co Ba sp fa ((fr * 10) + q) (((y0 / 100 % 10 - 1) * 10) + q2))) then (100 - (likeC ye Sn Z Ro Co Ba sp fa ((fr * 10) + q) (((y0 / 100 % 10 - 1) * 10) + q2))) else 0) + 0))), (13, .int (likeC ye Sn Z Ro Co Ba sp fa ((fr * 10) + q) (((y0 / 100 % 10 - 1) * 10) + q2))), (7, .int (sv + 1)), (12, .int (nI q2)), (11, .ref (G.1 + P)), (10, .int (nI (y0 / 100 % 10 - 1))), (9, .int 100), (6, .int (nI q)), (4, .int w), (3, .int (nI y0)), (0, .ref (G.1 + 0))] dX8_followChain_133 (by decide) rfl ?_
              refine aw_iload 4 dX8_followChain_135 rfl ?_
              refine aw_istore [(6, .int (nI q2)), (5, .int (nI (y0 / 100 % 10 - 1))), (8, .int (dv + ((if 0 < (100 - (likeC ye Sn Z Ro Co Ba sp fa ((fr * 10) + q) (((y0 / 100 % 10 - 1) * 10) + q2))) then (100 - (likeC ye Sn Z Ro Co Ba sp fa ((fr * 10) + q) (((y0 / 100 % 10 - 1) * 10) + q2))) else 0) + 0))), (13, .int (likeC ye Sn Z Ro Co Ba sp fa ((fr * 10) + q) (((y0 / 100 % 10 - 1) * 10) + q2))), (7, .int (sv + 1)), (12, .int (nI q2)), (11, .ref (G.1 + P)), (10, .int (nI (y0 / 100 % 10 - 1))), (9, .int 100), (4, .int w), (3, .int (nI y0)), (0, .ref (G.1 + 0))] dX8_followChain_137 (by decide) rfl ?_
              refine aw_iload 8 dX8_followChain_139 rfl ?_
              refine aw_bipush (10) dX8_followChain_141 (by decide) ?_
              refine aw_idiv dX8_followChain_143 (by decide) ?_
              refine aw_toe 10 (by decide) ?_
              refine aw_istore [(9, .int 10), (6, .int (nI q2)), (5, .int (nI (y0 / 100 % 10 - 1))), (8, .int (dv + ((if 0 < (100 - (likeC ye Sn Z Ro Co Ba sp fa ((fr * 10) + q) (((y0 / 100 % 10 - 1) * 10) + q2))) then (100 - (likeC ye Sn Z Ro Co Ba sp fa ((fr * 10) + q) (((y0 / 100 % 10 - 1) * 10) + q2))) else 0) + 0))), (13, .int (likeC ye Sn Z Ro Co Ba sp fa ((fr * 10) + q) (((y0 / 100 % 10 - 1) * 10) + q2))), (7, .int (sv + 1)), (12, .int (nI q2)), (11, .ref (G.1 + P)), (10, .int (nI (y0 / 100 % 10 - 1))), (4, .int w), (3, .int (nI y0)), (0, .ref (G.1 + 0))] dX8_followChain_144 (by decide) rfl ?_
              refine aw_goto 16 dX8_followChain_146 (by decide) ?_
              refine aw_lv [(9, .int 10), (8, .int (dv + ((if 0 < (100 - (likeC ye Sn Z Ro Co Ba sp fa ((fr * 10) + q) (((y0 / 100 % 10 - 1) * 10) + q2))) then (100 - (likeC ye Sn Z Ro Co Ba sp fa ((fr * 10) + q) (((y0 / 100 % 10 - 1) * 10) + q2))) else 0) + 0))), (7, .int (sv + 1)), (6, .int (nI q2)), (5, .int (nI (y0 / 100 % 10 - 1))), (4, .int w), (3, .int (nI y0)), (0, .ref (G.1 + 0))] [0, 3, 5, 1, 2, 9, 10, 11] rfl ?_
              exact ih5669 2 (nI q2) (y0 / 100 % 10 - 1) (dv + ((if 0 < (100 - (likeC ye Sn Z Ro Co Ba sp fa ((fr * 10) + q) (((y0 / 100 % 10 - 1) * 10) + q2))) then (100 - (likeC ye Sn Z Ro Co Ba sp fa ((fr * 10) + q) (((y0 / 100 % 10 - 1) * 10) + q2))) else 0) + 0)) (sv + 1) u15756 v15757 ro15758 co15759 rc15760 lk15761 bs15762 wy15763 nw15764 _ (by omega) (by decide) (Or.inr ⟨_, bq2, rfl⟩) (by omega) (p5781) (p5782) (p5783) (p5784) (hJ2) f5786 f5787 f5788 f5789 f5790 f5791 f5792 f5793 f5794 f5795 f5796 f5797 f5798 f5771 f5772 f5773 f5774 f5775 f5776 (rg2_tr (k5668) (rg2_w2 k5780 (by omega) (by omega)))
