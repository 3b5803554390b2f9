theorem nI_ne9 {i : Nat} (h : i < 10) : ¬ nI i = -9 := fun e => by
  have q := congrArg Int32.toInt e
  rw [nI_toInt (by omega)] at q
  have q2 : ((-9 : Int32).toInt) = -9 := rfl
  omega
set_option maxHeartbeats 4000000 in
theorem fcL {l : Launch} {G : xG} {h hX : List va_E} {QF : List Frame → Array Value → State → State → Prop} {bv : Value} {J : Nat} {m se ye fi : Nat → Nat} {W Sn Z Ro Co : Nat → Int32} {Ba : Nat → Int64} {nb sp fa ve : Nat} {lx : Nat → Nat → Nat → Nat → Nat} {a i y0 : Nat} {w : Int32} {x : Nat} {ev : Int32} {fr : Nat} {dv : Int32} {sv : Int32} {u1 : Nat} {v1 : Nat} {ro1 : Nat} {co1 : Nat} {rc1 : Nat → Nat} {lk1 : Nat → Int32} {bs1 : Nat → Int32} {wy1 : Nat → Int32} {nw1 : Nat → Int32}  (hl : h.length = J) (hm : ∀ j, j < 20 → m j ≤ j) (hse : ∀ j, j < 20 → se j < 20) (hfi : ∀ j, j < 4 → fi j < 11) (hye : ∀ j, j < 4 → ye j < 1901) (qJ : 125 ≤ J) (bve : ve ≤ 600) (hlx : ∀ a, a < 4 → ∀ b, b < 4 → ∀ i, i < fi a → ∀ k, k < fi b → likeC ye Sn Z Ro Co Ba sp fa (a * 10 + i) (b * 10 + k) = nI (lx a b i k)) (hlx3 : ∀ a b i k, lx a b i k ≤ 300) (g1 : 1 ≤ y0 % 10 ∧ y0 % 10 ≤ 4 ∧ y0 / 10 % 10 ≤ 4 ∧ y0 / 100 % 10 ≤ 4) (by0 : y0 < 1000) (hx : x = 0 ∨ x = 1 ∨ x = 2 ∨ x = 3) (he : ev = -9 ∨ ∃ q, q < 10 ∧ q < fi fr ∧ ev = nI q) (bfr : fr < 4) (hu1 : J + 4 ≤ u1 ∧ u1 ≤ J + 5) (hv1 : J + 4 ≤ v1 ∧ v1 ≤ J + 5) (huv1 : u1 ≠ v1 ∧ wZ wy1 nw1) (hrc1 : ∀ j, j < 11 → rc1 j < 1024) (hJ1 : iJs G (jX lx fi ve) hX) (hlq : hX.length = J + 6) (hcv : chV lx fi y0 3 a (nI i) 0 0 = chV lx fi y0 x fr ev sv dv) (xh0 : hX[0]? = some (oB 8 (lX G (.ref (G.1 + J)) (bv)))) (xh1 : hX[1]? = some (oB 1 (lC G (nI nb) (nI sp) (nI fa) (nI ve)))) (xh2 : hX[2]? = some (aI 20 (nA m))) (xh3 : hX[3]? = some (aI 20 (nA se))) (xh4 : hX[4]? = some (aI 4 (nA ye))) (xh5 : hX[5]? = some (aI 4 (nA fi))) (xh6 : hX[6]? = some (aI 40 W)) (xh7 : hX[7]? = some (aI 40 Sn)) (xh8 : hX[8]? = some (aI 40 Z)) (xh9 : hX[9]? = some (aI 40 Ro)) (xh10 : hX[10]? = some (aI 40 Co)) (xh11 : hX[11]? = some (aL 40 Ba)) (xh12 : hX[12]? = some (aR 16 (xjo G.1 16))) (xhJ : hX[J]? = some (oB 3 (lJ G J (.ref (G.1 + u1)) (.ref (G.1 + v1)) (nI ro1) (nI co1)))) (xhJ_1 : hX[J + 1]? = some (aI 100 lk1)) (xhJ_2 : hX[J + 2]? = some (aI 11 (nA rc1))) (xhJ_3 : hX[J + 3]? = some (aI 11264 bs1)) (xhu1 : hX[u1]? = some (aI 1024 wy1)) (xhv1 : hX[v1]? = some (aI 1024 nw1)) (kX : grw 0 0 13 60 h hX) (hQF : QF = xQ G 6 13430 (fun v h2 => ∃ r : Int32, v = some (.int r) ∧ (fun r h1 => ∃ u1 : Nat, ∃ v1 : Nat, ∃ ro1 : Nat, ∃ co1 : Nat, ∃ rc1 : Nat → Nat, ∃ lk1 : Nat → Int32, ∃ bs1 : Nat → Int32, ∃ wy1 : Nat → Int32, ∃ nw1 : Nat → Int32, h1[0]? = some (oB 8 (lX G (.ref (G.1 + J)) (bv))) ∧ h1[J]? = some (oB 3 (lJ G J (.ref (G.1 + u1)) (.ref (G.1 + v1)) (nI ro1) (nI co1))) ∧ h1[J + 1]? = some (aI 100 lk1) ∧ h1[J + 2]? = some (aI 11 (nA rc1)) ∧ h1[J + 3]? = some (aI 11264 bs1) ∧ h1[u1]? = some (aI 1024 wy1) ∧ h1[v1]? = some (aI 1024 nw1) ∧ grw 0 0 13 60 h h1 ∧ (J + 4 ≤ u1 ∧ u1 ≤ J + 5) ∧ (J + 4 ≤ v1 ∧ v1 ≤ J + 5) ∧ (u1 ≠ v1 ∧ wZ wy1 nw1) ∧ (∀ j, j < 11 → rc1 j < 1024) ∧ iJs G (jX lx fi ve) h1 ∧ h1.length = J + 6 ∧ r = chR w (chV lx fi y0 3 a (nI i) 0 0)) r h2)) : AW l G yX8_followChain cX8_followChain 14 (some .int) (xR 6 6 13430) (fun _ _ => True) QF (0 + 6) (0 + 13430) 16 [(9, .int (nI (p10 x))), (8, .int dv), (7, .int sv), (6, .int ev), (5, .int (nI fr)), (4, .int w), (3, .int (nI y0)), (0, .ref (G.1 + 0))] [] hX := by
  refine aw_lv [(9, .int (nI (p10 x))), (8, .int dv), (7, .int sv), (6, .int ev), (5, .int (nI fr)), (4, .int w), (3, .int (nI y0)), (0, .ref (G.1 + 0))] [0, 1, 2, 3, 4, 5, 6, 7] rfl ?_
  suffices L5798 : ∀ (mm : Nat) (x : Nat) (ev : Int32) (fr : Nat) (dv : Int32) (sv : Int32) (u1 : Nat) (v1 : Nat) (ro1 : Nat) (co1 : Nat) (rc1 : Nat → Nat) (lk1 : Nat → Int32) (bs1 : Nat → Int32) (wy1 : Nat → Int32) (nw1 : Nat → Int32) (h5777 : List va_E), x < mm → (x = 0 ∨ x = 1 ∨ x = 2 ∨ x = 3) → (ev = -9 ∨ ∃ q, q < 10 ∧ q < fi fr ∧ ev = nI q) → (fr < 4) → (J + 4 ≤ u1 ∧ u1 ≤ J + 5) → (J + 4 ≤ v1 ∧ v1 ≤ J + 5) → (u1 ≠ v1 ∧ wZ wy1 nw1) → (∀ j, j < 11 → rc1 j < 1024) → (iJs G (jX lx fi ve) h5777) → (h5777.length = J + 6) → (chV lx fi y0 3 a (nI i) 0 0 = chV lx fi y0 x fr ev sv dv) → h5777[0]? = some (oB 8 (lX G (.ref (G.1 + J)) (bv))) → h5777[1]? = some (oB 1 (lC G (nI nb) (nI sp) (nI fa) (nI ve))) → h5777[2]? = some (aI 20 (nA m)) → h5777[3]? = some (aI 20 (nA se)) → h5777[4]? = some (aI 4 (nA ye)) → h5777[5]? = some (aI 4 (nA fi)) → h5777[6]? = some (aI 40 W) → h5777[7]? = some (aI 40 Sn) → h5777[8]? = some (aI 40 Z) → h5777[9]? = some (aI 40 Ro) → h5777[10]? = some (aI 40 Co) → h5777[11]? = some (aL 40 Ba) → h5777[12]? = some (aR 16 (xjo G.1 16)) → h5777[J]? = some (oB 3 (lJ G J (.ref (G.1 + u1)) (.ref (G.1 + v1)) (nI ro1) (nI co1))) → h5777[J + 1]? = some (aI 100 lk1) → h5777[J + 2]? = some (aI 11 (nA rc1)) → h5777[J + 3]? = some (aI 11264 bs1) → h5777[u1]? = some (aI 1024 wy1) → h5777[v1]? = some (aI 1024 nw1) → grw 0 0 13 60 h h5777 → AW l G yX8_followChain cX8_followChain 14 (some .int) (xR 6 6 13430) (fun _ _ => True) QF (0 + 6) (0 + 13430) 16 [(9, .int (nI (p10 x))), (8, .int dv), (7, .int sv), (6, .int ev), (5, .int (nI fr)), (4, .int w), (3, .int (nI y0)), (0, .ref (G.1 + 0))] [] h5777 from L5798 (x + 1) x ev fr dv sv u1 v1 ro1 co1 rc1 lk1 bs1 wy1 nw1 _ (Nat.lt_succ_self _) (hx) (he) (bfr) (hu1) (hv1) (huv1) (hrc1) (hJ1) (hlq) (hcv) xh0 xh1 xh2 xh3 xh4 xh5 xh6 xh7 xh8 xh9 xh10 xh11 xh12 xhJ xhJ_1 xhJ_2 xhJ_3 xhu1 xhv1 (kX)
  intro mm
  induction mm with
  | zero =>
    intro x ev fr dv sv u1 v1 ro1 co1 rc1 lk1 bs1 wy1 nw1 h5777 hmm hx he bfr hu1 hv1 huv1 hrc1 hJ1 hlq hcv f5778 f5779 f5780 f5781 f5782 f5783 f5784 f5785 f5786 f5787 f5788 f5789 f5790 f5791 f5792 f5793 f5794 f5795 f5796 k5797
    exact absurd hmm (Nat.not_lt_zero _)
  | succ mm ih5798 =>
    intro x ev fr dv sv u1 v1 ro1 co1 rc1 lk1 bs1 wy1 nw1 h5777 hmm hx he bfr hu1 hv1 huv1 hrc1 hJ1 hlq hcv f5778 f5779 f5780 f5781 f5782 f5783 f5784 f5785 f5786 f5787 f5788 f5789 f5790 f5791 f5792 f5793 f5794 f5795 f5796 k5797
    rcases hx with rfl | rfl | rfl | rfl
    · refine aw_lv [(9, .int 0), (8, .int dv), (7, .int sv), (6, .int ev), (5, .int (nI fr)), (4, .int w), (3, .int (nI y0)), (0, .ref (G.1 + 0))] [0, 1, 2, 3, 4, 5, 6, 7] rfl ?_
      refine aw_iload 0 dX8_followChain_16 rfl ?_
      refine aw_if_le 149 dX8_followChain_18 (by decide) (fun c18 => ?_) (fun c18 => absurd (by decide) c18)
      refine aw_iload 5 dX8_followChain_149 rfl ?_
      refine aw_if_ne 157 dX8_followChain_151 (by decide) (fun c151 => ?_) (fun c151 => ?_)
      · have d151 := mt (j_eq (a := w.toInt) (b := (0)) (rfl) (rfl)).mpr c151
        refine aw_iload 5 dX8_followChain_157 rfl ?_
        refine aw_iconst (1) dX8_followChain_159 (by decide) ?_
        refine aw_icmp_ne 168 dX8_followChain_160 (by decide) (fun c160 => ?_) (fun c160 => ?_)
        · have d160 := mt (j_eq (a := w.toInt) (b := (1)) (rfl) (rfl)).mpr c160
          refine aw_iload 1 dX8_followChain_168 rfl ?_
          subst hQF
          exact aw_iret rfl dX8_followChain_170 (by decide) (by decide) ⟨_, rfl, _, _, _, _, _, _, _, _, _, f5778, f5791, f5792, f5793, f5794, f5795, f5796, k5797, hu1, hv1, huv1, hrc1, hJ1, hlq, by rw [hcv, chV_z, chR_2 c151 c160]⟩
        · have d160 := (j_eq (a := w.toInt) (b := (1)) (rfl) (rfl)).mp c160
          refine aw_iload 2 dX8_followChain_163 rfl ?_
          refine aw_goto 170 dX8_followChain_165 (by decide) ?_
          subst hQF
          exact aw_iret rfl dX8_followChain_170 (by decide) (by decide) ⟨_, rfl, _, _, _, _, _, _, _, _, _, f5778, f5791, f5792, f5793, f5794, f5795, f5796, k5797, hu1, hv1, huv1, hrc1, hJ1, hlq, by rw [hcv, chV_z, chR_1 c151 c160]⟩
      · have d151 := (j_eq (a := w.toInt) (b := (0)) (rfl) (rfl)).mp c151
        refine aw_iload 3 dX8_followChain_154 rfl ?_
        subst hQF
        exact aw_iret rfl dX8_followChain_156 (by decide) (by decide) ⟨_, rfl, _, _, _, _, _, _, _, _, _, f5778, f5791, f5792, f5793, f5794, f5795, f5796, k5797, hu1, hv1, huv1, hrc1, hJ1, hlq, by rw [hcv, chV_z, chR_0 c151]⟩
    · refine aw_lv [(9, .int 1), (8, .int dv), (7, .int sv), (6, .int ev), (5, .int (nI fr)), (4, .int w), (3, .int (nI y0)), (0, .ref (G.1 + 0))] [0, 1, 2, 3, 4, 5, 6, 7] rfl ?_
      refine aw_iload 0 dX8_followChain_16 rfl ?_
      refine aw_if_le 149 dX8_followChain_18 (by decide) (fun c18 => absurd c18 (by decide)) (fun c18 => ?_)
      refine aw_iload 3 dX8_followChain_21 rfl ?_
      refine aw_bipush (-9) dX8_followChain_23 (by decide) ?_
      refine aw_icmp_eq 149 dX8_followChain_25 (by decide) (fun c25 => ?_) (fun c25 => ?_)
      · have d25 := (j_eq (a := ev.toInt) (b := (-9)) (rfl) (rfl)).mp c25
        refine aw_iload 5 dX8_followChain_149 rfl ?_
        refine aw_if_ne 157 dX8_followChain_151 (by decide) (fun c151 => ?_) (fun c151 => ?_)
        · have d151 := mt (j_eq (a := w.toInt) (b := (0)) (rfl) (rfl)).mpr c151
          refine aw_iload 5 dX8_followChain_157 rfl ?_
          refine aw_iconst (1) dX8_followChain_159 (by decide) ?_
          refine aw_icmp_ne 168 dX8_followChain_160 (by decide) (fun c160 => ?_) (fun c160 => ?_)
          · have d160 := mt (j_eq (a := w.toInt) (b := (1)) (rfl) (rfl)).mpr c160
            refine aw_iload 1 dX8_followChain_168 rfl ?_
            subst hQF
            exact aw_iret rfl dX8_followChain_170 (by decide) (by decide) ⟨_, rfl, _, _, _, _, _, _, _, _, _, f5778, f5791, f5792, f5793, f5794, f5795, f5796, k5797, hu1, hv1, huv1, hrc1, hJ1, hlq, by rw [hcv, c25, chV_9, chR_2 c151 c160]⟩
          · have d160 := (j_eq (a := w.toInt) (b := (1)) (rfl) (rfl)).mp c160
            refine aw_iload 2 dX8_followChain_163 rfl ?_
            refine aw_goto 170 dX8_followChain_165 (by decide) ?_
            subst hQF
            exact aw_iret rfl dX8_followChain_170 (by decide) (by decide) ⟨_, rfl, _, _, _, _, _, _, _, _, _, f5778, f5791, f5792, f5793, f5794, f5795, f5796, k5797, hu1, hv1, huv1, hrc1, hJ1, hlq, by rw [hcv, c25, chV_9, chR_1 c151 c160]⟩
        · have d151 := (j_eq (a := w.toInt) (b := (0)) (rfl) (rfl)).mp c151
          refine aw_iload 3 dX8_followChain_154 rfl ?_
          subst hQF
          exact aw_iret rfl dX8_followChain_156 (by decide) (by decide) ⟨_, rfl, _, _, _, _, _, _, _, _, _, f5778, f5791, f5792, f5793, f5794, f5795, f5796, k5797, hu1, hv1, huv1, hrc1, hJ1, hlq, by rw [hcv, c25, chV_9, chR_0 c151]⟩
      · have d25 := mt (j_eq (a := ev.toInt) (b := (-9)) (rfl) (rfl)).mpr c25
        obtain ⟨q, bq, bqf, rfl⟩ := he.resolve_left c25
        refine aw_iload_n 6 dX8_followChain_28 rfl rfl ?_
        refine aw_iload 0 dX8_followChain_29 rfl ?_
        refine aw_idiv dX8_followChain_31 (by decide) ?_
        refine aw_toe (nI (y0 / 1)) (nv_div (rfl) (rfl) (by omega) (by decide) (by decide)) ?_
        refine aw_bipush (10) dX8_followChain_32 (by decide) ?_
        refine aw_irem dX8_followChain_34 (by decide) ?_
        refine aw_toe (nI ((y0 / 1) % 10)) (nv_rem (rfl) (rfl) (by omega) (by decide) (by decide)) ?_
        refine aw_iconst (1) dX8_followChain_35 (by decide) ?_
        refine aw_isub dX8_followChain_36 ?_
        refine aw_istore [(10, .int ((nI ((y0 / 1) % 10)) - 1)), (9, .int 1), (8, .int dv), (7, .int sv), (6, .int (nI q)), (5, .int (nI fr)), (4, .int w), (3, .int (nI y0)), (0, .ref (G.1 + 0))] dX8_followChain_37 (by decide) rfl ?_
        refine aw_iload 0 dX8_followChain_39 rfl ?_
        refine aw_if_lt 139 dX8_followChain_41 (by decide) (fun c41 => ?_) (fun c41 => ?_)
        · have d41 := (j_lt (a := ((nI ((y0 / 1) % 10)) - 1).toInt) (b := (0)) (rfl) (rfl)).mp c41
          refine aw_iload 1 dX8_followChain_139 rfl ?_
          refine aw_bipush (10) dX8_followChain_141 (by decide) ?_
          refine aw_idiv dX8_followChain_143 (by decide) ?_
          refine aw_toe 0 (by decide) ?_
          refine aw_istore [(9, .int 0), (10, .int ((nI ((y0 / 1) % 10)) - 1)), (8, .int dv), (7, .int sv), (6, .int (nI q)), (5, .int (nI fr)), (4, .int w), (3, .int (nI y0)), (0, .ref (G.1 + 0))] dX8_followChain_144 (by decide) rfl ?_
          refine aw_goto 16 dX8_followChain_146 (by decide) ?_
          refine aw_lv [(9, .int 0), (8, .int dv), (7, .int sv), (6, .int (nI q)), (5, .int (nI fr)), (4, .int w), (3, .int (nI y0)), (0, .ref (G.1 + 0))] [0, 2, 3, 4, 5, 6, 7, 8] rfl ?_
          exact ih5798 0 (nI q) fr dv sv u1 v1 ro1 co1 rc1 lk1 bs1 wy1 nw1 _ (by omega) (by decide) (Or.inr ⟨_, bq, bqf, rfl⟩) (by omega) (hu1) (hv1) (huv1) (hrc1) (hJ1) (hlq) (hcv.trans (chV_0 (by omega) (by rw [dig_i (by omega)] at d41; show y0 / 1 % 10 = 0; omega))) f5778 f5779 f5780 f5781 f5782 f5783 f5784 f5785 f5786 f5787 f5788 f5789 f5790 f5791 f5792 f5793 f5794 f5795 f5796 (k5797)
        · have d41 := mt (j_lt (a := ((nI ((y0 / 1) % 10)) - 1).toInt) (b := (0)) (rfl) (rfl)).mpr c41
          have g0 : 1 ≤ y0 / 1 % 10 := by rw [dig_i (by omega)] at d41; omega
          rw [dig_e g0]
          obtain ⟨su, wa, pt, ce, pv, gg0, gg1, gg2, hpt, bpv, hfz⟩ := hJ1 (fr * 4 + (y0 / 1 % 10 - 1)) (by omega)
          obtain ⟨P, eP⟩ : ∃ P, P = 13 + 3 * (fr * 4 + (y0 / 1 % 10 - 1)) := ⟨_, rfl⟩
          rw [← eP] at gg0 gg1 gg2
          refine aw_aload_n 8 dX8_followChain_44 rfl rfl ?_
          refine aw_iload 5 dX8_followChain_45 rfl ?_
          refine aw_iload 0 dX8_followChain_47 rfl ?_
          refine aw_eV [.int (nI fr), .int (nI (y0 / 1 % 10 - 1))] [] lX8_124 vX8_bestJoining mX8_bestJoining dX8_followChain_49 (bJ (bv := bv) (J := J) (u := u1) (v := v1) (ro := ro1) (co := co1) (rc := rc1) (lk := lk1) (bs := bs1) (wy := wy1) (nw := nw1) (P := P) (pv := pv) (su := su) (wa := wa) (pt := pt) (ce := ce) (m := m) (se := se) (ye := ye) (fi := fi) (W := W) (Sn := Sn) (Z := Z) (Ro := Ro) (Co := Co) (Ba := Ba) (nb := nb) (sp := sp) (fa := fa) (ve := ve) (a := fr) (b := y0 / 1 % 10 - 1) f5778 f5779 f5780 f5781 f5782 f5783 f5784 f5785 f5786 f5787 f5788 f5789 f5790 f5791 f5792 f5793 f5794 f5795 f5796 gg0 gg1 gg2 hu1 hv1 huv1 hrc1 (by omega) hm hse hfi hye (by omega) (by omega) (by omega) (by omega) hpt eP (hlx fr (by omega) (y0 / 1 % 10 - 1) (by omega)) (hlx3 fr (y0 / 1 % 10 - 1)) (by omega) (by omega) (jX_g hfz (by omega))) f5778 rfl rfl rfl (Nat.le_of_ble_eq_true rfl) (by decide) (by decide) rfl (fun h5813 q5812 => ?_)
          obtain ⟨u15799, v15800, ro15801, co15802, rc15803, lk15804, bs15805, wy15806, nw15807, su15808, wa15809, pt15810, ce15811, f5814, f5815, f5816, f5817, f5818, f5819, f5820, f5821, f5822, k5823, p5824, p5825, p5826, p5827, p5828, p5829⟩ := q5812
          have f5830 := rg2_at k5823 (by omega) f5778
          have f5831 := rg2_at k5823 (by omega) f5779
          have f5832 := rg2_at k5823 (by omega) f5780
          have f5833 := rg2_at k5823 (by omega) f5781
          have f5834 := rg2_at k5823 (by omega) f5782
          have f5835 := rg2_at k5823 (by omega) f5783
          have f5836 := rg2_at k5823 (by omega) f5784
          have f5837 := rg2_at k5823 (by omega) f5785
          have f5838 := rg2_at k5823 (by omega) f5786
          have f5839 := rg2_at k5823 (by omega) f5787
          have f5840 := rg2_at k5823 (by omega) f5788
          have f5841 := rg2_at k5823 (by omega) f5789
          have f5842 := rg2_at k5823 (by omega) f5790
          have hJ2 : iJs G (jX lx fi ve) h5813 := iJs_up hJ1 (k := fr * 4 + (y0 / 1 % 10 - 1)) (by omega) eP (fun j q1 q2 q3 => k5823.2 j (by omega)) f5820 f5821 f5822 p5828 bve (jX_at p5829 (by omega))
          refine aw_astore [(11, .ref (G.1 + P)), (10, .int (nI (y0 / 1 % 10 - 1))), (9, .int 1), (8, .int dv), (7, .int sv), (6, .int (nI q)), (5, .int (nI fr)), (4, .int w), (3, .int (nI y0)), (0, .ref (G.1 + 0))] dX8_followChain_52 (by decide) rfl ?_
          refine aw_aload 0 dX8_followChain_54 rfl ?_
          refine aw_get fX8_131 dX8_followChain_56 f5820 rfl ?_
          refine aw_iload 5 dX8_followChain_59 rfl ?_
          refine aw_iald q (rfl) (by omega) (by decide) dX8_followChain_61 f5821 ?_
          refine aw_istore [(12, .int (pt15810 q)), (11, .ref (G.1 + P)), (10, .int (nI (y0 / 1 % 10 - 1))), (9, .int 1), (8, .int dv), (7, .int sv), (6, .int (nI q)), (5, .int (nI fr)), (4, .int w), (3, .int (nI y0)), (0, .ref (G.1 + 0))] dX8_followChain_62 (by decide) rfl ?_
          refine aw_iload 0 dX8_followChain_64 rfl ?_
          refine aw_bipush (-9) dX8_followChain_66 (by decide) ?_
          refine aw_icmp_eq 131 dX8_followChain_68 (by decide) (fun c68 => ?_) (fun c68 => ?_)
          · have d68 := (j_eq (a := (pt15810 q).toInt) (b := (-9)) (rfl) (rfl)).mp c68
            refine aw_iload 2 dX8_followChain_131 rfl ?_
            refine aw_istore [(5, .int (nI (y0 / 1 % 10 - 1))), (12, .int (pt15810 q)), (11, .ref (G.1 + P)), (10, .int (nI (y0 / 1 % 10 - 1))), (9, .int 1), (8, .int dv), (7, .int sv), (6, .int (nI q)), (4, .int w), (3, .int (nI y0)), (0, .ref (G.1 + 0))] dX8_followChain_133 (by decide) rfl ?_
            refine aw_iload 1 dX8_followChain_135 rfl ?_
            refine aw_istore [(6, .int (pt15810 q)), (5, .int (nI (y0 / 1 % 10 - 1))), (12, .int (pt15810 q)), (11, .ref (G.1 + P)), (10, .int (nI (y0 / 1 % 10 - 1))), (9, .int 1), (8, .int dv), (7, .int sv), (4, .int w), (3, .int (nI y0)), (0, .ref (G.1 + 0))] dX8_followChain_137 (by decide) rfl ?_
            refine aw_iload 5 dX8_followChain_139 rfl ?_
            refine aw_bipush (10) dX8_followChain_141 (by decide) ?_
            refine aw_idiv dX8_followChain_143 (by decide) ?_
            refine aw_toe 0 (by decide) ?_
            refine aw_istore [(9, .int 0), (6, .int (pt15810 q)), (5, .int (nI (y0 / 1 % 10 - 1))), (12, .int (pt15810 q)), (11, .ref (G.1 + P)), (10, .int (nI (y0 / 1 % 10 - 1))), (8, .int dv), (7, .int sv), (4, .int w), (3, .int (nI y0)), (0, .ref (G.1 + 0))] dX8_followChain_144 (by decide) rfl ?_
            refine aw_goto 16 dX8_followChain_146 (by decide) ?_
            refine aw_lv [(9, .int 0), (8, .int dv), (7, .int sv), (6, .int (pt15810 q)), (5, .int (nI (y0 / 1 % 10 - 1))), (4, .int w), (3, .int (nI y0)), (0, .ref (G.1 + 0))] [0, 6, 7, 1, 2, 8, 9, 10] rfl ?_
            exact ih5798 0 (pt15810 q) (y0 / 1 % 10 - 1) dv sv u15799 v15800 ro15801 co15802 rc15803 lk15804 bs15805 wy15806 nw15807 _ (by omega) (by decide) (Or.inl c68) (by omega) (p5824) (p5825) (p5826) (p5827) (hJ2) (k5823.1.trans hlq) (by rw [c68]; exact hcv.trans (chV_n (t := y0 / 1 % 10 - 1) (by omega) (by show ¬ y0 / 1 % 10 = 0; omega) rfl ((p5829.2.1 q (by omega)).symm.trans c68))) f5830 f5831 f5832 f5833 f5834 f5835 f5836 f5837 f5838 f5839 f5840 f5841 f5842 f5814 f5815 f5816 f5817 f5818 f5819 (grw_r4 (k5797) k5823 (fun j q1 q2 => by omega))
          · have d68 := mt (j_eq (a := (pt15810 q).toInt) (b := (-9)) (rfl) (rfl)).mpr c68
            obtain ⟨q2, bq2, eq2⟩ := (p5828 q (by omega)).resolve_left c68
            have fb9 := hfi (y0 / 1 % 10 - 1) (by omega)
            have hP := (p5829.2.1 q (by omega)).symm.trans eq2
            have bq2f := jP_lt (by omega) (by omega) hP
            rw [eq2]
            refine aw_iinc (j := 5) (sv + 1) [(7, .int (sv + 1)), (12, .int (nI q2)), (11, .ref (G.1 + P)), (10, .int (nI (y0 / 1 % 10 - 1))), (9, .int 1), (8, .int dv), (6, .int (nI q)), (5, .int (nI fr)), (4, .int w), (3, .int (nI y0)), (0, .ref (G.1 + 0))] dX8_followChain_71 rfl (by rfl) (by decide) rfl ?_
            refine aw_aload_n 10 dX8_followChain_74 rfl rfl ?_
            refine aw_get fX8_20 dX8_followChain_75 f5830 rfl ?_
            refine aw_iload 7 dX8_followChain_78 rfl ?_
            refine aw_bipush (10) dX8_followChain_80 (by decide) ?_
            refine aw_imul dX8_followChain_82 ?_
            refine aw_toe (nI (fr * 10)) (nv_mul (rfl) (rfl)) ?_
            refine aw_iload 6 dX8_followChain_83 rfl ?_
            refine aw_iadd dX8_followChain_85 ?_
            refine aw_toe (nI ((fr * 10) + q)) (nv_add (rfl) (rfl)) ?_
            refine aw_iload 3 dX8_followChain_86 rfl ?_
            refine aw_bipush (10) dX8_followChain_88 (by decide) ?_
            refine aw_imul dX8_followChain_90 ?_
            refine aw_toe (nI ((y0 / 1 % 10 - 1) * 10)) (nv_mul (rfl) (rfl)) ?_
            refine aw_iload 1 dX8_followChain_91 rfl ?_
            refine aw_iadd dX8_followChain_93 ?_
            refine aw_toe (nI (((y0 / 1 % 10 - 1) * 10) + q2)) (nv_add (rfl) (rfl)) ?_
            refine aw_dV [.int (nI ((fr * 10) + q)), .int (nI (((y0 / 1 % 10 - 1) * 10) + q2))] [] lX8_121 vX1_likeness mX1_likeness dX8_followChain_94 (aX1_likeness (m := m) (se := se) (ye := ye) (fi := fi) (W := W) (Sn := Sn) (Z := Z) (Ro := Ro) (Co := Co) (Ba := Ba) (nb := nb) (sp := sp) (fa := fa) (ve := ve) (e := (fr * 10) + q) (f := ((y0 / 1 % 10 - 1) * 10) + q2) f5831 f5832 f5833 f5834 f5835 f5836 f5837 f5838 f5839 f5840 f5841 hm hse hfi hye (by omega) (by omega)) f5831 rfl rfl rfl (Nat.le_of_ble_eq_true rfl) (by decide) (by decide) rfl ?_
            refine aw_toe (nI (lx fr (y0 / 1 % 10 - 1) q q2)) (hlx fr (by omega) (y0 / 1 % 10 - 1) (by omega) q (by omega) q2 (by omega)) ?_
            refine aw_istore [(13, .int (nI (lx fr (y0 / 1 % 10 - 1) q q2))), (7, .int (sv + 1)), (12, .int (nI q2)), (11, .ref (G.1 + P)), (10, .int (nI (y0 / 1 % 10 - 1))), (9, .int 1), (8, .int dv), (6, .int (nI q)), (5, .int (nI fr)), (4, .int w), (3, .int (nI y0)), (0, .ref (G.1 + 0))] dX8_followChain_97 (by decide) rfl ?_
            refine aw_iload 6 dX8_followChain_99 rfl ?_
            refine aw_iconst (0) dX8_followChain_101 (by decide) ?_
            refine aw_bipush (100) dX8_followChain_102 (by decide) ?_
            refine aw_iload 0 dX8_followChain_104 rfl ?_
            refine aw_isub dX8_followChain_106 ?_
            refine aw_mmax lX8_251 dX8_followChain_107 (Nat.le_of_ble_eq_true rfl) (by decide) (by decide) ?_
            refine aw_toe (chX (nI (lx fr (y0 / 1 % 10 - 1) q q2))) (rfl) ?_
            refine aw_aload 3 dX8_followChain_110 rfl ?_
            refine aw_get fX8_137 dX8_followChain_112 f5820 rfl ?_
            refine aw_iload 7 dX8_followChain_115 rfl ?_
            refine aw_zald q (rfl) (by omega) (by decide) dX8_followChain_117 f5822 ?_
            refine aw_if_eq 125 dX8_followChain_118 (by decide) (fun c118 => ?_) (fun c118 => ?_)
            · have d118 := (j_eq (a := (ce15811 q).toInt) (b := (0)) (rfl) (rfl)).mp c118
              refine aw_bipush (50) dX8_followChain_125 (by decide) ?_
              refine aw_iadd dX8_followChain_127 ?_
              refine aw_iadd dX8_followChain_128 ?_
              refine aw_istore [(8, .int (dv + ((chX (nI (lx fr (y0 / 1 % 10 - 1) q q2))) + 50))), (13, .int (nI (lx fr (y0 / 1 % 10 - 1) q q2))), (7, .int (sv + 1)), (12, .int (nI q2)), (11, .ref (G.1 + P)), (10, .int (nI (y0 / 1 % 10 - 1))), (9, .int 1), (6, .int (nI q)), (5, .int (nI fr)), (4, .int w), (3, .int (nI y0)), (0, .ref (G.1 + 0))] dX8_followChain_129 (by decide) rfl ?_
              refine aw_iload 5 dX8_followChain_131 rfl ?_
              refine aw_istore [(5, .int (nI (y0 / 1 % 10 - 1))), (8, .int (dv + ((chX (nI (lx fr (y0 / 1 % 10 - 1) q q2))) + 50))), (13, .int (nI (lx fr (y0 / 1 % 10 - 1) q q2))), (7, .int (sv + 1)), (12, .int (nI q2)), (11, .ref (G.1 + P)), (10, .int (nI (y0 / 1 % 10 - 1))), (9, .int 1), (6, .int (nI q)), (4, .int w), (3, .int (nI y0)), (0, .ref (G.1 + 0))] dX8_followChain_133 (by decide) rfl ?_
              refine aw_iload 4 dX8_followChain_135 rfl ?_
              refine aw_istore [(6, .int (nI q2)), (5, .int (nI (y0 / 1 % 10 - 1))), (8, .int (dv + ((chX (nI (lx fr (y0 / 1 % 10 - 1) q q2))) + 50))), (13, .int (nI (lx fr (y0 / 1 % 10 - 1) q q2))), (7, .int (sv + 1)), (12, .int (nI q2)), (11, .ref (G.1 + P)), (10, .int (nI (y0 / 1 % 10 - 1))), (9, .int 1), (4, .int w), (3, .int (nI y0)), (0, .ref (G.1 + 0))] dX8_followChain_137 (by decide) rfl ?_
              refine aw_iload 8 dX8_followChain_139 rfl ?_
              refine aw_bipush (10) dX8_followChain_141 (by decide) ?_
              refine aw_idiv dX8_followChain_143 (by decide) ?_
              refine aw_toe 0 (by decide) ?_
              refine aw_istore [(9, .int 0), (6, .int (nI q2)), (5, .int (nI (y0 / 1 % 10 - 1))), (8, .int (dv + ((chX (nI (lx fr (y0 / 1 % 10 - 1) q q2))) + 50))), (13, .int (nI (lx fr (y0 / 1 % 10 - 1) q q2))), (7, .int (sv + 1)), (12, .int (nI q2)), (11, .ref (G.1 + P)), (10, .int (nI (y0 / 1 % 10 - 1))), (4, .int w), (3, .int (nI y0)), (0, .ref (G.1 + 0))] dX8_followChain_144 (by decide) rfl ?_
              refine aw_goto 16 dX8_followChain_146 (by decide) ?_
              refine aw_lv [(9, .int 0), (8, .int (dv + ((chX (nI (lx fr (y0 / 1 % 10 - 1) q q2))) + 50))), (7, .int (sv + 1)), (6, .int (nI q2)), (5, .int (nI (y0 / 1 % 10 - 1))), (4, .int w), (3, .int (nI y0)), (0, .ref (G.1 + 0))] [0, 3, 5, 1, 2, 9, 10, 11] rfl ?_
              exact ih5798 0 (nI q2) (y0 / 1 % 10 - 1) (dv + ((chX (nI (lx fr (y0 / 1 % 10 - 1) q q2))) + 50)) (sv + 1) u15799 v15800 ro15801 co15802 rc15803 lk15804 bs15805 wy15806 nw15807 _ (by omega) (by decide) (Or.inr ⟨_, bq2, bq2f, rfl⟩) (by omega) (p5824) (p5825) (p5826) (p5827) (hJ2) (k5823.1.trans hlq) (hcv.trans (chV_s (t := y0 / 1 % 10 - 1) (by omega) (by omega) (by show ¬ y0 / 1 % 10 = 0; omega) rfl hP (cc_0 (p5829.2.2.2 q (by omega)) c118))) f5830 f5831 f5832 f5833 f5834 f5835 f5836 f5837 f5838 f5839 f5840 f5841 f5842 f5814 f5815 f5816 f5817 f5818 f5819 (grw_r4 (k5797) k5823 (fun j q1 q2 => by omega))
            · have d118 := mt (j_eq (a := (ce15811 q).toInt) (b := (0)) (rfl) (rfl)).mpr c118
              refine aw_iconst (0) dX8_followChain_121 (by decide) ?_
              refine aw_goto 127 dX8_followChain_122 (by decide) ?_
              refine aw_iadd dX8_followChain_127 ?_
              refine aw_iadd dX8_followChain_128 ?_
              refine aw_istore [(8, .int (dv + ((chX (nI (lx fr (y0 / 1 % 10 - 1) q q2))) + 0))), (13, .int (nI (lx fr (y0 / 1 % 10 - 1) q q2))), (7, .int (sv + 1)), (12, .int (nI q2)), (11, .ref (G.1 + P)), (10, .int (nI (y0 / 1 % 10 - 1))), (9, .int 1), (6, .int (nI q)), (5, .int (nI fr)), (4, .int w), (3, .int (nI y0)), (0, .ref (G.1 + 0))] dX8_followChain_129 (by decide) rfl ?_
              refine aw_iload 5 dX8_followChain_131 rfl ?_
              refine aw_istore [(5, .int (nI (y0 / 1 % 10 - 1))), (8, .int (dv + ((chX (nI (lx fr (y0 / 1 % 10 - 1) q q2))) + 0))), (13, .int (nI (lx fr (y0 / 1 % 10 - 1) q q2))), (7, .int (sv + 1)), (12, .int (nI q2)), (11, .ref (G.1 + P)), (10, .int (nI (y0 / 1 % 10 - 1))), (9, .int 1), (6, .int (nI q)), (4, .int w), (3, .int (nI y0)), (0, .ref (G.1 + 0))] dX8_followChain_133 (by decide) rfl ?_
              refine aw_iload 4 dX8_followChain_135 rfl ?_
              refine aw_istore [(6, .int (nI q2)), (5, .int (nI (y0 / 1 % 10 - 1))), (8, .int (dv + ((chX (nI (lx fr (y0 / 1 % 10 - 1) q q2))) + 0))), (13, .int (nI (lx fr (y0 / 1 % 10 - 1) q q2))), (7, .int (sv + 1)), (12, .int (nI q2)), (11, .ref (G.1 + P)), (10, .int (nI (y0 / 1 % 10 - 1))), (9, .int 1), (4, .int w), (3, .int (nI y0)), (0, .ref (G.1 + 0))] dX8_followChain_137 (by decide) rfl ?_
              refine aw_iload 8 dX8_followChain_139 rfl ?_
              refine aw_bipush (10) dX8_followChain_141 (by decide) ?_
              refine aw_idiv dX8_followChain_143 (by decide) ?_
              refine aw_toe 0 (by decide) ?_
              refine aw_istore [(9, .int 0), (6, .int (nI q2)), (5, .int (nI (y0 / 1 % 10 - 1))), (8, .int (dv + ((chX (nI (lx fr (y0 / 1 % 10 - 1) q q2))) + 0))), (13, .int (nI (lx fr (y0 / 1 % 10 - 1) q q2))), (7, .int (sv + 1)), (12, .int (nI q2)), (11, .ref (G.1 + P)), (10, .int (nI (y0 / 1 % 10 - 1))), (4, .int w), (3, .int (nI y0)), (0, .ref (G.1 + 0))] dX8_followChain_144 (by decide) rfl ?_
              refine aw_goto 16 dX8_followChain_146 (by decide) ?_
              refine aw_lv [(9, .int 0), (8, .int (dv + ((chX (nI (lx fr (y0 / 1 % 10 - 1) q q2))) + 0))), (7, .int (sv + 1)), (6, .int (nI q2)), (5, .int (nI (y0 / 1 % 10 - 1))), (4, .int w), (3, .int (nI y0)), (0, .ref (G.1 + 0))] [0, 3, 5, 1, 2, 9, 10, 11] rfl ?_
              exact ih5798 0 (nI q2) (y0 / 1 % 10 - 1) (dv + ((chX (nI (lx fr (y0 / 1 % 10 - 1) q q2))) + 0)) (sv + 1) u15799 v15800 ro15801 co15802 rc15803 lk15804 bs15805 wy15806 nw15807 _ (by omega) (by decide) (Or.inr ⟨_, bq2, bq2f, rfl⟩) (by omega) (p5824) (p5825) (p5826) (p5827) (hJ2) (k5823.1.trans hlq) (hcv.trans (chV_s (t := y0 / 1 % 10 - 1) (by omega) (by omega) (by show ¬ y0 / 1 % 10 = 0; omega) rfl hP (cc_1 (p5829.2.2.2 q (by omega)) c118))) f5830 f5831 f5832 f5833 f5834 f5835 f5836 f5837 f5838 f5839 f5840 f5841 f5842 f5814 f5815 f5816 f5817 f5818 f5819 (grw_r4 (k5797) k5823 (fun j q1 q2 => by omega))
    · refine aw_lv [(9, .int 10), (8, .int dv), (7, .int sv), (6, .int ev), (5, .int (nI fr)), (4, .int w), (3, .int (nI y0)), (0, .ref (G.1 + 0))] [0, 1, 2, 3, 4, 5, 6, 7] rfl ?_
      refine aw_iload 0 dX8_followChain_16 rfl ?_
      refine aw_if_le 149 dX8_followChain_18 (by decide) (fun c18 => absurd c18 (by decide)) (fun c18 => ?_)
      refine aw_iload 3 dX8_followChain_21 rfl ?_
      refine aw_bipush (-9) dX8_followChain_23 (by decide) ?_
      refine aw_icmp_eq 149 dX8_followChain_25 (by decide) (fun c25 => ?_) (fun c25 => ?_)
      · have d25 := (j_eq (a := ev.toInt) (b := (-9)) (rfl) (rfl)).mp c25
        refine aw_iload 5 dX8_followChain_149 rfl ?_
        refine aw_if_ne 157 dX8_followChain_151 (by decide) (fun c151 => ?_) (fun c151 => ?_)
        · have d151 := mt (j_eq (a := w.toInt) (b := (0)) (rfl) (rfl)).mpr c151
          refine aw_iload 5 dX8_followChain_157 rfl ?_
          refine aw_iconst (1) dX8_followChain_159 (by decide) ?_
          refine aw_icmp_ne 168 dX8_followChain_160 (by decide) (fun c160 => ?_) (fun c160 => ?_)
          · have d160 := mt (j_eq (a := w.toInt) (b := (1)) (rfl) (rfl)).mpr c160
            refine aw_iload 1 dX8_followChain_168 rfl ?_
            subst hQF
            exact aw_iret rfl dX8_followChain_170 (by decide) (by decide) ⟨_, rfl, _, _, _, _, _, _, _, _, _, f5778, f5791, f5792, f5793, f5794, f5795, f5796, k5797, hu1, hv1, huv1, hrc1, hJ1, hlq, by rw [hcv, c25, chV_9, chR_2 c151 c160]⟩
          · have d160 := (j_eq (a := w.toInt) (b := (1)) (rfl) (rfl)).mp c160
            refine aw_iload 2 dX8_followChain_163 rfl ?_
            refine aw_goto 170 dX8_followChain_165 (by decide) ?_
            subst hQF
            exact aw_iret rfl dX8_followChain_170 (by decide) (by decide) ⟨_, rfl, _, _, _, _, _, _, _, _, _, f5778, f5791, f5792, f5793, f5794, f5795, f5796, k5797, hu1, hv1, huv1, hrc1, hJ1, hlq, by rw [hcv, c25, chV_9, chR_1 c151 c160]⟩
        · have d151 := (j_eq (a := w.toInt) (b := (0)) (rfl) (rfl)).mp c151
          refine aw_iload 3 dX8_followChain_154 rfl ?_
          subst hQF
          exact aw_iret rfl dX8_followChain_156 (by decide) (by decide) ⟨_, rfl, _, _, _, _, _, _, _, _, _, f5778, f5791, f5792, f5793, f5794, f5795, f5796, k5797, hu1, hv1, huv1, hrc1, hJ1, hlq, by rw [hcv, c25, chV_9, chR_0 c151]⟩
      · have d25 := mt (j_eq (a := ev.toInt) (b := (-9)) (rfl) (rfl)).mpr c25
        obtain ⟨q, bq, bqf, rfl⟩ := he.resolve_left c25
        refine aw_iload_n 6 dX8_followChain_28 rfl rfl ?_
        refine aw_iload 0 dX8_followChain_29 rfl ?_
        refine aw_idiv dX8_followChain_31 (by decide) ?_
        refine aw_toe (nI (y0 / 10)) (nv_div (rfl) (rfl) (by omega) (by decide) (by decide)) ?_
        refine aw_bipush (10) dX8_followChain_32 (by decide) ?_
        refine aw_irem dX8_followChain_34 (by decide) ?_
        refine aw_toe (nI ((y0 / 10) % 10)) (nv_rem (rfl) (rfl) (by omega) (by decide) (by decide)) ?_
        refine aw_iconst (1) dX8_followChain_35 (by decide) ?_
        refine aw_isub dX8_followChain_36 ?_
        refine aw_istore [(10, .int ((nI ((y0 / 10) % 10)) - 1)), (9, .int 10), (8, .int dv), (7, .int sv), (6, .int (nI q)), (5, .int (nI fr)), (4, .int w), (3, .int (nI y0)), (0, .ref (G.1 + 0))] dX8_followChain_37 (by decide) rfl ?_
        refine aw_iload 0 dX8_followChain_39 rfl ?_
        refine aw_if_lt 139 dX8_followChain_41 (by decide) (fun c41 => ?_) (fun c41 => ?_)
        · have d41 := (j_lt (a := ((nI ((y0 / 10) % 10)) - 1).toInt) (b := (0)) (rfl) (rfl)).mp c41
          refine aw_iload 1 dX8_followChain_139 rfl ?_
          refine aw_bipush (10) dX8_followChain_141 (by decide) ?_
          refine aw_idiv dX8_followChain_143 (by decide) ?_
          refine aw_toe 1 (by decide) ?_
          refine aw_istore [(9, .int 1), (10, .int ((nI ((y0 / 10) % 10)) - 1)), (8, .int dv), (7, .int sv), (6, .int (nI q)), (5, .int (nI fr)), (4, .int w), (3, .int (nI y0)), (0, .ref (G.1 + 0))] dX8_followChain_144 (by decide) rfl ?_
          refine aw_goto 16 dX8_followChain_146 (by decide) ?_
          refine aw_lv [(9, .int 1), (8, .int dv), (7, .int sv), (6, .int (nI q)), (5, .int (nI fr)), (4, .int w), (3, .int (nI y0)), (0, .ref (G.1 + 0))] [0, 2, 3, 4, 5, 6, 7, 8] rfl ?_
          exact ih5798 1 (nI q) fr dv sv u1 v1 ro1 co1 rc1 lk1 bs1 wy1 nw1 _ (by omega) (by decide) (Or.inr ⟨_, bq, bqf, rfl⟩) (by omega) (hu1) (hv1) (huv1) (hrc1) (hJ1) (hlq) (hcv.trans (chV_0 (by omega) (by rw [dig_i (by omega)] at d41; show y0 / 10 % 10 = 0; omega))) f5778 f5779 f5780 f5781 f5782 f5783 f5784 f5785 f5786 f5787 f5788 f5789 f5790 f5791 f5792 f5793 f5794 f5795 f5796 (k5797)
        · have d41 := mt (j_lt (a := ((nI ((y0 / 10) % 10)) - 1).toInt) (b := (0)) (rfl) (rfl)).mpr c41
          have g0 : 1 ≤ y0 / 10 % 10 := by rw [dig_i (by omega)] at d41; omega
          rw [dig_e g0]
          obtain ⟨su, wa, pt, ce, pv, gg0, gg1, gg2, hpt, bpv, hfz⟩ := hJ1 (fr * 4 + (y0 / 10 % 10 - 1)) (by omega)
          obtain ⟨P, eP⟩ : ∃ P, P = 13 + 3 * (fr * 4 + (y0 / 10 % 10 - 1)) := ⟨_, rfl⟩
          rw [← eP] at gg0 gg1 gg2
          refine aw_aload_n 8 dX8_followChain_44 rfl rfl ?_
          refine aw_iload 5 dX8_followChain_45 rfl ?_
          refine aw_iload 0 dX8_followChain_47 rfl ?_
          refine aw_eV [.int (nI fr), .int (nI (y0 / 10 % 10 - 1))] [] lX8_124 vX8_bestJoining mX8_bestJoining dX8_followChain_49 (bJ (bv := bv) (J := J) (u := u1) (v := v1) (ro := ro1) (co := co1) (rc := rc1) (lk := lk1) (bs := bs1) (wy := wy1) (nw := nw1) (P := P) (pv := pv) (su := su) (wa := wa) (pt := pt) (ce := ce) (m := m) (se := se) (ye := ye) (fi := fi) (W := W) (Sn := Sn) (Z := Z) (Ro := Ro) (Co := Co) (Ba := Ba) (nb := nb) (sp := sp) (fa := fa) (ve := ve) (a := fr) (b := y0 / 10 % 10 - 1) f5778 f5779 f5780 f5781 f5782 f5783 f5784 f5785 f5786 f5787 f5788 f5789 f5790 f5791 f5792 f5793 f5794 f5795 f5796 gg0 gg1 gg2 hu1 hv1 huv1 hrc1 (by omega) hm hse hfi hye (by omega) (by omega) (by omega) (by omega) hpt eP (hlx fr (by omega) (y0 / 10 % 10 - 1) (by omega)) (hlx3 fr (y0 / 10 % 10 - 1)) (by omega) (by omega) (jX_g hfz (by omega))) f5778 rfl rfl rfl (Nat.le_of_ble_eq_true rfl) (by decide) (by decide) rfl (fun h5857 q5856 => ?_)
          obtain ⟨u15843, v15844, ro15845, co15846, rc15847, lk15848, bs15849, wy15850, nw15851, su15852, wa15853, pt15854, ce15855, f5858, f5859, f5860, f5861, f5862, f5863, f5864, f5865, f5866, k5867, p5868, p5869, p5870, p5871, p5872, p5873⟩ := q5856
          have f5874 := rg2_at k5867 (by omega) f5778
          have f5875 := rg2_at k5867 (by omega) f5779
          have f5876 := rg2_at k5867 (by omega) f5780
          have f5877 := rg2_at k5867 (by omega) f5781
          have f5878 := rg2_at k5867 (by omega) f5782
          have f5879 := rg2_at k5867 (by omega) f5783
          have f5880 := rg2_at k5867 (by omega) f5784
          have f5881 := rg2_at k5867 (by omega) f5785
          have f5882 := rg2_at k5867 (by omega) f5786
          have f5883 := rg2_at k5867 (by omega) f5787
          have f5884 := rg2_at k5867 (by omega) f5788
          have f5885 := rg2_at k5867 (by omega) f5789
          have f5886 := rg2_at k5867 (by omega) f5790
          have hJ2 : iJs G (jX lx fi ve) h5857 := iJs_up hJ1 (k := fr * 4 + (y0 / 10 % 10 - 1)) (by omega) eP (fun j q1 q2 q3 => k5867.2 j (by omega)) f5864 f5865 f5866 p5872 bve (jX_at p5873 (by omega))
          refine aw_astore [(11, .ref (G.1 + P)), (10, .int (nI (y0 / 10 % 10 - 1))), (9, .int 10), (8, .int dv), (7, .int sv), (6, .int (nI q)), (5, .int (nI fr)), (4, .int w), (3, .int (nI y0)), (0, .ref (G.1 + 0))] dX8_followChain_52 (by decide) rfl ?_
          refine aw_aload 0 dX8_followChain_54 rfl ?_
          refine aw_get fX8_131 dX8_followChain_56 f5864 rfl ?_
          refine aw_iload 5 dX8_followChain_59 rfl ?_
          refine aw_iald q (rfl) (by omega) (by decide) dX8_followChain_61 f5865 ?_
          refine aw_istore [(12, .int (pt15854 q)), (11, .ref (G.1 + P)), (10, .int (nI (y0 / 10 % 10 - 1))), (9, .int 10), (8, .int dv), (7, .int sv), (6, .int (nI q)), (5, .int (nI fr)), (4, .int w), (3, .int (nI y0)), (0, .ref (G.1 + 0))] dX8_followChain_62 (by decide) rfl ?_
          refine aw_iload 0 dX8_followChain_64 rfl ?_
          refine aw_bipush (-9) dX8_followChain_66 (by decide) ?_
          refine aw_icmp_eq 131 dX8_followChain_68 (by decide) (fun c68 => ?_) (fun c68 => ?_)
          · have d68 := (j_eq (a := (pt15854 q).toInt) (b := (-9)) (rfl) (rfl)).mp c68
            refine aw_iload 2 dX8_followChain_131 rfl ?_
            refine aw_istore [(5, .int (nI (y0 / 10 % 10 - 1))), (12, .int (pt15854 q)), (11, .ref (G.1 + P)), (10, .int (nI (y0 / 10 % 10 - 1))), (9, .int 10), (8, .int dv), (7, .int sv), (6, .int (nI q)), (4, .int w), (3, .int (nI y0)), (0, .ref (G.1 + 0))] dX8_followChain_133 (by decide) rfl ?_
            refine aw_iload 1 dX8_followChain_135 rfl ?_
            refine aw_istore [(6, .int (pt15854 q)), (5, .int (nI (y0 / 10 % 10 - 1))), (12, .int (pt15854 q)), (11, .ref (G.1 + P)), (10, .int (nI (y0 / 10 % 10 - 1))), (9, .int 10), (8, .int dv), (7, .int sv), (4, .int w), (3, .int (nI y0)), (0, .ref (G.1 + 0))] dX8_followChain_137 (by decide) rfl ?_
            refine aw_iload 5 dX8_followChain_139 rfl ?_
            refine aw_bipush (10) dX8_followChain_141 (by decide) ?_
            refine aw_idiv dX8_followChain_143 (by decide) ?_
            refine aw_toe 1 (by decide) ?_
            refine aw_istore [(9, .int 1), (6, .int (pt15854 q)), (5, .int (nI (y0 / 10 % 10 - 1))), (12, .int (pt15854 q)), (11, .ref (G.1 + P)), (10, .int (nI (y0 / 10 % 10 - 1))), (8, .int dv), (7, .int sv), (4, .int w), (3, .int (nI y0)), (0, .ref (G.1 + 0))] dX8_followChain_144 (by decide) rfl ?_
            refine aw_goto 16 dX8_followChain_146 (by decide) ?_
            refine aw_lv [(9, .int 1), (8, .int dv), (7, .int sv), (6, .int (pt15854 q)), (5, .int (nI (y0 / 10 % 10 - 1))), (4, .int w), (3, .int (nI y0)), (0, .ref (G.1 + 0))] [0, 6, 7, 1, 2, 8, 9, 10] rfl ?_
            exact ih5798 1 (pt15854 q) (y0 / 10 % 10 - 1) dv sv u15843 v15844 ro15845 co15846 rc15847 lk15848 bs15849 wy15850 nw15851 _ (by omega) (by decide) (Or.inl c68) (by omega) (p5868) (p5869) (p5870) (p5871) (hJ2) (k5867.1.trans hlq) (by rw [c68]; exact hcv.trans (chV_n (t := y0 / 10 % 10 - 1) (by omega) (by show ¬ y0 / 10 % 10 = 0; omega) rfl ((p5873.2.1 q (by omega)).symm.trans c68))) f5874 f5875 f5876 f5877 f5878 f5879 f5880 f5881 f5882 f5883 f5884 f5885 f5886 f5858 f5859 f5860 f5861 f5862 f5863 (grw_r4 (k5797) k5867 (fun j q1 q2 => by omega))
          · have d68 := mt (j_eq (a := (pt15854 q).toInt) (b := (-9)) (rfl) (rfl)).mpr c68
            obtain ⟨q2, bq2, eq2⟩ := (p5872 q (by omega)).resolve_left c68
            have fb9 := hfi (y0 / 10 % 10 - 1) (by omega)
            have hP := (p5873.2.1 q (by omega)).symm.trans eq2
            have bq2f := jP_lt (by omega) (by omega) hP
            rw [eq2]
            refine aw_iinc (j := 5) (sv + 1) [(7, .int (sv + 1)), (12, .int (nI q2)), (11, .ref (G.1 + P)), (10, .int (nI (y0 / 10 % 10 - 1))), (9, .int 10), (8, .int dv), (6, .int (nI q)), (5, .int (nI fr)), (4, .int w), (3, .int (nI y0)), (0, .ref (G.1 + 0))] dX8_followChain_71 rfl (by rfl) (by decide) rfl ?_
            refine aw_aload_n 10 dX8_followChain_74 rfl rfl ?_
            refine aw_get fX8_20 dX8_followChain_75 f5874 rfl ?_
            refine aw_iload 7 dX8_followChain_78 rfl ?_
            refine aw_bipush (10) dX8_followChain_80 (by decide) ?_
            refine aw_imul dX8_followChain_82 ?_
            refine aw_toe (nI (fr * 10)) (nv_mul (rfl) (rfl)) ?_
            refine aw_iload 6 dX8_followChain_83 rfl ?_
            refine aw_iadd dX8_followChain_85 ?_
            refine aw_toe (nI ((fr * 10) + q)) (nv_add (rfl) (rfl)) ?_
            refine aw_iload 3 dX8_followChain_86 rfl ?_
            refine aw_bipush (10) dX8_followChain_88 (by decide) ?_
            refine aw_imul dX8_followChain_90 ?_
            refine aw_toe (nI ((y0 / 10 % 10 - 1) * 10)) (nv_mul (rfl) (rfl)) ?_
            refine aw_iload 1 dX8_followChain_91 rfl ?_
            refine aw_iadd dX8_followChain_93 ?_
            refine aw_toe (nI (((y0 / 10 % 10 - 1) * 10) + q2)) (nv_add (rfl) (rfl)) ?_
            refine aw_dV [.int (nI ((fr * 10) + q)), .int (nI (((y0 / 10 % 10 - 1) * 10) + q2))] [] lX8_121 vX1_likeness mX1_likeness dX8_followChain_94 (aX1_likeness (m := m) (se := se) (ye := ye) (fi := fi) (W := W) (Sn := Sn) (Z := Z) (Ro := Ro) (Co := Co) (Ba := Ba) (nb := nb) (sp := sp) (fa := fa) (ve := ve) (e := (fr * 10) + q) (f := ((y0 / 10 % 10 - 1) * 10) + q2) f5875 f5876 f5877 f5878 f5879 f5880 f5881 f5882 f5883 f5884 f5885 hm hse hfi hye (by omega) (by omega)) f5875 rfl rfl rfl (Nat.le_of_ble_eq_true rfl) (by decide) (by decide) rfl ?_
            refine aw_toe (nI (lx fr (y0 / 10 % 10 - 1) q q2)) (hlx fr (by omega) (y0 / 10 % 10 - 1) (by omega) q (by omega) q2 (by omega)) ?_
            refine aw_istore [(13, .int (nI (lx fr (y0 / 10 % 10 - 1) q q2))), (7, .int (sv + 1)), (12, .int (nI q2)), (11, .ref (G.1 + P)), (10, .int (nI (y0 / 10 % 10 - 1))), (9, .int 10), (8, .int dv), (6, .int (nI q)), (5, .int (nI fr)), (4, .int w), (3, .int (nI y0)), (0, .ref (G.1 + 0))] dX8_followChain_97 (by decide) rfl ?_
            refine aw_iload 6 dX8_followChain_99 rfl ?_
            refine aw_iconst (0) dX8_followChain_101 (by decide) ?_
            refine aw_bipush (100) dX8_followChain_102 (by decide) ?_
            refine aw_iload 0 dX8_followChain_104 rfl ?_
            refine aw_isub dX8_followChain_106 ?_
            refine aw_mmax lX8_251 dX8_followChain_107 (Nat.le_of_ble_eq_true rfl) (by decide) (by decide) ?_
            refine aw_toe (chX (nI (lx fr (y0 / 10 % 10 - 1) q q2))) (rfl) ?_
            refine aw_aload 3 dX8_followChain_110 rfl ?_
            refine aw_get fX8_137 dX8_followChain_112 f5864 rfl ?_
            refine aw_iload 7 dX8_followChain_115 rfl ?_
            refine aw_zald q (rfl) (by omega) (by decide) dX8_followChain_117 f5866 ?_
            refine aw_if_eq 125 dX8_followChain_118 (by decide) (fun c118 => ?_) (fun c118 => ?_)
            · have d118 := (j_eq (a := (ce15855 q).toInt) (b := (0)) (rfl) (rfl)).mp c118
              refine aw_bipush (50) dX8_followChain_125 (by decide) ?_
              refine aw_iadd dX8_followChain_127 ?_
              refine aw_iadd dX8_followChain_128 ?_
              refine aw_istore [(8, .int (dv + ((chX (nI (lx fr (y0 / 10 % 10 - 1) q q2))) + 50))), (13, .int (nI (lx fr (y0 / 10 % 10 - 1) q q2))), (7, .int (sv + 1)), (12, .int (nI q2)), (11, .ref (G.1 + P)), (10, .int (nI (y0 / 10 % 10 - 1))), (9, .int 10), (6, .int (nI q)), (5, .int (nI fr)), (4, .int w), (3, .int (nI y0)), (0, .ref (G.1 + 0))] dX8_followChain_129 (by decide) rfl ?_
              refine aw_iload 5 dX8_followChain_131 rfl ?_
              refine aw_istore [(5, .int (nI (y0 / 10 % 10 - 1))), (8, .int (dv + ((chX (nI (lx fr (y0 / 10 % 10 - 1) q q2))) + 50))), (13, .int (nI (lx fr (y0 / 10 % 10 - 1) q q2))), (7, .int (sv + 1)), (12, .int (nI q2)), (11, .ref (G.1 + P)), (10, .int (nI (y0 / 10 % 10 - 1))), (9, .int 10), (6, .int (nI q)), (4, .int w), (3, .int (nI y0)), (0, .ref (G.1 + 0))] dX8_followChain_133 (by decide) rfl ?_
              refine aw_iload 4 dX8_followChain_135 rfl ?_
              refine aw_istore [(6, .int (nI q2)), (5, .int (nI (y0 / 10 % 10 - 1))), (8, .int (dv + ((chX (nI (lx fr (y0 / 10 % 10 - 1) q q2))) + 50))), (13, .int (nI (lx fr (y0 / 10 % 10 - 1) q q2))), (7, .int (sv + 1)), (12, .int (nI q2)), (11, .ref (G.1 + P)), (10, .int (nI (y0 / 10 % 10 - 1))), (9, .int 10), (4, .int w), (3, .int (nI y0)), (0, .ref (G.1 + 0))] dX8_followChain_137 (by decide) rfl ?_
              refine aw_iload 8 dX8_followChain_139 rfl ?_
              refine aw_bipush (10) dX8_followChain_141 (by decide) ?_
              refine aw_idiv dX8_followChain_143 (by decide) ?_
              refine aw_toe 1 (by decide) ?_
              refine aw_istore [(9, .int 1), (6, .int (nI q2)), (5, .int (nI (y0 / 10 % 10 - 1))), (8, .int (dv + ((chX (nI (lx fr (y0 / 10 % 10 - 1) q q2))) + 50))), (13, .int (nI (lx fr (y0 / 10 % 10 - 1) q q2))), (7, .int (sv + 1)), (12, .int (nI q2)), (11, .ref (G.1 + P)), (10, .int (nI (y0 / 10 % 10 - 1))), (4, .int w), (3, .int (nI y0)), (0, .ref (G.1 + 0))] dX8_followChain_144 (by decide) rfl ?_
              refine aw_goto 16 dX8_followChain_146 (by decide) ?_
              refine aw_lv [(9, .int 1), (8, .int (dv + ((chX (nI (lx fr (y0 / 10 % 10 - 1) q q2))) + 50))), (7, .int (sv + 1)), (6, .int (nI q2)), (5, .int (nI (y0 / 10 % 10 - 1))), (4, .int w), (3, .int (nI y0)), (0, .ref (G.1 + 0))] [0, 3, 5, 1, 2, 9, 10, 11] rfl ?_
              exact ih5798 1 (nI q2) (y0 / 10 % 10 - 1) (dv + ((chX (nI (lx fr (y0 / 10 % 10 - 1) q q2))) + 50)) (sv + 1) u15843 v15844 ro15845 co15846 rc15847 lk15848 bs15849 wy15850 nw15851 _ (by omega) (by decide) (Or.inr ⟨_, bq2, bq2f, rfl⟩) (by omega) (p5868) (p5869) (p5870) (p5871) (hJ2) (k5867.1.trans hlq) (hcv.trans (chV_s (t := y0 / 10 % 10 - 1) (by omega) (by omega) (by show ¬ y0 / 10 % 10 = 0; omega) rfl hP (cc_0 (p5873.2.2.2 q (by omega)) c118))) f5874 f5875 f5876 f5877 f5878 f5879 f5880 f5881 f5882 f5883 f5884 f5885 f5886 f5858 f5859 f5860 f5861 f5862 f5863 (grw_r4 (k5797) k5867 (fun j q1 q2 => by omega))
            · have d118 := mt (j_eq (a := (ce15855 q).toInt) (b := (0)) (rfl) (rfl)).mpr c118
              refine aw_iconst (0) dX8_followChain_121 (by decide) ?_
              refine aw_goto 127 dX8_followChain_122 (by decide) ?_
              refine aw_iadd dX8_followChain_127 ?_
              refine aw_iadd dX8_followChain_128 ?_
              refine aw_istore [(8, .int (dv + ((chX (nI (lx fr (y0 / 10 % 10 - 1) q q2))) + 0))), (13, .int (nI (lx fr (y0 / 10 % 10 - 1) q q2))), (7, .int (sv + 1)), (12, .int (nI q2)), (11, .ref (G.1 + P)), (10, .int (nI (y0 / 10 % 10 - 1))), (9, .int 10), (6, .int (nI q)), (5, .int (nI fr)), (4, .int w), (3, .int (nI y0)), (0, .ref (G.1 + 0))] dX8_followChain_129 (by decide) rfl ?_
              refine aw_iload 5 dX8_followChain_131 rfl ?_
              refine aw_istore [(5, .int (nI (y0 / 10 % 10 - 1))), (8, .int (dv + ((chX (nI (lx fr (y0 / 10 % 10 - 1) q q2))) + 0))), (13, .int (nI (lx fr (y0 / 10 % 10 - 1) q q2))), (7, .int (sv + 1)), (12, .int (nI q2)), (11, .ref (G.1 + P)), (10, .int (nI (y0 / 10 % 10 - 1))), (9, .int 10), (6, .int (nI q)), (4, .int w), (3, .int (nI y0)), (0, .ref (G.1 + 0))] dX8_followChain_133 (by decide) rfl ?_
              refine aw_iload 4 dX8_followChain_135 rfl ?_
              refine aw_istore [(6, .int (nI q2)), (5, .int (nI (y0 / 10 % 10 - 1))), (8, .int (dv + ((chX (nI (lx fr (y0 / 10 % 10 - 1) q q2))) + 0))), (13, .int (nI (lx fr (y0 / 10 % 10 - 1) q q2))), (7, .int (sv + 1)), (12, .int (nI q2)), (11, .ref (G.1 + P)), (10, .int (nI (y0 / 10 % 10 - 1))), (9, .int 10), (4, .int w), (3, .int (nI y0)), (0, .ref (G.1 + 0))] dX8_followChain_137 (by decide) rfl ?_
              refine aw_iload 8 dX8_followChain_139 rfl ?_
              refine aw_bipush (10) dX8_followChain_141 (by decide) ?_
              refine aw_idiv dX8_followChain_143 (by decide) ?_
              refine aw_toe 1 (by decide) ?_
              refine aw_istore [(9, .int 1), (6, .int (nI q2)), (5, .int (nI (y0 / 10 % 10 - 1))), (8, .int (dv + ((chX (nI (lx fr (y0 / 10 % 10 - 1) q q2))) + 0))), (13, .int (nI (lx fr (y0 / 10 % 10 - 1) q q2))), (7, .int (sv + 1)), (12, .int (nI q2)), (11, .ref (G.1 + P)), (10, .int (nI (y0 / 10 % 10 - 1))), (4, .int w), (3, .int (nI y0)), (0, .ref (G.1 + 0))] dX8_followChain_144 (by decide) rfl ?_
              refine aw_goto 16 dX8_followChain_146 (by decide) ?_
              refine aw_lv [(9, .int 1), (8, .int (dv + ((chX (nI (lx fr (y0 / 10 % 10 - 1) q q2))) + 0))), (7, .int (sv + 1)), (6, .int (nI q2)), (5, .int (nI (y0 / 10 % 10 - 1))), (4, .int w), (3, .int (nI y0)), (0, .ref (G.1 + 0))] [0, 3, 5, 1, 2, 9, 10, 11] rfl ?_
              exact ih5798 1 (nI q2) (y0 / 10 % 10 - 1) (dv + ((chX (nI (lx fr (y0 / 10 % 10 - 1) q q2))) + 0)) (sv + 1) u15843 v15844 ro15845 co15846 rc15847 lk15848 bs15849 wy15850 nw15851 _ (by omega) (by decide) (Or.inr ⟨_, bq2, bq2f, rfl⟩) (by omega) (p5868) (p5869) (p5870) (p5871) (hJ2) (k5867.1.trans hlq) (hcv.trans (chV_s (t := y0 / 10 % 10 - 1) (by omega) (by omega) (by show ¬ y0 / 10 % 10 = 0; omega) rfl hP (cc_1 (p5873.2.2.2 q (by omega)) c118))) f5874 f5875 f5876 f5877 f5878 f5879 f5880 f5881 f5882 f5883 f5884 f5885 f5886 f5858 f5859 f5860 f5861 f5862 f5863 (grw_r4 (k5797) k5867 (fun j q1 q2 => by omega))
    · refine aw_lv [(9, .int 100), (8, .int dv), (7, .int sv), (6, .int ev), (5, .int (nI fr)), (4, .int w), (3, .int (nI y0)), (0, .ref (G.1 + 0))] [0, 1, 2, 3, 4, 5, 6, 7] rfl ?_
      refine aw_iload 0 dX8_followChain_16 rfl ?_
      refine aw_if_le 149 dX8_followChain_18 (by decide) (fun c18 => absurd c18 (by decide)) (fun c18 => ?_)
      refine aw_iload 3 dX8_followChain_21 rfl ?_
      refine aw_bipush (-9) dX8_followChain_23 (by decide) ?_
      refine aw_icmp_eq 149 dX8_followChain_25 (by decide) (fun c25 => ?_) (fun c25 => ?_)
      · have d25 := (j_eq (a := ev.toInt) (b := (-9)) (rfl) (rfl)).mp c25
        refine aw_iload 5 dX8_followChain_149 rfl ?_
        refine aw_if_ne 157 dX8_followChain_151 (by decide) (fun c151 => ?_) (fun c151 => ?_)
        · have d151 := mt (j_eq (a := w.toInt) (b := (0)) (rfl) (rfl)).mpr c151
          refine aw_iload 5 dX8_followChain_157 rfl ?_
          refine aw_iconst (1) dX8_followChain_159 (by decide) ?_
          refine aw_icmp_ne 168 dX8_followChain_160 (by decide) (fun c160 => ?_) (fun c160 => ?_)
          · have d160 := mt (j_eq (a := w.toInt) (b := (1)) (rfl) (rfl)).mpr c160
            refine aw_iload 1 dX8_followChain_168 rfl ?_
            subst hQF
            exact aw_iret rfl dX8_followChain_170 (by decide) (by decide) ⟨_, rfl, _, _, _, _, _, _, _, _, _, f5778, f5791, f5792, f5793, f5794, f5795, f5796, k5797, hu1, hv1, huv1, hrc1, hJ1, hlq, by rw [hcv, c25, chV_9, chR_2 c151 c160]⟩
          · have d160 := (j_eq (a := w.toInt) (b := (1)) (rfl) (rfl)).mp c160
            refine aw_iload 2 dX8_followChain_163 rfl ?_
            refine aw_goto 170 dX8_followChain_165 (by decide) ?_
            subst hQF
            exact aw_iret rfl dX8_followChain_170 (by decide) (by decide) ⟨_, rfl, _, _, _, _, _, _, _, _, _, f5778, f5791, f5792, f5793, f5794, f5795, f5796, k5797, hu1, hv1, huv1, hrc1, hJ1, hlq, by rw [hcv, c25, chV_9, chR_1 c151 c160]⟩
        · have d151 := (j_eq (a := w.toInt) (b := (0)) (rfl) (rfl)).mp c151
          refine aw_iload 3 dX8_followChain_154 rfl ?_
          subst hQF
          exact aw_iret rfl dX8_followChain_156 (by decide) (by decide) ⟨_, rfl, _, _, _, _, _, _, _, _, _, f5778, f5791, f5792, f5793, f5794, f5795, f5796, k5797, hu1, hv1, huv1, hrc1, hJ1, hlq, by rw [hcv, c25, chV_9, chR_0 c151]⟩
      · have d25 := mt (j_eq (a := ev.toInt) (b := (-9)) (rfl) (rfl)).mpr c25
        obtain ⟨q, bq, bqf, rfl⟩ := he.resolve_left c25
        refine aw_iload_n 6 dX8_followChain_28 rfl rfl ?_
        refine aw_iload 0 dX8_followChain_29 rfl ?_
        refine aw_idiv dX8_followChain_31 (by decide) ?_
        refine aw_toe (nI (y0 / 100)) (nv_div (rfl) (rfl) (by omega) (by decide) (by decide)) ?_
        refine aw_bipush (10) dX8_followChain_32 (by decide) ?_
        refine aw_irem dX8_followChain_34 (by decide) ?_
        refine aw_toe (nI ((y0 / 100) % 10)) (nv_rem (rfl) (rfl) (by omega) (by decide) (by decide)) ?_
        refine aw_iconst (1) dX8_followChain_35 (by decide) ?_
        refine aw_isub dX8_followChain_36 ?_
        refine aw_istore [(10, .int ((nI ((y0 / 100) % 10)) - 1)), (9, .int 100), (8, .int dv), (7, .int sv), (6, .int (nI q)), (5, .int (nI fr)), (4, .int w), (3, .int (nI y0)), (0, .ref (G.1 + 0))] dX8_followChain_37 (by decide) rfl ?_
        refine aw_iload 0 dX8_followChain_39 rfl ?_
        refine aw_if_lt 139 dX8_followChain_41 (by decide) (fun c41 => ?_) (fun c41 => ?_)
        · have d41 := (j_lt (a := ((nI ((y0 / 100) % 10)) - 1).toInt) (b := (0)) (rfl) (rfl)).mp c41
          refine aw_iload 1 dX8_followChain_139 rfl ?_
          refine aw_bipush (10) dX8_followChain_141 (by decide) ?_
          refine aw_idiv dX8_followChain_143 (by decide) ?_
          refine aw_toe 10 (by decide) ?_
          refine aw_istore [(9, .int 10), (10, .int ((nI ((y0 / 100) % 10)) - 1)), (8, .int dv), (7, .int sv), (6, .int (nI q)), (5, .int (nI fr)), (4, .int w), (3, .int (nI y0)), (0, .ref (G.1 + 0))] dX8_followChain_144 (by decide) rfl ?_
          refine aw_goto 16 dX8_followChain_146 (by decide) ?_
          refine aw_lv [(9, .int 10), (8, .int dv), (7, .int sv), (6, .int (nI q)), (5, .int (nI fr)), (4, .int w), (3, .int (nI y0)), (0, .ref (G.1 + 0))] [0, 2, 3, 4, 5, 6, 7, 8] rfl ?_
          exact ih5798 2 (nI q) fr dv sv u1 v1 ro1 co1 rc1 lk1 bs1 wy1 nw1 _ (by omega) (by decide) (Or.inr ⟨_, bq, bqf, rfl⟩) (by omega) (hu1) (hv1) (huv1) (hrc1) (hJ1) (hlq) (hcv.trans (chV_0 (by omega) (by rw [dig_i (by omega)] at d41; show y0 / 100 % 10 = 0; omega))) f5778 f5779 f5780 f5781 f5782 f5783 f5784 f5785 f5786 f5787 f5788 f5789 f5790 f5791 f5792 f5793 f5794 f5795 f5796 (k5797)
        · have d41 := mt (j_lt (a := ((nI ((y0 / 100) % 10)) - 1).toInt) (b := (0)) (rfl) (rfl)).mpr c41
          have g0 : 1 ≤ y0 / 100 % 10 := by rw [dig_i (by omega)] at d41; omega
          rw [dig_e g0]
          obtain ⟨su, wa, pt, ce, pv, gg0, gg1, gg2, hpt, bpv, hfz⟩ := hJ1 (fr * 4 + (y0 / 100 % 10 - 1)) (by omega)
          obtain ⟨P, eP⟩ : ∃ P, P = 13 + 3 * (fr * 4 + (y0 / 100 % 10 - 1)) := ⟨_, rfl⟩
          rw [← eP] at gg0 gg1 gg2
          refine aw_aload_n 8 dX8_followChain_44 rfl rfl ?_
          refine aw_iload 5 dX8_followChain_45 rfl ?_
          refine aw_iload 0 dX8_followChain_47 rfl ?_
          refine aw_eV [.int (nI fr), .int (nI (y0 / 100 % 10 - 1))] [] lX8_124 vX8_bestJoining mX8_bestJoining dX8_followChain_49 (bJ (bv := bv) (J := J) (u := u1) (v := v1) (ro := ro1) (co := co1) (rc := rc1) (lk := lk1) (bs := bs1) (wy := wy1) (nw := nw1) (P := P) (pv := pv) (su := su) (wa := wa) (pt := pt) (ce := ce) (m := m) (se := se) (ye := ye) (fi := fi) (W := W) (Sn := Sn) (Z := Z) (Ro := Ro) (Co := Co) (Ba := Ba) (nb := nb) (sp := sp) (fa := fa) (ve := ve) (a := fr) (b := y0 / 100 % 10 - 1) f5778 f5779 f5780 f5781 f5782 f5783 f5784 f5785 f5786 f5787 f5788 f5789 f5790 f5791 f5792 f5793 f5794 f5795 f5796 gg0 gg1 gg2 hu1 hv1 huv1 hrc1 (by omega) hm hse hfi hye (by omega) (by omega) (by omega) (by omega) hpt eP (hlx fr (by omega) (y0 / 100 % 10 - 1) (by omega)) (hlx3 fr (y0 / 100 % 10 - 1)) (by omega) (by omega) (jX_g hfz (by omega))) f5778 rfl rfl rfl (Nat.le_of_ble_eq_true rfl) (by decide) (by decide) rfl (fun h5901 q5900 => ?_)
          obtain ⟨u15887, v15888, ro15889, co15890, rc15891, lk15892, bs15893, wy15894, nw15895, su15896, wa15897, pt15898, ce15899, f5902, f5903, f5904, f5905, f5906, f5907, f5908, f5909, f5910, k5911, p5912, p5913, p5914, p5915, p5916, p5917⟩ := q5900
          have f5918 := rg2_at k5911 (by omega) f5778
          have f5919 := rg2_at k5911 (by omega) f5779
          have f5920 := rg2_at k5911 (by omega) f5780
          have f5921 := rg2_at k5911 (by omega) f5781
          have f5922 := rg2_at k5911 (by omega) f5782
          have f5923 := rg2_at k5911 (by omega) f5783
          have f5924 := rg2_at k5911 (by omega) f5784
          have f5925 := rg2_at k5911 (by omega) f5785
          have f5926 := rg2_at k5911 (by omega) f5786
          have f5927 := rg2_at k5911 (by omega) f5787
          have f5928 := rg2_at k5911 (by omega) f5788
          have f5929 := rg2_at k5911 (by omega) f5789
          have f5930 := rg2_at k5911 (by omega) f5790
          have hJ2 : iJs G (jX lx fi ve) h5901 := iJs_up hJ1 (k := fr * 4 + (y0 / 100 % 10 - 1)) (by omega) eP (fun j q1 q2 q3 => k5911.2 j (by omega)) f5908 f5909 f5910 p5916 bve (jX_at p5917 (by omega))
          refine aw_astore [(11, .ref (G.1 + P)), (10, .int (nI (y0 / 100 % 10 - 1))), (9, .int 100), (8, .int dv), (7, .int sv), (6, .int (nI q)), (5, .int (nI fr)), (4, .int w), (3, .int (nI y0)), (0, .ref (G.1 + 0))] dX8_followChain_52 (by decide) rfl ?_
          refine aw_aload 0 dX8_followChain_54 rfl ?_
          refine aw_get fX8_131 dX8_followChain_56 f5908 rfl ?_
          refine aw_iload 5 dX8_followChain_59 rfl ?_
          refine aw_iald q (rfl) (by omega) (by decide) dX8_followChain_61 f5909 ?_
          refine aw_istore [(12, .int (pt15898 q)), (11, .ref (G.1 + P)), (10, .int (nI (y0 / 100 % 10 - 1))), (9, .int 100), (8, .int dv), (7, .int sv), (6, .int (nI q)), (5, .int (nI fr)), (4, .int w), (3, .int (nI y0)), (0, .ref (G.1 + 0))] dX8_followChain_62 (by decide) rfl ?_
          refine aw_iload 0 dX8_followChain_64 rfl ?_
          refine aw_bipush (-9) dX8_followChain_66 (by decide) ?_
          refine aw_icmp_eq 131 dX8_followChain_68 (by decide) (fun c68 => ?_) (fun c68 => ?_)
          · have d68 := (j_eq (a := (pt15898 q).toInt) (b := (-9)) (rfl) (rfl)).mp c68
            refine aw_iload 2 dX8_followChain_131 rfl ?_
            refine aw_istore [(5, .int (nI (y0 / 100 % 10 - 1))), (12, .int (pt15898 q)), (11, .ref (G.1 + P)), (10, .int (nI (y0 / 100 % 10 - 1))), (9, .int 100), (8, .int dv), (7, .int sv), (6, .int (nI q)), (4, .int w), (3, .int (nI y0)), (0, .ref (G.1 + 0))] dX8_followChain_133 (by decide) rfl ?_
            refine aw_iload 1 dX8_followChain_135 rfl ?_
            refine aw_istore [(6, .int (pt15898 q)), (5, .int (nI (y0 / 100 % 10 - 1))), (12, .int (pt15898 q)), (11, .ref (G.1 + P)), (10, .int (nI (y0 / 100 % 10 - 1))), (9, .int 100), (8, .int dv), (7, .int sv), (4, .int w), (3, .int (nI y0)), (0, .ref (G.1 + 0))] dX8_followChain_137 (by decide) rfl ?_
            refine aw_iload 5 dX8_followChain_139 rfl ?_
            refine aw_bipush (10) dX8_followChain_141 (by decide) ?_
            refine aw_idiv dX8_followChain_143 (by decide) ?_
            refine aw_toe 10 (by decide) ?_
            refine aw_istore [(9, .int 10), (6, .int (pt15898 q)), (5, .int (nI (y0 / 100 % 10 - 1))), (12, .int (pt15898 q)), (11, .ref (G.1 + P)), (10, .int (nI (y0 / 100 % 10 - 1))), (8, .int dv), (7, .int sv), (4, .int w), (3, .int (nI y0)), (0, .ref (G.1 + 0))] dX8_followChain_144 (by decide) rfl ?_
            refine aw_goto 16 dX8_followChain_146 (by decide) ?_
            refine aw_lv [(9, .int 10), (8, .int dv), (7, .int sv), (6, .int (pt15898 q)), (5, .int (nI (y0 / 100 % 10 - 1))), (4, .int w), (3, .int (nI y0)), (0, .ref (G.1 + 0))] [0, 6, 7, 1, 2, 8, 9, 10] rfl ?_
            exact ih5798 2 (pt15898 q) (y0 / 100 % 10 - 1) dv sv u15887 v15888 ro15889 co15890 rc15891 lk15892 bs15893 wy15894 nw15895 _ (by omega) (by decide) (Or.inl c68) (by omega) (p5912) (p5913) (p5914) (p5915) (hJ2) (k5911.1.trans hlq) (by rw [c68]; exact hcv.trans (chV_n (t := y0 / 100 % 10 - 1) (by omega) (by show ¬ y0 / 100 % 10 = 0; omega) rfl ((p5917.2.1 q (by omega)).symm.trans c68))) f5918 f5919 f5920 f5921 f5922 f5923 f5924 f5925 f5926 f5927 f5928 f5929 f5930 f5902 f5903 f5904 f5905 f5906 f5907 (grw_r4 (k5797) k5911 (fun j q1 q2 => by omega))
          · have d68 := mt (j_eq (a := (pt15898 q).toInt) (b := (-9)) (rfl) (rfl)).mpr c68
            obtain ⟨q2, bq2, eq2⟩ := (p5916 q (by omega)).resolve_left c68
            have fb9 := hfi (y0 / 100 % 10 - 1) (by omega)
            have hP := (p5917.2.1 q (by omega)).symm.trans eq2
            have bq2f := jP_lt (by omega) (by omega) hP
            rw [eq2]
            refine aw_iinc (j := 5) (sv + 1) [(7, .int (sv + 1)), (12, .int (nI q2)), (11, .ref (G.1 + P)), (10, .int (nI (y0 / 100 % 10 - 1))), (9, .int 100), (8, .int dv), (6, .int (nI q)), (5, .int (nI fr)), (4, .int w), (3, .int (nI y0)), (0, .ref (G.1 + 0))] dX8_followChain_71 rfl (by rfl) (by decide) rfl ?_
            refine aw_aload_n 10 dX8_followChain_74 rfl rfl ?_
            refine aw_get fX8_20 dX8_followChain_75 f5918 rfl ?_
            refine aw_iload 7 dX8_followChain_78 rfl ?_
            refine aw_bipush (10) dX8_followChain_80 (by decide) ?_
            refine aw_imul dX8_followChain_82 ?_
            refine aw_toe (nI (fr * 10)) (nv_mul (rfl) (rfl)) ?_
            refine aw_iload 6 dX8_followChain_83 rfl ?_
            refine aw_iadd dX8_followChain_85 ?_
            refine aw_toe (nI ((fr * 10) + q)) (nv_add (rfl) (rfl)) ?_
            refine aw_iload 3 dX8_followChain_86 rfl ?_
            refine aw_bipush (10) dX8_followChain_88 (by decide) ?_
            refine aw_imul dX8_followChain_90 ?_
            refine aw_toe (nI ((y0 / 100 % 10 - 1) * 10)) (nv_mul (rfl) (rfl)) ?_
            refine aw_iload 1 dX8_followChain_91 rfl ?_
            refine aw_iadd dX8_followChain_93 ?_
            refine aw_toe (nI (((y0 / 100 % 10 - 1) * 10) + q2)) (nv_add (rfl) (rfl)) ?_
            refine aw_dV [.int (nI ((fr * 10) + q)), .int (nI (((y0 / 100 % 10 - 1) * 10) + q2))] [] lX8_121 vX1_likeness mX1_likeness dX8_followChain_94 (aX1_likeness (m := m) (se := se) (ye := ye) (fi := fi) (W := W) (Sn := Sn) (Z := Z) (Ro := Ro) (Co := Co) (Ba := Ba) (nb := nb) (sp := sp) (fa := fa) (ve := ve) (e := (fr * 10) + q) (f := ((y0 / 100 % 10 - 1) * 10) + q2) f5919 f5920 f5921 f5922 f5923 f5924 f5925 f5926 f5927 f5928 f5929 hm hse hfi hye (by omega) (by omega)) f5919 rfl rfl rfl (Nat.le_of_ble_eq_true rfl) (by decide) (by decide) rfl ?_
            refine aw_toe (nI (lx fr (y0 / 100 % 10 - 1) q q2)) (hlx fr (by omega) (y0 / 100 % 10 - 1) (by omega) q (by omega) q2 (by omega)) ?_
            refine aw_istore [(13, .int (nI (lx fr (y0 / 100 % 10 - 1) q q2))), (7, .int (sv + 1)), (12, .int (nI q2)), (11, .ref (G.1 + P)), (10, .int (nI (y0 / 100 % 10 - 1))), (9, .int 100), (8, .int dv), (6, .int (nI q)), (5, .int (nI fr)), (4, .int w), (3, .int (nI y0)), (0, .ref (G.1 + 0))] dX8_followChain_97 (by decide) rfl ?_
            refine aw_iload 6 dX8_followChain_99 rfl ?_
            refine aw_iconst (0) dX8_followChain_101 (by decide) ?_
            refine aw_bipush (100) dX8_followChain_102 (by decide) ?_
            refine aw_iload 0 dX8_followChain_104 rfl ?_
            refine aw_isub dX8_followChain_106 ?_
            refine aw_mmax lX8_251 dX8_followChain_107 (Nat.le_of_ble_eq_true rfl) (by decide) (by decide) ?_
            refine aw_toe (chX (nI (lx fr (y0 / 100 % 10 - 1) q q2))) (rfl) ?_
            refine aw_aload 3 dX8_followChain_110 rfl ?_
            refine aw_get fX8_137 dX8_followChain_112 f5908 rfl ?_
            refine aw_iload 7 dX8_followChain_115 rfl ?_
            refine aw_zald q (rfl) (by omega) (by decide) dX8_followChain_117 f5910 ?_
            refine aw_if_eq 125 dX8_followChain_118 (by decide) (fun c118 => ?_) (fun c118 => ?_)
            · have d118 := (j_eq (a := (ce15899 q).toInt) (b := (0)) (rfl) (rfl)).mp c118
              refine aw_bipush (50) dX8_followChain_125 (by decide) ?_
              refine aw_iadd dX8_followChain_127 ?_
              refine aw_iadd dX8_followChain_128 ?_
              refine aw_istore [(8, .int (dv + ((chX (nI (lx fr (y0 / 100 % 10 - 1) q q2))) + 50))), (13, .int (nI (lx fr (y0 / 100 % 10 - 1) q q2))), (7, .int (sv + 1)), (12, .int (nI q2)), (11, .ref (G.1 + P)), (10, .int (nI (y0 / 100 % 10 - 1))), (9, .int 100), (6, .int (nI q)), (5, .int (nI fr)), (4, .int w), (3, .int (nI y0)), (0, .ref (G.1 + 0))] dX8_followChain_129 (by decide) rfl ?_
              refine aw_iload 5 dX8_followChain_131 rfl ?_
              refine aw_istore [(5, .int (nI (y0 / 100 % 10 - 1))), (8, .int (dv + ((chX (nI (lx fr (y0 / 100 % 10 - 1) q q2))) + 50))), (13, .int (nI (lx fr (y0 / 100 % 10 - 1) q q2))), (7, .int (sv + 1)), (12, .int (nI q2)), (11, .ref (G.1 + P)), (10, .int (nI (y0 / 100 % 10 - 1))), (9, .int 100), (6, .int (nI q)), (4, .int w), (3, .int (nI y0)), (0, .ref (G.1 + 0))] dX8_followChain_133 (by decide) rfl ?_
              refine aw_iload 4 dX8_followChain_135 rfl ?_
              refine aw_istore [(6, .int (nI q2)), (5, .int (nI (y0 / 100 % 10 - 1))), (8, .int (dv + ((chX (nI (lx fr (y0 / 100 % 10 - 1) q q2))) + 50))), (13, .int (nI (lx fr (y0 / 100 % 10 - 1) q q2))), (7, .int (sv + 1)), (12, .int (nI q2)), (11, .ref (G.1 + P)), (10, .int (nI (y0 / 100 % 10 - 1))), (9, .int 100), (4, .int w), (3, .int (nI y0)), (0, .ref (G.1 + 0))] dX8_followChain_137 (by decide) rfl ?_
              refine aw_iload 8 dX8_followChain_139 rfl ?_
              refine aw_bipush (10) dX8_followChain_141 (by decide) ?_
              refine aw_idiv dX8_followChain_143 (by decide) ?_
              refine aw_toe 10 (by decide) ?_
              refine aw_istore [(9, .int 10), (6, .int (nI q2)), (5, .int (nI (y0 / 100 % 10 - 1))), (8, .int (dv + ((chX (nI (lx fr (y0 / 100 % 10 - 1) q q2))) + 50))), (13, .int (nI (lx fr (y0 / 100 % 10 - 1) q q2))), (7, .int (sv + 1)), (12, .int (nI q2)), (11, .ref (G.1 + P)), (10, .int (nI (y0 / 100 % 10 - 1))), (4, .int w), (3, .int (nI y0)), (0, .ref (G.1 + 0))] dX8_followChain_144 (by decide) rfl ?_
              refine aw_goto 16 dX8_followChain_146 (by decide) ?_
              refine aw_lv [(9, .int 10), (8, .int (dv + ((chX (nI (lx fr (y0 / 100 % 10 - 1) q q2))) + 50))), (7, .int (sv + 1)), (6, .int (nI q2)), (5, .int (nI (y0 / 100 % 10 - 1))), (4, .int w), (3, .int (nI y0)), (0, .ref (G.1 + 0))] [0, 3, 5, 1, 2, 9, 10, 11] rfl ?_
              exact ih5798 2 (nI q2) (y0 / 100 % 10 - 1) (dv + ((chX (nI (lx fr (y0 / 100 % 10 - 1) q q2))) + 50)) (sv + 1) u15887 v15888 ro15889 co15890 rc15891 lk15892 bs15893 wy15894 nw15895 _ (by omega) (by decide) (Or.inr ⟨_, bq2, bq2f, rfl⟩) (by omega) (p5912) (p5913) (p5914) (p5915) (hJ2) (k5911.1.trans hlq) (hcv.trans (chV_s (t := y0 / 100 % 10 - 1) (by omega) (by omega) (by show ¬ y0 / 100 % 10 = 0; omega) rfl hP (cc_0 (p5917.2.2.2 q (by omega)) c118))) f5918 f5919 f5920 f5921 f5922 f5923 f5924 f5925 f5926 f5927 f5928 f5929 f5930 f5902 f5903 f5904 f5905 f5906 f5907 (grw_r4 (k5797) k5911 (fun j q1 q2 => by omega))
            · have d118 := mt (j_eq (a := (ce15899 q).toInt) (b := (0)) (rfl) (rfl)).mpr c118
              refine aw_iconst (0) dX8_followChain_121 (by decide) ?_
              refine aw_goto 127 dX8_followChain_122 (by decide) ?_
              refine aw_iadd dX8_followChain_127 ?_
              refine aw_iadd dX8_followChain_128 ?_
              refine aw_istore [(8, .int (dv + ((chX (nI (lx fr (y0 / 100 % 10 - 1) q q2))) + 0))), (13, .int (nI (lx fr (y0 / 100 % 10 - 1) q q2))), (7, .int (sv + 1)), (12, .int (nI q2)), (11, .ref (G.1 + P)), (10, .int (nI (y0 / 100 % 10 - 1))), (9, .int 100), (6, .int (nI q)), (5, .int (nI fr)), (4, .int w), (3, .int (nI y0)), (0, .ref (G.1 + 0))] dX8_followChain_129 (by decide) rfl ?_
              refine aw_iload 5 dX8_followChain_131 rfl ?_
              refine aw_istore [(5, .int (nI (y0 / 100 % 10 - 1))), (8, .int (dv + ((chX (nI (lx fr (y0 / 100 % 10 - 1) q q2))) + 0))), (13, .int (nI (lx fr (y0 / 100 % 10 - 1) q q2))), (7, .int (sv + 1)), (12, .int (nI q2)), (11, .ref (G.1 + P)), (10, .int (nI (y0 / 100 % 10 - 1))), (9, .int 100), (6, .int (nI q)), (4, .int w), (3, .int (nI y0)), (0, .ref (G.1 + 0))] dX8_followChain_133 (by decide) rfl ?_
              refine aw_iload 4 dX8_followChain_135 rfl ?_
              refine aw_istore [(6, .int (nI q2)), (5, .int (nI (y0 / 100 % 10 - 1))), (8, .int (dv + ((chX (nI (lx fr (y0 / 100 % 10 - 1) q q2))) + 0))), (13, .int (nI (lx fr (y0 / 100 % 10 - 1) q q2))), (7, .int (sv + 1)), (12, .int (nI q2)), (11, .ref (G.1 + P)), (10, .int (nI (y0 / 100 % 10 - 1))), (9, .int 100), (4, .int w), (3, .int (nI y0)), (0, .ref (G.1 + 0))] dX8_followChain_137 (by decide) rfl ?_
              refine aw_iload 8 dX8_followChain_139 rfl ?_
              refine aw_bipush (10) dX8_followChain_141 (by decide) ?_
              refine aw_idiv dX8_followChain_143 (by decide) ?_
              refine aw_toe 10 (by decide) ?_
              refine aw_istore [(9, .int 10), (6, .int (nI q2)), (5, .int (nI (y0 / 100 % 10 - 1))), (8, .int (dv + ((chX (nI (lx fr (y0 / 100 % 10 - 1) q q2))) + 0))), (13, .int (nI (lx fr (y0 / 100 % 10 - 1) q q2))), (7, .int (sv + 1)), (12, .int (nI q2)), (11, .ref (G.1 + P)), (10, .int (nI (y0 / 100 % 10 - 1))), (4, .int w), (3, .int (nI y0)), (0, .ref (G.1 + 0))] dX8_followChain_144 (by decide) rfl ?_
              refine aw_goto 16 dX8_followChain_146 (by decide) ?_
              refine aw_lv [(9, .int 10), (8, .int (dv + ((chX (nI (lx fr (y0 / 100 % 10 - 1) q q2))) + 0))), (7, .int (sv + 1)), (6, .int (nI q2)), (5, .int (nI (y0 / 100 % 10 - 1))), (4, .int w), (3, .int (nI y0)), (0, .ref (G.1 + 0))] [0, 3, 5, 1, 2, 9, 10, 11] rfl ?_
              exact ih5798 2 (nI q2) (y0 / 100 % 10 - 1) (dv + ((chX (nI (lx fr (y0 / 100 % 10 - 1) q q2))) + 0)) (sv + 1) u15887 v15888 ro15889 co15890 rc15891 lk15892 bs15893 wy15894 nw15895 _ (by omega) (by decide) (Or.inr ⟨_, bq2, bq2f, rfl⟩) (by omega) (p5912) (p5913) (p5914) (p5915) (hJ2) (k5911.1.trans hlq) (hcv.trans (chV_s (t := y0 / 100 % 10 - 1) (by omega) (by omega) (by show ¬ y0 / 100 % 10 = 0; omega) rfl hP (cc_1 (p5917.2.2.2 q (by omega)) c118))) f5918 f5919 f5920 f5921 f5922 f5923 f5924 f5925 f5926 f5927 f5928 f5929 f5930 f5902 f5903 f5904 f5905 f5906 f5907 (grw_r4 (k5797) k5911 (fun j q1 q2 => by omega))
set_option maxHeartbeats 4000000 in
theorem fc_n {l : Launch} {G : xG} {h : List va_E} {bv : Value} {J : Nat} {m se ye fi : Nat → Nat} {W Sn Z Ro Co : Nat → Int32} {Ba : Nat → Int64} {nb sp fa ve : Nat} {lx : Nat → Nat → Nat → Nat → Nat} {a i y0 : Nat} {w : Int32} (h0 : h[0]? = some (oB 8 (lX G (.null) (bv)))) (h1 : h[1]? = some (oB 1 (lC G (nI nb) (nI sp) (nI fa) (nI ve)))) (h2 : h[2]? = some (aI 20 (nA m))) (h3 : h[3]? = some (aI 20 (nA se))) (h4 : h[4]? = some (aI 4 (nA ye))) (h5 : h[5]? = some (aI 4 (nA fi))) (h6 : h[6]? = some (aI 40 W)) (h7 : h[7]? = some (aI 40 Sn)) (h8 : h[8]? = some (aI 40 Z)) (h9 : h[9]? = some (aI 40 Ro)) (h10 : h[10]? = some (aI 40 Co)) (h11 : h[11]? = some (aL 40 Ba)) (h12 : h[12]? = some (aR 16 (xjo G.1 16))) (hl : h.length = J) (hm : ∀ j, j < 20 → m j ≤ j) (hse : ∀ j, j < 20 → se j < 20) (hfi : ∀ j, j < 4 → fi j < 11) (hye : ∀ j, j < 4 → ye j < 1901) (ba : a < 4) (bi : i < 10) (bia : i < fi a) (qJ : 125 ≤ J) (bve : ve ≤ 600) (hve : 1 ≤ ve) (hJz : iJs G jZ h) (hlx : ∀ a, a < 4 → ∀ b, b < 4 → ∀ i, i < fi a → ∀ k, k < fi b → likeC ye Sn Z Ro Co Ba sp fa (a * 10 + i) (b * 10 + k) = nI (lx a b i k)) (hlx3 : ∀ a b i k, lx a b i k ≤ 300) (g1 : 1 ≤ y0 % 10 ∧ y0 % 10 ≤ 4 ∧ y0 / 10 % 10 ≤ 4 ∧ y0 / 100 % 10 ≤ 4) (by0 : y0 < 1000) : CU l G yX8_followChain cX8_followChain 14 (some .int) 6 6 13430 [.ref (G.1 + 0), .int (nI a), .int (nI i), .int (nI y0), .int w] h (fun r h1 => ∃ u1 : Nat, ∃ v1 : Nat, ∃ ro1 : Nat, ∃ co1 : Nat, ∃ rc1 : Nat → Nat, ∃ lk1 : Nat → Int32, ∃ bs1 : Nat → Int32, ∃ wy1 : Nat → Int32, ∃ nw1 : Nat → Int32, h1[0]? = some (oB 8 (lX G (.ref (G.1 + J)) (bv))) ∧ h1[J]? = some (oB 3 (lJ G J (.ref (G.1 + u1)) (.ref (G.1 + v1)) (nI ro1) (nI co1))) ∧ h1[J + 1]? = some (aI 100 lk1) ∧ h1[J + 2]? = some (aI 11 (nA rc1)) ∧ h1[J + 3]? = some (aI 11264 bs1) ∧ h1[u1]? = some (aI 1024 wy1) ∧ h1[v1]? = some (aI 1024 nw1) ∧ grw 0 0 13 60 h h1 ∧ (J + 4 ≤ u1 ∧ u1 ≤ J + 5) ∧ (J + 4 ≤ v1 ∧ v1 ≤ J + 5) ∧ (u1 ≠ v1 ∧ wZ wy1 nw1) ∧ (∀ j, j < 11 → rc1 j < 1024) ∧ iJs G (jX lx fi ve) h1 ∧ h1.length = J + 6 ∧ r = chR w (chV lx fi y0 3 a (nI i) 0 0)) := by
  refine cm_ofQ rfl (Nat.le_of_ble_eq_true rfl) [(0, .ref (G.1 + 0)), (1, .int (nI a)), (2, .int (nI i)), (3, .int (nI y0)), (4, .int w)] rfl (fun QF hQF => ?_)
  refine aw_iload_n 1 dX8_followChain_0 rfl rfl ?_
  refine aw_istore [(5, .int (nI a)), (0, .ref (G.1 + 0)), (1, .int (nI a)), (2, .int (nI i)), (3, .int (nI y0)), (4, .int w)] dX8_followChain_1 (by decide) rfl ?_
  refine aw_iload_n 3 dX8_followChain_3 rfl rfl ?_
  refine aw_istore [(6, .int (nI i)), (5, .int (nI a)), (0, .ref (G.1 + 0)), (1, .int (nI a)), (2, .int (nI i)), (3, .int (nI y0)), (4, .int w)] dX8_followChain_4 (by decide) rfl ?_
  refine aw_iconst (0) dX8_followChain_6 (by decide) ?_
  refine aw_istore [(7, .int 0), (6, .int (nI i)), (5, .int (nI a)), (0, .ref (G.1 + 0)), (1, .int (nI a)), (2, .int (nI i)), (3, .int (nI y0)), (4, .int w)] dX8_followChain_7 (by decide) rfl ?_
  refine aw_iconst (0) dX8_followChain_9 (by decide) ?_
  refine aw_istore [(8, .int 0), (7, .int 0), (6, .int (nI i)), (5, .int (nI a)), (0, .ref (G.1 + 0)), (1, .int (nI a)), (2, .int (nI i)), (3, .int (nI y0)), (4, .int w)] dX8_followChain_10 (by decide) rfl ?_
  refine aw_bipush (100) dX8_followChain_12 (by decide) ?_
  refine aw_istore [(9, .int 100), (8, .int 0), (7, .int 0), (6, .int (nI i)), (5, .int (nI a)), (0, .ref (G.1 + 0)), (1, .int (nI a)), (2, .int (nI i)), (3, .int (nI y0)), (4, .int w)] dX8_followChain_14 (by decide) rfl ?_
  refine aw_iload 0 dX8_followChain_16 rfl ?_
  refine aw_if_le 149 dX8_followChain_18 (by decide) (fun c18 => absurd c18 (by decide)) (fun c18 => ?_)
  refine aw_iload 3 dX8_followChain_21 rfl ?_
  refine aw_bipush (-9) dX8_followChain_23 (by decide) ?_
  refine aw_icmp_eq 149 dX8_followChain_25 (by decide) (fun c25 => absurd c25 (nI_ne9 bi)) (fun c25 => ?_)
  refine aw_iload_n 8 dX8_followChain_28 rfl rfl ?_
  refine aw_iload 0 dX8_followChain_29 rfl ?_
  refine aw_idiv dX8_followChain_31 (by decide) ?_
  refine aw_toe (nI (y0 / 100)) (nv_div (rfl) (rfl) (by omega) (by decide) (by decide)) ?_
  refine aw_bipush (10) dX8_followChain_32 (by decide) ?_
  refine aw_irem dX8_followChain_34 (by decide) ?_
  refine aw_toe (nI ((y0 / 100) % 10)) (nv_rem (rfl) (rfl) (by omega) (by decide) (by decide)) ?_
  refine aw_iconst (1) dX8_followChain_35 (by decide) ?_
  refine aw_isub dX8_followChain_36 ?_
  refine aw_istore [(10, .int ((nI ((y0 / 100) % 10)) - 1)), (9, .int 100), (8, .int 0), (7, .int 0), (6, .int (nI i)), (5, .int (nI a)), (0, .ref (G.1 + 0)), (1, .int (nI a)), (2, .int (nI i)), (3, .int (nI y0)), (4, .int w)] dX8_followChain_37 (by decide) rfl ?_
  refine aw_iload 0 dX8_followChain_39 rfl ?_
  refine aw_if_lt 139 dX8_followChain_41 (by decide) (fun c41 => ?_) (fun c41 => ?_)
  · have d41 := (j_lt (a := ((nI ((y0 / 100) % 10)) - 1).toInt) (b := (0)) (rfl) (rfl)).mp c41
    have hsk2 : chV lx fi y0 3 a (nI i) 0 0 = chV lx fi y0 2 a (nI i) 0 0 := chV_0 (by omega) (by rw [dig_i (by omega)] at d41; show y0 / 100 % 10 = 0; omega)
    refine aw_iload 1 dX8_followChain_139 rfl ?_
    refine aw_bipush (10) dX8_followChain_141 (by decide) ?_
    refine aw_idiv dX8_followChain_143 (by decide) ?_
    refine aw_toe 10 (by decide) ?_
    refine aw_istore [(9, .int 10), (10, .int ((nI ((y0 / 100) % 10)) - 1)), (8, .int 0), (7, .int 0), (6, .int (nI i)), (5, .int (nI a)), (0, .ref (G.1 + 0)), (1, .int (nI a)), (2, .int (nI i)), (3, .int (nI y0)), (4, .int w)] dX8_followChain_144 (by decide) rfl ?_
    refine aw_goto 16 dX8_followChain_146 (by decide) ?_
    refine aw_iload 0 dX8_followChain_16 rfl ?_
    refine aw_if_le 149 dX8_followChain_18 (by decide) (fun c18 => absurd c18 (by decide)) (fun c18 => ?_)
    refine aw_iload 4 dX8_followChain_21 rfl ?_
    refine aw_bipush (-9) dX8_followChain_23 (by decide) ?_
    refine aw_icmp_eq 149 dX8_followChain_25 (by decide) (fun c25 => absurd c25 (nI_ne9 bi)) (fun c25 => ?_)
    refine aw_iload_n 9 dX8_followChain_28 rfl rfl ?_
    refine aw_iload 0 dX8_followChain_29 rfl ?_
    refine aw_idiv dX8_followChain_31 (by decide) ?_
    refine aw_toe (nI (y0 / 10)) (nv_div (rfl) (rfl) (by omega) (by decide) (by decide)) ?_
    refine aw_bipush (10) dX8_followChain_32 (by decide) ?_
    refine aw_irem dX8_followChain_34 (by decide) ?_
    refine aw_toe (nI ((y0 / 10) % 10)) (nv_rem (rfl) (rfl) (by omega) (by decide) (by decide)) ?_
    refine aw_iconst (1) dX8_followChain_35 (by decide) ?_
    refine aw_isub dX8_followChain_36 ?_
    refine aw_istore [(10, .int ((nI ((y0 / 10) % 10)) - 1)), (9, .int 10), (8, .int 0), (7, .int 0), (6, .int (nI i)), (5, .int (nI a)), (0, .ref (G.1 + 0)), (1, .int (nI a)), (2, .int (nI i)), (3, .int (nI y0)), (4, .int w)] dX8_followChain_37 (by decide) rfl ?_
    refine aw_iload 0 dX8_followChain_39 rfl ?_
    refine aw_if_lt 139 dX8_followChain_41 (by decide) (fun c41 => ?_) (fun c41 => ?_)
    · have d41 := (j_lt (a := ((nI ((y0 / 10) % 10)) - 1).toInt) (b := (0)) (rfl) (rfl)).mp c41
      have hsk1 : chV lx fi y0 3 a (nI i) 0 0 = chV lx fi y0 1 a (nI i) 0 0 := hsk2.trans (chV_0 (by omega) (by rw [dig_i (by omega)] at d41; show y0 / 10 % 10 = 0; omega))
      refine aw_iload 1 dX8_followChain_139 rfl ?_
      refine aw_bipush (10) dX8_followChain_141 (by decide) ?_
      refine aw_idiv dX8_followChain_143 (by decide) ?_
      refine aw_toe 1 (by decide) ?_
      refine aw_istore [(9, .int 1), (10, .int ((nI ((y0 / 10) % 10)) - 1)), (8, .int 0), (7, .int 0), (6, .int (nI i)), (5, .int (nI a)), (0, .ref (G.1 + 0)), (1, .int (nI a)), (2, .int (nI i)), (3, .int (nI y0)), (4, .int w)] dX8_followChain_144 (by decide) rfl ?_
      refine aw_goto 16 dX8_followChain_146 (by decide) ?_
      refine aw_iload 0 dX8_followChain_16 rfl ?_
      refine aw_if_le 149 dX8_followChain_18 (by decide) (fun c18 => absurd c18 (by decide)) (fun c18 => ?_)
      refine aw_iload 4 dX8_followChain_21 rfl ?_
      refine aw_bipush (-9) dX8_followChain_23 (by decide) ?_
      refine aw_icmp_eq 149 dX8_followChain_25 (by decide) (fun c25 => absurd c25 (nI_ne9 bi)) (fun c25 => ?_)
      refine aw_iload_n 9 dX8_followChain_28 rfl rfl ?_
      refine aw_iload 0 dX8_followChain_29 rfl ?_
      refine aw_idiv dX8_followChain_31 (by decide) ?_
      refine aw_toe (nI (y0 / 1)) (nv_div (rfl) (rfl) (by omega) (by decide) (by decide)) ?_
      refine aw_bipush (10) dX8_followChain_32 (by decide) ?_
      refine aw_irem dX8_followChain_34 (by decide) ?_
      refine aw_toe (nI ((y0 / 1) % 10)) (nv_rem (rfl) (rfl) (by omega) (by decide) (by decide)) ?_
      refine aw_iconst (1) dX8_followChain_35 (by decide) ?_
      refine aw_isub dX8_followChain_36 ?_
      refine aw_istore [(10, .int ((nI ((y0 / 1) % 10)) - 1)), (9, .int 1), (8, .int 0), (7, .int 0), (6, .int (nI i)), (5, .int (nI a)), (0, .ref (G.1 + 0)), (1, .int (nI a)), (2, .int (nI i)), (3, .int (nI y0)), (4, .int w)] dX8_followChain_37 (by decide) rfl ?_
      refine aw_iload 0 dX8_followChain_39 rfl ?_
      refine aw_if_lt 139 dX8_followChain_41 (by decide) (fun c41 => ?_) (fun c41 => ?_)
      · have d41 := (j_lt (a := ((nI ((y0 / 1) % 10)) - 1).toInt) (b := (0)) (rfl) (rfl)).mp c41
        exfalso
        rw [dig_i (by omega)] at d41
        omega
      · have d41 := mt (j_lt (a := ((nI ((y0 / 1) % 10)) - 1).toInt) (b := (0)) (rfl) (rfl)).mpr c41
        have g0 : 1 ≤ y0 / 1 % 10 := by rw [dig_i (by omega)] at d41; omega
        rw [dig_e g0]
        obtain ⟨su, wa, pt, ce, pv, gg0, gg1, gg2, hpt, bpv, hfz⟩ := hJz (a * 4 + (y0 / 1 % 10 - 1)) (by omega)
        obtain ⟨P, eP⟩ : ∃ P, P = 13 + 3 * (a * 4 + (y0 / 1 % 10 - 1)) := ⟨_, rfl⟩
        rw [← eP] at gg0 gg1 gg2
        have hvv : ¬ pv = ve := by rw [show pv = 0 from hfz]; omega
        refine aw_aload_n 6 dX8_followChain_44 rfl rfl ?_
        refine aw_iload 5 dX8_followChain_45 rfl ?_
        refine aw_iload 0 dX8_followChain_47 rfl ?_
        refine aw_eV [.int (nI a), .int (nI (y0 / 1 % 10 - 1))] [] lX8_124 vX8_bestJoining mX8_bestJoining dX8_followChain_49 (bJ_n (bv := bv) (P := P) (pv := pv) (su := su) (wa := wa) (pt := pt) (ce := ce) (m := m) (se := se) (ye := ye) (fi := fi) (W := W) (Sn := Sn) (Z := Z) (Ro := Ro) (Co := Co) (Ba := Ba) (nb := nb) (sp := sp) (fa := fa) (ve := ve) (a := a) (b := y0 / 1 % 10 - 1) h0 h1 h2 h3 h4 h5 h6 h7 h8 h9 h10 h11 h12 gg0 gg1 gg2 (by omega) hm hse hfi hye (by omega) (by omega) (by omega) (by omega) (by omega) hpt eP (hlx a (by omega) (y0 / 1 % 10 - 1) (by omega)) (hlx3 a (y0 / 1 % 10 - 1)) (by omega) (by omega) hvv) h0 rfl rfl rfl (Nat.le_of_ble_eq_true rfl) (by decide) (by decide) rfl (fun h5945 q5944 => ?_)
        obtain ⟨u15931, v15932, ro15933, co15934, rc15935, lk15936, bs15937, wy15938, nw15939, su15940, wa15941, pt15942, ce15943, f5946, f5947, f5948, f5949, f5950, f5951, f5952, f5953, f5954, f5955, k5956, p5957, p5958, p5959, p5960, p5961, p5962, p5963⟩ := q5944
        have f5964 := grw_at k5956 (by omega) h1
        have f5965 := grw_at k5956 (by omega) h2
        have f5966 := grw_at k5956 (by omega) h3
        have f5967 := grw_at k5956 (by omega) h4
        have f5968 := grw_at k5956 (by omega) h5
        have f5969 := grw_at k5956 (by omega) h6
        have f5970 := grw_at k5956 (by omega) h7
        have f5971 := grw_at k5956 (by omega) h8
        have f5972 := grw_at k5956 (by omega) h9
        have f5973 := grw_at k5956 (by omega) h10
        have f5974 := grw_at k5956 (by omega) h11
        have f5975 := grw_at k5956 (by omega) h12
        have hJ2 : iJs G (jX lx fi ve) h5945 := iJs_up (iJs_w hJz (fun _ _ _ _ _ _ w9 => jX_z hve w9)) (k := a * 4 + (y0 / 1 % 10 - 1)) (by omega) eP (fun j q1 q2 q3 => k5956.2 j (by omega) (by omega)) f5953 f5954 f5955 p5961 bve (jX_at p5962 (by omega))
        have hln := p5963
        refine aw_astore [(11, .ref (G.1 + P)), (10, .int (nI (y0 / 1 % 10 - 1))), (9, .int 1), (8, .int 0), (7, .int 0), (6, .int (nI i)), (5, .int (nI a)), (0, .ref (G.1 + 0)), (1, .int (nI a)), (2, .int (nI i)), (3, .int (nI y0)), (4, .int w)] dX8_followChain_52 (by decide) rfl ?_
        refine aw_aload 0 dX8_followChain_54 rfl ?_
        refine aw_get fX8_131 dX8_followChain_56 f5953 rfl ?_
        refine aw_iload 5 dX8_followChain_59 rfl ?_
        refine aw_iald i (rfl) (by omega) (by decide) dX8_followChain_61 f5954 ?_
        refine aw_istore [(12, .int (pt15942 i)), (11, .ref (G.1 + P)), (10, .int (nI (y0 / 1 % 10 - 1))), (9, .int 1), (8, .int 0), (7, .int 0), (6, .int (nI i)), (5, .int (nI a)), (0, .ref (G.1 + 0)), (1, .int (nI a)), (2, .int (nI i)), (3, .int (nI y0)), (4, .int w)] dX8_followChain_62 (by decide) rfl ?_
        refine aw_iload 0 dX8_followChain_64 rfl ?_
        refine aw_bipush (-9) dX8_followChain_66 (by decide) ?_
        refine aw_icmp_eq 131 dX8_followChain_68 (by decide) (fun c68 => ?_) (fun c68 => ?_)
        · have d68 := (j_eq (a := (pt15942 i).toInt) (b := (-9)) (rfl) (rfl)).mp c68
          refine aw_iload 2 dX8_followChain_131 rfl ?_
          refine aw_istore [(5, .int (nI (y0 / 1 % 10 - 1))), (12, .int (pt15942 i)), (11, .ref (G.1 + P)), (10, .int (nI (y0 / 1 % 10 - 1))), (9, .int 1), (8, .int 0), (7, .int 0), (6, .int (nI i)), (0, .ref (G.1 + 0)), (1, .int (nI a)), (2, .int (nI i)), (3, .int (nI y0)), (4, .int w)] dX8_followChain_133 (by decide) rfl ?_
          refine aw_iload 1 dX8_followChain_135 rfl ?_
          refine aw_istore [(6, .int (pt15942 i)), (5, .int (nI (y0 / 1 % 10 - 1))), (12, .int (pt15942 i)), (11, .ref (G.1 + P)), (10, .int (nI (y0 / 1 % 10 - 1))), (9, .int 1), (8, .int 0), (7, .int 0), (0, .ref (G.1 + 0)), (1, .int (nI a)), (2, .int (nI i)), (3, .int (nI y0)), (4, .int w)] dX8_followChain_137 (by decide) rfl ?_
          refine aw_iload 5 dX8_followChain_139 rfl ?_
          refine aw_bipush (10) dX8_followChain_141 (by decide) ?_
          refine aw_idiv dX8_followChain_143 (by decide) ?_
          refine aw_toe 0 (by decide) ?_
          refine aw_istore [(9, .int 0), (6, .int (pt15942 i)), (5, .int (nI (y0 / 1 % 10 - 1))), (12, .int (pt15942 i)), (11, .ref (G.1 + P)), (10, .int (nI (y0 / 1 % 10 - 1))), (8, .int 0), (7, .int 0), (0, .ref (G.1 + 0)), (1, .int (nI a)), (2, .int (nI i)), (3, .int (nI y0)), (4, .int w)] dX8_followChain_144 (by decide) rfl ?_
          refine aw_goto 16 dX8_followChain_146 (by decide) ?_
          refine aw_lv [(9, .int 0), (8, .int 0), (7, .int 0), (6, .int (pt15942 i)), (5, .int (nI (y0 / 1 % 10 - 1))), (4, .int w), (3, .int (nI y0)), (0, .ref (G.1 + 0))] [0, 6, 7, 1, 2, 12, 11, 8] rfl ?_
          exact fcL (bv := bv) (J := J) (x := 0) (ev := pt15942 i) (fr := y0 / 1 % 10 - 1) (dv := 0) (sv := 0) (u1 := u15931) (v1 := v15932) (ro1 := ro15933) (co1 := co15934) (rc1 := rc15935) (lk1 := lk15936) (bs1 := bs15937) (wy1 := wy15938) (nw1 := nw15939) hl hm hse hfi hye qJ bve hlx hlx3 g1 by0 (by decide) (Or.inl c68) (by omega) p5957 p5958 p5959 p5960 hJ2 hln (by rw [c68]; exact hsk1.trans (chV_n (t := y0 / 1 % 10 - 1) (by omega) (by show ¬ y0 / 1 % 10 = 0; omega) rfl ((p5962.2.1 i (by omega)).symm.trans c68))) f5946 f5964 f5965 f5966 f5967 f5968 f5969 f5970 f5971 f5972 f5973 f5974 f5975 f5947 f5948 f5949 f5950 f5951 f5952 (grw_gg (grw_rf 0 0 13 60 h) k5956 (fun j q1 q2 => by omega)) hQF
        · have d68 := mt (j_eq (a := (pt15942 i).toInt) (b := (-9)) (rfl) (rfl)).mpr c68
          obtain ⟨q2, bq2, eq2⟩ := (p5961 i (by omega)).resolve_left c68
          have fb9 := hfi (y0 / 1 % 10 - 1) (by omega)
          have hP := (p5962.2.1 i (by omega)).symm.trans eq2
          have bq2f := jP_lt (by omega) (by omega) hP
          rw [eq2]
          refine aw_iinc (j := 5) (1) [(7, .int 1), (12, .int (nI q2)), (11, .ref (G.1 + P)), (10, .int (nI (y0 / 1 % 10 - 1))), (9, .int 1), (8, .int 0), (6, .int (nI i)), (5, .int (nI a)), (0, .ref (G.1 + 0)), (1, .int (nI a)), (2, .int (nI i)), (3, .int (nI y0)), (4, .int w)] dX8_followChain_71 rfl (by decide) (by decide) rfl ?_
          refine aw_aload_n 8 dX8_followChain_74 rfl rfl ?_
          refine aw_get fX8_20 dX8_followChain_75 f5946 rfl ?_
          refine aw_iload 7 dX8_followChain_78 rfl ?_
          refine aw_bipush (10) dX8_followChain_80 (by decide) ?_
          refine aw_imul dX8_followChain_82 ?_
          refine aw_toe (nI (a * 10)) (nv_mul (rfl) (rfl)) ?_
          refine aw_iload 6 dX8_followChain_83 rfl ?_
          refine aw_iadd dX8_followChain_85 ?_
          refine aw_toe (nI ((a * 10) + i)) (nv_add (rfl) (rfl)) ?_
          refine aw_iload 3 dX8_followChain_86 rfl ?_
          refine aw_bipush (10) dX8_followChain_88 (by decide) ?_
          refine aw_imul dX8_followChain_90 ?_
          refine aw_toe (nI ((y0 / 1 % 10 - 1) * 10)) (nv_mul (rfl) (rfl)) ?_
          refine aw_iload 1 dX8_followChain_91 rfl ?_
          refine aw_iadd dX8_followChain_93 ?_
          refine aw_toe (nI (((y0 / 1 % 10 - 1) * 10) + q2)) (nv_add (rfl) (rfl)) ?_
          refine aw_dV [.int (nI ((a * 10) + i)), .int (nI (((y0 / 1 % 10 - 1) * 10) + q2))] [] lX8_121 vX1_likeness mX1_likeness dX8_followChain_94 (aX1_likeness (m := m) (se := se) (ye := ye) (fi := fi) (W := W) (Sn := Sn) (Z := Z) (Ro := Ro) (Co := Co) (Ba := Ba) (nb := nb) (sp := sp) (fa := fa) (ve := ve) (e := (a * 10) + i) (f := ((y0 / 1 % 10 - 1) * 10) + q2) f5964 f5965 f5966 f5967 f5968 f5969 f5970 f5971 f5972 f5973 f5974 hm hse hfi hye (by omega) (by omega)) f5964 rfl rfl rfl (Nat.le_of_ble_eq_true rfl) (by decide) (by decide) rfl ?_
          refine aw_toe (nI (lx a (y0 / 1 % 10 - 1) i q2)) (hlx a (by omega) (y0 / 1 % 10 - 1) (by omega) i (by omega) q2 (by omega)) ?_
          refine aw_istore [(13, .int (nI (lx a (y0 / 1 % 10 - 1) i q2))), (7, .int 1), (12, .int (nI q2)), (11, .ref (G.1 + P)), (10, .int (nI (y0 / 1 % 10 - 1))), (9, .int 1), (8, .int 0), (6, .int (nI i)), (5, .int (nI a)), (0, .ref (G.1 + 0)), (1, .int (nI a)), (2, .int (nI i)), (3, .int (nI y0)), (4, .int w)] dX8_followChain_97 (by decide) rfl ?_
          refine aw_iload 6 dX8_followChain_99 rfl ?_
          refine aw_iconst (0) dX8_followChain_101 (by decide) ?_
          refine aw_bipush (100) dX8_followChain_102 (by decide) ?_
          refine aw_iload 0 dX8_followChain_104 rfl ?_
          refine aw_isub dX8_followChain_106 ?_
          refine aw_mmax lX8_251 dX8_followChain_107 (Nat.le_of_ble_eq_true rfl) (by decide) (by decide) ?_
          refine aw_toe (chX (nI (lx a (y0 / 1 % 10 - 1) i q2))) (rfl) ?_
          refine aw_aload 3 dX8_followChain_110 rfl ?_
          refine aw_get fX8_137 dX8_followChain_112 f5953 rfl ?_
          refine aw_iload 7 dX8_followChain_115 rfl ?_
          refine aw_zald i (rfl) (by omega) (by decide) dX8_followChain_117 f5955 ?_
          refine aw_if_eq 125 dX8_followChain_118 (by decide) (fun c118 => ?_) (fun c118 => ?_)
          · have d118 := (j_eq (a := (ce15943 i).toInt) (b := (0)) (rfl) (rfl)).mp c118
            refine aw_bipush (50) dX8_followChain_125 (by decide) ?_
            refine aw_iadd dX8_followChain_127 ?_
            refine aw_iadd dX8_followChain_128 ?_
            refine aw_istore [(8, .int (0 + ((chX (nI (lx a (y0 / 1 % 10 - 1) i q2))) + 50))), (13, .int (nI (lx a (y0 / 1 % 10 - 1) i q2))), (7, .int 1), (12, .int (nI q2)), (11, .ref (G.1 + P)), (10, .int (nI (y0 / 1 % 10 - 1))), (9, .int 1), (6, .int (nI i)), (5, .int (nI a)), (0, .ref (G.1 + 0)), (1, .int (nI a)), (2, .int (nI i)), (3, .int (nI y0)), (4, .int w)] dX8_followChain_129 (by decide) rfl ?_
            refine aw_iload 5 dX8_followChain_131 rfl ?_
            refine aw_istore [(5, .int (nI (y0 / 1 % 10 - 1))), (8, .int (0 + ((chX (nI (lx a (y0 / 1 % 10 - 1) i q2))) + 50))), (13, .int (nI (lx a (y0 / 1 % 10 - 1) i q2))), (7, .int 1), (12, .int (nI q2)), (11, .ref (G.1 + P)), (10, .int (nI (y0 / 1 % 10 - 1))), (9, .int 1), (6, .int (nI i)), (0, .ref (G.1 + 0)), (1, .int (nI a)), (2, .int (nI i)), (3, .int (nI y0)), (4, .int w)] dX8_followChain_133 (by decide) rfl ?_
            refine aw_iload 4 dX8_followChain_135 rfl ?_
            refine aw_istore [(6, .int (nI q2)), (5, .int (nI (y0 / 1 % 10 - 1))), (8, .int (0 + ((chX (nI (lx a (y0 / 1 % 10 - 1) i q2))) + 50))), (13, .int (nI (lx a (y0 / 1 % 10 - 1) i q2))), (7, .int 1), (12, .int (nI q2)), (11, .ref (G.1 + P)), (10, .int (nI (y0 / 1 % 10 - 1))), (9, .int 1), (0, .ref (G.1 + 0)), (1, .int (nI a)), (2, .int (nI i)), (3, .int (nI y0)), (4, .int w)] dX8_followChain_137 (by decide) rfl ?_
            refine aw_iload 8 dX8_followChain_139 rfl ?_
            refine aw_bipush (10) dX8_followChain_141 (by decide) ?_
            refine aw_idiv dX8_followChain_143 (by decide) ?_
            refine aw_toe 0 (by decide) ?_
            refine aw_istore [(9, .int 0), (6, .int (nI q2)), (5, .int (nI (y0 / 1 % 10 - 1))), (8, .int (0 + ((chX (nI (lx a (y0 / 1 % 10 - 1) i q2))) + 50))), (13, .int (nI (lx a (y0 / 1 % 10 - 1) i q2))), (7, .int 1), (12, .int (nI q2)), (11, .ref (G.1 + P)), (10, .int (nI (y0 / 1 % 10 - 1))), (0, .ref (G.1 + 0)), (1, .int (nI a)), (2, .int (nI i)), (3, .int (nI y0)), (4, .int w)] dX8_followChain_144 (by decide) rfl ?_
            refine aw_goto 16 dX8_followChain_146 (by decide) ?_
            refine aw_lv [(9, .int 0), (8, .int (0 + ((chX (nI (lx a (y0 / 1 % 10 - 1) i q2))) + 50))), (7, .int 1), (6, .int (nI q2)), (5, .int (nI (y0 / 1 % 10 - 1))), (4, .int w), (3, .int (nI y0)), (0, .ref (G.1 + 0))] [0, 3, 5, 1, 2, 13, 12, 9] rfl ?_
            exact fcL (bv := bv) (J := J) (x := 0) (ev := (nI q2)) (fr := y0 / 1 % 10 - 1) (dv := 0 + ((chX (nI (lx a (y0 / 1 % 10 - 1) i q2))) + 50)) (sv := 1) (u1 := u15931) (v1 := v15932) (ro1 := ro15933) (co1 := co15934) (rc1 := rc15935) (lk1 := lk15936) (bs1 := bs15937) (wy1 := wy15938) (nw1 := nw15939) hl hm hse hfi hye qJ bve hlx hlx3 g1 by0 (by decide) (Or.inr ⟨_, bq2, bq2f, rfl⟩) (by omega) p5957 p5958 p5959 p5960 hJ2 hln (hsk1.trans (chV_s (t := y0 / 1 % 10 - 1) (by omega) (by omega) (by show ¬ y0 / 1 % 10 = 0; omega) rfl hP (cc_0 (p5962.2.2.2 i (by omega)) c118))) f5946 f5964 f5965 f5966 f5967 f5968 f5969 f5970 f5971 f5972 f5973 f5974 f5975 f5947 f5948 f5949 f5950 f5951 f5952 (grw_gg (grw_rf 0 0 13 60 h) k5956 (fun j q1 q2 => by omega)) hQF
          · have d118 := mt (j_eq (a := (ce15943 i).toInt) (b := (0)) (rfl) (rfl)).mpr c118
            refine aw_iconst (0) dX8_followChain_121 (by decide) ?_
            refine aw_goto 127 dX8_followChain_122 (by decide) ?_
            refine aw_iadd dX8_followChain_127 ?_
            refine aw_iadd dX8_followChain_128 ?_
            refine aw_istore [(8, .int (0 + ((chX (nI (lx a (y0 / 1 % 10 - 1) i q2))) + 0))), (13, .int (nI (lx a (y0 / 1 % 10 - 1) i q2))), (7, .int 1), (12, .int (nI q2)), (11, .ref (G.1 + P)), (10, .int (nI (y0 / 1 % 10 - 1))), (9, .int 1), (6, .int (nI i)), (5, .int (nI a)), (0, .ref (G.1 + 0)), (1, .int (nI a)), (2, .int (nI i)), (3, .int (nI y0)), (4, .int w)] dX8_followChain_129 (by decide) rfl ?_
            refine aw_iload 5 dX8_followChain_131 rfl ?_
            refine aw_istore [(5, .int (nI (y0 / 1 % 10 - 1))), (8, .int (0 + ((chX (nI (lx a (y0 / 1 % 10 - 1) i q2))) + 0))), (13, .int (nI (lx a (y0 / 1 % 10 - 1) i q2))), (7, .int 1), (12, .int (nI q2)), (11, .ref (G.1 + P)), (10, .int (nI (y0 / 1 % 10 - 1))), (9, .int 1), (6, .int (nI i)), (0, .ref (G.1 + 0)), (1, .int (nI a)), (2, .int (nI i)), (3, .int (nI y0)), (4, .int w)] dX8_followChain_133 (by decide) rfl ?_
            refine aw_iload 4 dX8_followChain_135 rfl ?_
            refine aw_istore [(6, .int (nI q2)), (5, .int (nI (y0 / 1 % 10 - 1))), (8, .int (0 + ((chX (nI (lx a (y0 / 1 % 10 - 1) i q2))) + 0))), (13, .int (nI (lx a (y0 / 1 % 10 - 1) i q2))), (7, .int 1), (12, .int (nI q2)), (11, .ref (G.1 + P)), (10, .int (nI (y0 / 1 % 10 - 1))), (9, .int 1), (0, .ref (G.1 + 0)), (1, .int (nI a)), (2, .int (nI i)), (3, .int (nI y0)), (4, .int w)] dX8_followChain_137 (by decide) rfl ?_
            refine aw_iload 8 dX8_followChain_139 rfl ?_
            refine aw_bipush (10) dX8_followChain_141 (by decide) ?_
            refine aw_idiv dX8_followChain_143 (by decide) ?_
            refine aw_toe 0 (by decide) ?_
            refine aw_istore [(9, .int 0), (6, .int (nI q2)), (5, .int (nI (y0 / 1 % 10 - 1))), (8, .int (0 + ((chX (nI (lx a (y0 / 1 % 10 - 1) i q2))) + 0))), (13, .int (nI (lx a (y0 / 1 % 10 - 1) i q2))), (7, .int 1), (12, .int (nI q2)), (11, .ref (G.1 + P)), (10, .int (nI (y0 / 1 % 10 - 1))), (0, .ref (G.1 + 0)), (1, .int (nI a)), (2, .int (nI i)), (3, .int (nI y0)), (4, .int w)] dX8_followChain_144 (by decide) rfl ?_
            refine aw_goto 16 dX8_followChain_146 (by decide) ?_
            refine aw_lv [(9, .int 0), (8, .int (0 + ((chX (nI (lx a (y0 / 1 % 10 - 1) i q2))) + 0))), (7, .int 1), (6, .int (nI q2)), (5, .int (nI (y0 / 1 % 10 - 1))), (4, .int w), (3, .int (nI y0)), (0, .ref (G.1 + 0))] [0, 3, 5, 1, 2, 13, 12, 9] rfl ?_
            exact fcL (bv := bv) (J := J) (x := 0) (ev := (nI q2)) (fr := y0 / 1 % 10 - 1) (dv := 0 + ((chX (nI (lx a (y0 / 1 % 10 - 1) i q2))) + 0)) (sv := 1) (u1 := u15931) (v1 := v15932) (ro1 := ro15933) (co1 := co15934) (rc1 := rc15935) (lk1 := lk15936) (bs1 := bs15937) (wy1 := wy15938) (nw1 := nw15939) hl hm hse hfi hye qJ bve hlx hlx3 g1 by0 (by decide) (Or.inr ⟨_, bq2, bq2f, rfl⟩) (by omega) p5957 p5958 p5959 p5960 hJ2 hln (hsk1.trans (chV_s (t := y0 / 1 % 10 - 1) (by omega) (by omega) (by show ¬ y0 / 1 % 10 = 0; omega) rfl hP (cc_1 (p5962.2.2.2 i (by omega)) c118))) f5946 f5964 f5965 f5966 f5967 f5968 f5969 f5970 f5971 f5972 f5973 f5974 f5975 f5947 f5948 f5949 f5950 f5951 f5952 (grw_gg (grw_rf 0 0 13 60 h) k5956 (fun j q1 q2 => by omega)) hQF
    · have d41 := mt (j_lt (a := ((nI ((y0 / 10) % 10)) - 1).toInt) (b := (0)) (rfl) (rfl)).mpr c41
      have g0 : 1 ≤ y0 / 10 % 10 := by rw [dig_i (by omega)] at d41; omega
      rw [dig_e g0]
      obtain ⟨su, wa, pt, ce, pv, gg0, gg1, gg2, hpt, bpv, hfz⟩ := hJz (a * 4 + (y0 / 10 % 10 - 1)) (by omega)
      obtain ⟨P, eP⟩ : ∃ P, P = 13 + 3 * (a * 4 + (y0 / 10 % 10 - 1)) := ⟨_, rfl⟩
      rw [← eP] at gg0 gg1 gg2
      have hvv : ¬ pv = ve := by rw [show pv = 0 from hfz]; omega
      refine aw_aload_n 6 dX8_followChain_44 rfl rfl ?_
      refine aw_iload 5 dX8_followChain_45 rfl ?_
      refine aw_iload 0 dX8_followChain_47 rfl ?_
      refine aw_eV [.int (nI a), .int (nI (y0 / 10 % 10 - 1))] [] lX8_124 vX8_bestJoining mX8_bestJoining dX8_followChain_49 (bJ_n (bv := bv) (P := P) (pv := pv) (su := su) (wa := wa) (pt := pt) (ce := ce) (m := m) (se := se) (ye := ye) (fi := fi) (W := W) (Sn := Sn) (Z := Z) (Ro := Ro) (Co := Co) (Ba := Ba) (nb := nb) (sp := sp) (fa := fa) (ve := ve) (a := a) (b := y0 / 10 % 10 - 1) h0 h1 h2 h3 h4 h5 h6 h7 h8 h9 h10 h11 h12 gg0 gg1 gg2 (by omega) hm hse hfi hye (by omega) (by omega) (by omega) (by omega) (by omega) hpt eP (hlx a (by omega) (y0 / 10 % 10 - 1) (by omega)) (hlx3 a (y0 / 10 % 10 - 1)) (by omega) (by omega) hvv) h0 rfl rfl rfl (Nat.le_of_ble_eq_true rfl) (by decide) (by decide) rfl (fun h5990 q5989 => ?_)
      obtain ⟨u15976, v15977, ro15978, co15979, rc15980, lk15981, bs15982, wy15983, nw15984, su15985, wa15986, pt15987, ce15988, f5991, f5992, f5993, f5994, f5995, f5996, f5997, f5998, f5999, f6000, k6001, p6002, p6003, p6004, p6005, p6006, p6007, p6008⟩ := q5989
      have f6009 := grw_at k6001 (by omega) h1
      have f6010 := grw_at k6001 (by omega) h2
      have f6011 := grw_at k6001 (by omega) h3
      have f6012 := grw_at k6001 (by omega) h4
      have f6013 := grw_at k6001 (by omega) h5
      have f6014 := grw_at k6001 (by omega) h6
      have f6015 := grw_at k6001 (by omega) h7
      have f6016 := grw_at k6001 (by omega) h8
      have f6017 := grw_at k6001 (by omega) h9
      have f6018 := grw_at k6001 (by omega) h10
      have f6019 := grw_at k6001 (by omega) h11
      have f6020 := grw_at k6001 (by omega) h12
      have hJ2 : iJs G (jX lx fi ve) h5990 := iJs_up (iJs_w hJz (fun _ _ _ _ _ _ w9 => jX_z hve w9)) (k := a * 4 + (y0 / 10 % 10 - 1)) (by omega) eP (fun j q1 q2 q3 => k6001.2 j (by omega) (by omega)) f5998 f5999 f6000 p6006 bve (jX_at p6007 (by omega))
      have hln := p6008
      refine aw_astore [(11, .ref (G.1 + P)), (10, .int (nI (y0 / 10 % 10 - 1))), (9, .int 10), (8, .int 0), (7, .int 0), (6, .int (nI i)), (5, .int (nI a)), (0, .ref (G.1 + 0)), (1, .int (nI a)), (2, .int (nI i)), (3, .int (nI y0)), (4, .int w)] dX8_followChain_52 (by decide) rfl ?_
      refine aw_aload 0 dX8_followChain_54 rfl ?_
      refine aw_get fX8_131 dX8_followChain_56 f5998 rfl ?_
      refine aw_iload 5 dX8_followChain_59 rfl ?_
      refine aw_iald i (rfl) (by omega) (by decide) dX8_followChain_61 f5999 ?_
      refine aw_istore [(12, .int (pt15987 i)), (11, .ref (G.1 + P)), (10, .int (nI (y0 / 10 % 10 - 1))), (9, .int 10), (8, .int 0), (7, .int 0), (6, .int (nI i)), (5, .int (nI a)), (0, .ref (G.1 + 0)), (1, .int (nI a)), (2, .int (nI i)), (3, .int (nI y0)), (4, .int w)] dX8_followChain_62 (by decide) rfl ?_
      refine aw_iload 0 dX8_followChain_64 rfl ?_
      refine aw_bipush (-9) dX8_followChain_66 (by decide) ?_
      refine aw_icmp_eq 131 dX8_followChain_68 (by decide) (fun c68 => ?_) (fun c68 => ?_)
      · have d68 := (j_eq (a := (pt15987 i).toInt) (b := (-9)) (rfl) (rfl)).mp c68
        refine aw_iload 2 dX8_followChain_131 rfl ?_
        refine aw_istore [(5, .int (nI (y0 / 10 % 10 - 1))), (12, .int (pt15987 i)), (11, .ref (G.1 + P)), (10, .int (nI (y0 / 10 % 10 - 1))), (9, .int 10), (8, .int 0), (7, .int 0), (6, .int (nI i)), (0, .ref (G.1 + 0)), (1, .int (nI a)), (2, .int (nI i)), (3, .int (nI y0)), (4, .int w)] dX8_followChain_133 (by decide) rfl ?_
        refine aw_iload 1 dX8_followChain_135 rfl ?_
        refine aw_istore [(6, .int (pt15987 i)), (5, .int (nI (y0 / 10 % 10 - 1))), (12, .int (pt15987 i)), (11, .ref (G.1 + P)), (10, .int (nI (y0 / 10 % 10 - 1))), (9, .int 10), (8, .int 0), (7, .int 0), (0, .ref (G.1 + 0)), (1, .int (nI a)), (2, .int (nI i)), (3, .int (nI y0)), (4, .int w)] dX8_followChain_137 (by decide) rfl ?_
        refine aw_iload 5 dX8_followChain_139 rfl ?_
        refine aw_bipush (10) dX8_followChain_141 (by decide) ?_
        refine aw_idiv dX8_followChain_143 (by decide) ?_
        refine aw_toe 1 (by decide) ?_
        refine aw_istore [(9, .int 1), (6, .int (pt15987 i)), (5, .int (nI (y0 / 10 % 10 - 1))), (12, .int (pt15987 i)), (11, .ref (G.1 + P)), (10, .int (nI (y0 / 10 % 10 - 1))), (8, .int 0), (7, .int 0), (0, .ref (G.1 + 0)), (1, .int (nI a)), (2, .int (nI i)), (3, .int (nI y0)), (4, .int w)] dX8_followChain_144 (by decide) rfl ?_
        refine aw_goto 16 dX8_followChain_146 (by decide) ?_
        refine aw_lv [(9, .int 1), (8, .int 0), (7, .int 0), (6, .int (pt15987 i)), (5, .int (nI (y0 / 10 % 10 - 1))), (4, .int w), (3, .int (nI y0)), (0, .ref (G.1 + 0))] [0, 6, 7, 1, 2, 12, 11, 8] rfl ?_
        exact fcL (bv := bv) (J := J) (x := 1) (ev := pt15987 i) (fr := y0 / 10 % 10 - 1) (dv := 0) (sv := 0) (u1 := u15976) (v1 := v15977) (ro1 := ro15978) (co1 := co15979) (rc1 := rc15980) (lk1 := lk15981) (bs1 := bs15982) (wy1 := wy15983) (nw1 := nw15984) hl hm hse hfi hye qJ bve hlx hlx3 g1 by0 (by decide) (Or.inl c68) (by omega) p6002 p6003 p6004 p6005 hJ2 hln (by rw [c68]; exact hsk2.trans (chV_n (t := y0 / 10 % 10 - 1) (by omega) (by show ¬ y0 / 10 % 10 = 0; omega) rfl ((p6007.2.1 i (by omega)).symm.trans c68))) f5991 f6009 f6010 f6011 f6012 f6013 f6014 f6015 f6016 f6017 f6018 f6019 f6020 f5992 f5993 f5994 f5995 f5996 f5997 (grw_gg (grw_rf 0 0 13 60 h) k6001 (fun j q1 q2 => by omega)) hQF
      · have d68 := mt (j_eq (a := (pt15987 i).toInt) (b := (-9)) (rfl) (rfl)).mpr c68
        obtain ⟨q2, bq2, eq2⟩ := (p6006 i (by omega)).resolve_left c68
        have fb9 := hfi (y0 / 10 % 10 - 1) (by omega)
        have hP := (p6007.2.1 i (by omega)).symm.trans eq2
        have bq2f := jP_lt (by omega) (by omega) hP
        rw [eq2]
        refine aw_iinc (j := 5) (1) [(7, .int 1), (12, .int (nI q2)), (11, .ref (G.1 + P)), (10, .int (nI (y0 / 10 % 10 - 1))), (9, .int 10), (8, .int 0), (6, .int (nI i)), (5, .int (nI a)), (0, .ref (G.1 + 0)), (1, .int (nI a)), (2, .int (nI i)), (3, .int (nI y0)), (4, .int w)] dX8_followChain_71 rfl (by decide) (by decide) rfl ?_
        refine aw_aload_n 8 dX8_followChain_74 rfl rfl ?_
        refine aw_get fX8_20 dX8_followChain_75 f5991 rfl ?_
        refine aw_iload 7 dX8_followChain_78 rfl ?_
        refine aw_bipush (10) dX8_followChain_80 (by decide) ?_
        refine aw_imul dX8_followChain_82 ?_
        refine aw_toe (nI (a * 10)) (nv_mul (rfl) (rfl)) ?_
        refine aw_iload 6 dX8_followChain_83 rfl ?_
        refine aw_iadd dX8_followChain_85 ?_
        refine aw_toe (nI ((a * 10) + i)) (nv_add (rfl) (rfl)) ?_
        refine aw_iload 3 dX8_followChain_86 rfl ?_
        refine aw_bipush (10) dX8_followChain_88 (by decide) ?_
        refine aw_imul dX8_followChain_90 ?_
        refine aw_toe (nI ((y0 / 10 % 10 - 1) * 10)) (nv_mul (rfl) (rfl)) ?_
        refine aw_iload 1 dX8_followChain_91 rfl ?_
        refine aw_iadd dX8_followChain_93 ?_
        refine aw_toe (nI (((y0 / 10 % 10 - 1) * 10) + q2)) (nv_add (rfl) (rfl)) ?_
        refine aw_dV [.int (nI ((a * 10) + i)), .int (nI (((y0 / 10 % 10 - 1) * 10) + q2))] [] lX8_121 vX1_likeness mX1_likeness dX8_followChain_94 (aX1_likeness (m := m) (se := se) (ye := ye) (fi := fi) (W := W) (Sn := Sn) (Z := Z) (Ro := Ro) (Co := Co) (Ba := Ba) (nb := nb) (sp := sp) (fa := fa) (ve := ve) (e := (a * 10) + i) (f := ((y0 / 10 % 10 - 1) * 10) + q2) f6009 f6010 f6011 f6012 f6013 f6014 f6015 f6016 f6017 f6018 f6019 hm hse hfi hye (by omega) (by omega)) f6009 rfl rfl rfl (Nat.le_of_ble_eq_true rfl) (by decide) (by decide) rfl ?_
        refine aw_toe (nI (lx a (y0 / 10 % 10 - 1) i q2)) (hlx a (by omega) (y0 / 10 % 10 - 1) (by omega) i (by omega) q2 (by omega)) ?_
        refine aw_istore [(13, .int (nI (lx a (y0 / 10 % 10 - 1) i q2))), (7, .int 1), (12, .int (nI q2)), (11, .ref (G.1 + P)), (10, .int (nI (y0 / 10 % 10 - 1))), (9, .int 10), (8, .int 0), (6, .int (nI i)), (5, .int (nI a)), (0, .ref (G.1 + 0)), (1, .int (nI a)), (2, .int (nI i)), (3, .int (nI y0)), (4, .int w)] dX8_followChain_97 (by decide) rfl ?_
        refine aw_iload 6 dX8_followChain_99 rfl ?_
        refine aw_iconst (0) dX8_followChain_101 (by decide) ?_
        refine aw_bipush (100) dX8_followChain_102 (by decide) ?_
        refine aw_iload 0 dX8_followChain_104 rfl ?_
        refine aw_isub dX8_followChain_106 ?_
        refine aw_mmax lX8_251 dX8_followChain_107 (Nat.le_of_ble_eq_true rfl) (by decide) (by decide) ?_
        refine aw_toe (chX (nI (lx a (y0 / 10 % 10 - 1) i q2))) (rfl) ?_
        refine aw_aload 3 dX8_followChain_110 rfl ?_
        refine aw_get fX8_137 dX8_followChain_112 f5998 rfl ?_
        refine aw_iload 7 dX8_followChain_115 rfl ?_
        refine aw_zald i (rfl) (by omega) (by decide) dX8_followChain_117 f6000 ?_
        refine aw_if_eq 125 dX8_followChain_118 (by decide) (fun c118 => ?_) (fun c118 => ?_)
        · have d118 := (j_eq (a := (ce15988 i).toInt) (b := (0)) (rfl) (rfl)).mp c118
          refine aw_bipush (50) dX8_followChain_125 (by decide) ?_
          refine aw_iadd dX8_followChain_127 ?_
          refine aw_iadd dX8_followChain_128 ?_
          refine aw_istore [(8, .int (0 + ((chX (nI (lx a (y0 / 10 % 10 - 1) i q2))) + 50))), (13, .int (nI (lx a (y0 / 10 % 10 - 1) i q2))), (7, .int 1), (12, .int (nI q2)), (11, .ref (G.1 + P)), (10, .int (nI (y0 / 10 % 10 - 1))), (9, .int 10), (6, .int (nI i)), (5, .int (nI a)), (0, .ref (G.1 + 0)), (1, .int (nI a)), (2, .int (nI i)), (3, .int (nI y0)), (4, .int w)] dX8_followChain_129 (by decide) rfl ?_
          refine aw_iload 5 dX8_followChain_131 rfl ?_
          refine aw_istore [(5, .int (nI (y0 / 10 % 10 - 1))), (8, .int (0 + ((chX (nI (lx a (y0 / 10 % 10 - 1) i q2))) + 50))), (13, .int (nI (lx a (y0 / 10 % 10 - 1) i q2))), (7, .int 1), (12, .int (nI q2)), (11, .ref (G.1 + P)), (10, .int (nI (y0 / 10 % 10 - 1))), (9, .int 10), (6, .int (nI i)), (0, .ref (G.1 + 0)), (1, .int (nI a)), (2, .int (nI i)), (3, .int (nI y0)), (4, .int w)] dX8_followChain_133 (by decide) rfl ?_
          refine aw_iload 4 dX8_followChain_135 rfl ?_
          refine aw_istore [(6, .int (nI q2)), (5, .int (nI (y0 / 10 % 10 - 1))), (8, .int (0 + ((chX (nI (lx a (y0 / 10 % 10 - 1) i q2))) + 50))), (13, .int (nI (lx a (y0 / 10 % 10 - 1) i q2))), (7, .int 1), (12, .int (nI q2)), (11, .ref (G.1 + P)), (10, .int (nI (y0 / 10 % 10 - 1))), (9, .int 10), (0, .ref (G.1 + 0)), (1, .int (nI a)), (2, .int (nI i)), (3, .int (nI y0)), (4, .int w)] dX8_followChain_137 (by decide) rfl ?_
          refine aw_iload 8 dX8_followChain_139 rfl ?_
          refine aw_bipush (10) dX8_followChain_141 (by decide) ?_
          refine aw_idiv dX8_followChain_143 (by decide) ?_
          refine aw_toe 1 (by decide) ?_
          refine aw_istore [(9, .int 1), (6, .int (nI q2)), (5, .int (nI (y0 / 10 % 10 - 1))), (8, .int (0 + ((chX (nI (lx a (y0 / 10 % 10 - 1) i q2))) + 50))), (13, .int (nI (lx a (y0 / 10 % 10 - 1) i q2))), (7, .int 1), (12, .int (nI q2)), (11, .ref (G.1 + P)), (10, .int (nI (y0 / 10 % 10 - 1))), (0, .ref (G.1 + 0)), (1, .int (nI a)), (2, .int (nI i)), (3, .int (nI y0)), (4, .int w)] dX8_followChain_144 (by decide) rfl ?_
          refine aw_goto 16 dX8_followChain_146 (by decide) ?_
          refine aw_lv [(9, .int 1), (8, .int (0 + ((chX (nI (lx a (y0 / 10 % 10 - 1) i q2))) + 50))), (7, .int 1), (6, .int (nI q2)), (5, .int (nI (y0 / 10 % 10 - 1))), (4, .int w), (3, .int (nI y0)), (0, .ref (G.1 + 0))] [0, 3, 5, 1, 2, 13, 12, 9] rfl ?_
          exact fcL (bv := bv) (J := J) (x := 1) (ev := (nI q2)) (fr := y0 / 10 % 10 - 1) (dv := 0 + ((chX (nI (lx a (y0 / 10 % 10 - 1) i q2))) + 50)) (sv := 1) (u1 := u15976) (v1 := v15977) (ro1 := ro15978) (co1 := co15979) (rc1 := rc15980) (lk1 := lk15981) (bs1 := bs15982) (wy1 := wy15983) (nw1 := nw15984) hl hm hse hfi hye qJ bve hlx hlx3 g1 by0 (by decide) (Or.inr ⟨_, bq2, bq2f, rfl⟩) (by omega) p6002 p6003 p6004 p6005 hJ2 hln (hsk2.trans (chV_s (t := y0 / 10 % 10 - 1) (by omega) (by omega) (by show ¬ y0 / 10 % 10 = 0; omega) rfl hP (cc_0 (p6007.2.2.2 i (by omega)) c118))) f5991 f6009 f6010 f6011 f6012 f6013 f6014 f6015 f6016 f6017 f6018 f6019 f6020 f5992 f5993 f5994 f5995 f5996 f5997 (grw_gg (grw_rf 0 0 13 60 h) k6001 (fun j q1 q2 => by omega)) hQF
        · have d118 := mt (j_eq (a := (ce15988 i).toInt) (b := (0)) (rfl) (rfl)).mpr c118
          refine aw_iconst (0) dX8_followChain_121 (by decide) ?_
          refine aw_goto 127 dX8_followChain_122 (by decide) ?_
          refine aw_iadd dX8_followChain_127 ?_
          refine aw_iadd dX8_followChain_128 ?_
          refine aw_istore [(8, .int (0 + ((chX (nI (lx a (y0 / 10 % 10 - 1) i q2))) + 0))), (13, .int (nI (lx a (y0 / 10 % 10 - 1) i q2))), (7, .int 1), (12, .int (nI q2)), (11, .ref (G.1 + P)), (10, .int (nI (y0 / 10 % 10 - 1))), (9, .int 10), (6, .int (nI i)), (5, .int (nI a)), (0, .ref (G.1 + 0)), (1, .int (nI a)), (2, .int (nI i)), (3, .int (nI y0)), (4, .int w)] dX8_followChain_129 (by decide) rfl ?_
          refine aw_iload 5 dX8_followChain_131 rfl ?_
          refine aw_istore [(5, .int (nI (y0 / 10 % 10 - 1))), (8, .int (0 + ((chX (nI (lx a (y0 / 10 % 10 - 1) i q2))) + 0))), (13, .int (nI (lx a (y0 / 10 % 10 - 1) i q2))), (7, .int 1), (12, .int (nI q2)), (11, .ref (G.1 + P)), (10, .int (nI (y0 / 10 % 10 - 1))), (9, .int 10), (6, .int (nI i)), (0, .ref (G.1 + 0)), (1, .int (nI a)), (2, .int (nI i)), (3, .int (nI y0)), (4, .int w)] dX8_followChain_133 (by decide) rfl ?_
          refine aw_iload 4 dX8_followChain_135 rfl ?_
          refine aw_istore [(6, .int (nI q2)), (5, .int (nI (y0 / 10 % 10 - 1))), (8, .int (0 + ((chX (nI (lx a (y0 / 10 % 10 - 1) i q2))) + 0))), (13, .int (nI (lx a (y0 / 10 % 10 - 1) i q2))), (7, .int 1), (12, .int (nI q2)), (11, .ref (G.1 + P)), (10, .int (nI (y0 / 10 % 10 - 1))), (9, .int 10), (0, .ref (G.1 + 0)), (1, .int (nI a)), (2, .int (nI i)), (3, .int (nI y0)), (4, .int w)] dX8_followChain_137 (by decide) rfl ?_
          refine aw_iload 8 dX8_followChain_139 rfl ?_
          refine aw_bipush (10) dX8_followChain_141 (by decide) ?_
          refine aw_idiv dX8_followChain_143 (by decide) ?_
          refine aw_toe 1 (by decide) ?_
          refine aw_istore [(9, .int 1), (6, .int (nI q2)), (5, .int (nI (y0 / 10 % 10 - 1))), (8, .int (0 + ((chX (nI (lx a (y0 / 10 % 10 - 1) i q2))) + 0))), (13, .int (nI (lx a (y0 / 10 % 10 - 1) i q2))), (7, .int 1), (12, .int (nI q2)), (11, .ref (G.1 + P)), (10, .int (nI (y0 / 10 % 10 - 1))), (0, .ref (G.1 + 0)), (1, .int (nI a)), (2, .int (nI i)), (3, .int (nI y0)), (4, .int w)] dX8_followChain_144 (by decide) rfl ?_
          refine aw_goto 16 dX8_followChain_146 (by decide) ?_
          refine aw_lv [(9, .int 1), (8, .int (0 + ((chX (nI (lx a (y0 / 10 % 10 - 1) i q2))) + 0))), (7, .int 1), (6, .int (nI q2)), (5, .int (nI (y0 / 10 % 10 - 1))), (4, .int w), (3, .int (nI y0)), (0, .ref (G.1 + 0))] [0, 3, 5, 1, 2, 13, 12, 9] rfl ?_
          exact fcL (bv := bv) (J := J) (x := 1) (ev := (nI q2)) (fr := y0 / 10 % 10 - 1) (dv := 0 + ((chX (nI (lx a (y0 / 10 % 10 - 1) i q2))) + 0)) (sv := 1) (u1 := u15976) (v1 := v15977) (ro1 := ro15978) (co1 := co15979) (rc1 := rc15980) (lk1 := lk15981) (bs1 := bs15982) (wy1 := wy15983) (nw1 := nw15984) hl hm hse hfi hye qJ bve hlx hlx3 g1 by0 (by decide) (Or.inr ⟨_, bq2, bq2f, rfl⟩) (by omega) p6002 p6003 p6004 p6005 hJ2 hln (hsk2.trans (chV_s (t := y0 / 10 % 10 - 1) (by omega) (by omega) (by show ¬ y0 / 10 % 10 = 0; omega) rfl hP (cc_1 (p6007.2.2.2 i (by omega)) c118))) f5991 f6009 f6010 f6011 f6012 f6013 f6014 f6015 f6016 f6017 f6018 f6019 f6020 f5992 f5993 f5994 f5995 f5996 f5997 (grw_gg (grw_rf 0 0 13 60 h) k6001 (fun j q1 q2 => by omega)) hQF
  · have d41 := mt (j_lt (a := ((nI ((y0 / 100) % 10)) - 1).toInt) (b := (0)) (rfl) (rfl)).mpr c41
    have g0 : 1 ≤ y0 / 100 % 10 := by rw [dig_i (by omega)] at d41; omega
    rw [dig_e g0]
    obtain ⟨su, wa, pt, ce, pv, gg0, gg1, gg2, hpt, bpv, hfz⟩ := hJz (a * 4 + (y0 / 100 % 10 - 1)) (by omega)
    obtain ⟨P, eP⟩ : ∃ P, P = 13 + 3 * (a * 4 + (y0 / 100 % 10 - 1)) := ⟨_, rfl⟩
    rw [← eP] at gg0 gg1 gg2
    have hvv : ¬ pv = ve := by rw [show pv = 0 from hfz]; omega
    refine aw_aload_n 6 dX8_followChain_44 rfl rfl ?_
    refine aw_iload 5 dX8_followChain_45 rfl ?_
    refine aw_iload 0 dX8_followChain_47 rfl ?_
    refine aw_eV [.int (nI a), .int (nI (y0 / 100 % 10 - 1))] [] lX8_124 vX8_bestJoining mX8_bestJoining dX8_followChain_49 (bJ_n (bv := bv) (P := P) (pv := pv) (su := su) (wa := wa) (pt := pt) (ce := ce) (m := m) (se := se) (ye := ye) (fi := fi) (W := W) (Sn := Sn) (Z := Z) (Ro := Ro) (Co := Co) (Ba := Ba) (nb := nb) (sp := sp) (fa := fa) (ve := ve) (a := a) (b := y0 / 100 % 10 - 1) h0 h1 h2 h3 h4 h5 h6 h7 h8 h9 h10 h11 h12 gg0 gg1 gg2 (by omega) hm hse hfi hye (by omega) (by omega) (by omega) (by omega) (by omega) hpt eP (hlx a (by omega) (y0 / 100 % 10 - 1) (by omega)) (hlx3 a (y0 / 100 % 10 - 1)) (by omega) (by omega) hvv) h0 rfl rfl rfl (Nat.le_of_ble_eq_true rfl) (by decide) (by decide) rfl (fun h6035 q6034 => ?_)
    obtain ⟨u16021, v16022, ro16023, co16024, rc16025, lk16026, bs16027, wy16028, nw16029, su16030, wa16031, pt16032, ce16033, f6036, f6037, f6038, f6039, f6040, f6041, f6042, f6043, f6044, f6045, k6046, p6047, p6048, p6049, p6050, p6051, p6052, p6053⟩ := q6034
    have f6054 := grw_at k6046 (by omega) h1
    have f6055 := grw_at k6046 (by omega) h2
    have f6056 := grw_at k6046 (by omega) h3
    have f6057 := grw_at k6046 (by omega) h4
    have f6058 := grw_at k6046 (by omega) h5
    have f6059 := grw_at k6046 (by omega) h6
    have f6060 := grw_at k6046 (by omega) h7
    have f6061 := grw_at k6046 (by omega) h8
    have f6062 := grw_at k6046 (by omega) h9
    have f6063 := grw_at k6046 (by omega) h10
    have f6064 := grw_at k6046 (by omega) h11
    have f6065 := grw_at k6046 (by omega) h12
    have hJ2 : iJs G (jX lx fi ve) h6035 := iJs_up (iJs_w hJz (fun _ _ _ _ _ _ w9 => jX_z hve w9)) (k := a * 4 + (y0 / 100 % 10 - 1)) (by omega) eP (fun j q1 q2 q3 => k6046.2 j (by omega) (by omega)) f6043 f6044 f6045 p6051 bve (jX_at p6052 (by omega))
    have hln := p6053
    refine aw_astore [(11, .ref (G.1 + P)), (10, .int (nI (y0 / 100 % 10 - 1))), (9, .int 100), (8, .int 0), (7, .int 0), (6, .int (nI i)), (5, .int (nI a)), (0, .ref (G.1 + 0)), (1, .int (nI a)), (2, .int (nI i)), (3, .int (nI y0)), (4, .int w)] dX8_followChain_52 (by decide) rfl ?_
    refine aw_aload 0 dX8_followChain_54 rfl ?_
    refine aw_get fX8_131 dX8_followChain_56 f6043 rfl ?_
    refine aw_iload 5 dX8_followChain_59 rfl ?_
    refine aw_iald i (rfl) (by omega) (by decide) dX8_followChain_61 f6044 ?_
    refine aw_istore [(12, .int (pt16032 i)), (11, .ref (G.1 + P)), (10, .int (nI (y0 / 100 % 10 - 1))), (9, .int 100), (8, .int 0), (7, .int 0), (6, .int (nI i)), (5, .int (nI a)), (0, .ref (G.1 + 0)), (1, .int (nI a)), (2, .int (nI i)), (3, .int (nI y0)), (4, .int w)] dX8_followChain_62 (by decide) rfl ?_
    refine aw_iload 0 dX8_followChain_64 rfl ?_
    refine aw_bipush (-9) dX8_followChain_66 (by decide) ?_
    refine aw_icmp_eq 131 dX8_followChain_68 (by decide) (fun c68 => ?_) (fun c68 => ?_)
    · have d68 := (j_eq (a := (pt16032 i).toInt) (b := (-9)) (rfl) (rfl)).mp c68
      refine aw_iload 2 dX8_followChain_131 rfl ?_
      refine aw_istore [(5, .int (nI (y0 / 100 % 10 - 1))), (12, .int (pt16032 i)), (11, .ref (G.1 + P)), (10, .int (nI (y0 / 100 % 10 - 1))), (9, .int 100), (8, .int 0), (7, .int 0), (6, .int (nI i)), (0, .ref (G.1 + 0)), (1, .int (nI a)), (2, .int (nI i)), (3, .int (nI y0)), (4, .int w)] dX8_followChain_133 (by decide) rfl ?_
      refine aw_iload 1 dX8_followChain_135 rfl ?_
      refine aw_istore [(6, .int (pt16032 i)), (5, .int (nI (y0 / 100 % 10 - 1))), (12, .int (pt16032 i)), (11, .ref (G.1 + P)), (10, .int (nI (y0 / 100 % 10 - 1))), (9, .int 100), (8, .int 0), (7, .int 0), (0, .ref (G.1 + 0)), (1, .int (nI a)), (2, .int (nI i)), (3, .int (nI y0)), (4, .int w)] dX8_followChain_137 (by decide) rfl ?_
      refine aw_iload 5 dX8_followChain_139 rfl ?_
      refine aw_bipush (10) dX8_followChain_141 (by decide) ?_
      refine aw_idiv dX8_followChain_143 (by decide) ?_
      refine aw_toe 10 (by decide) ?_
      refine aw_istore [(9, .int 10), (6, .int (pt16032 i)), (5, .int (nI (y0 / 100 % 10 - 1))), (12, .int (pt16032 i)), (11, .ref (G.1 + P)), (10, .int (nI (y0 / 100 % 10 - 1))), (8, .int 0), (7, .int 0), (0, .ref (G.1 + 0)), (1, .int (nI a)), (2, .int (nI i)), (3, .int (nI y0)), (4, .int w)] dX8_followChain_144 (by decide) rfl ?_
      refine aw_goto 16 dX8_followChain_146 (by decide) ?_
      refine aw_lv [(9, .int 10), (8, .int 0), (7, .int 0), (6, .int (pt16032 i)), (5, .int (nI (y0 / 100 % 10 - 1))), (4, .int w), (3, .int (nI y0)), (0, .ref (G.1 + 0))] [0, 6, 7, 1, 2, 12, 11, 8] rfl ?_
      exact fcL (bv := bv) (J := J) (x := 2) (ev := pt16032 i) (fr := y0 / 100 % 10 - 1) (dv := 0) (sv := 0) (u1 := u16021) (v1 := v16022) (ro1 := ro16023) (co1 := co16024) (rc1 := rc16025) (lk1 := lk16026) (bs1 := bs16027) (wy1 := wy16028) (nw1 := nw16029) hl hm hse hfi hye qJ bve hlx hlx3 g1 by0 (by decide) (Or.inl c68) (by omega) p6047 p6048 p6049 p6050 hJ2 hln (by rw [c68]; exact chV_n (t := y0 / 100 % 10 - 1) (by omega) (by show ¬ y0 / 100 % 10 = 0; omega) rfl ((p6052.2.1 i (by omega)).symm.trans c68)) f6036 f6054 f6055 f6056 f6057 f6058 f6059 f6060 f6061 f6062 f6063 f6064 f6065 f6037 f6038 f6039 f6040 f6041 f6042 (grw_gg (grw_rf 0 0 13 60 h) k6046 (fun j q1 q2 => by omega)) hQF
    · have d68 := mt (j_eq (a := (pt16032 i).toInt) (b := (-9)) (rfl) (rfl)).mpr c68
      obtain ⟨q2, bq2, eq2⟩ := (p6051 i (by omega)).resolve_left c68
      have fb9 := hfi (y0 / 100 % 10 - 1) (by omega)
      have hP := (p6052.2.1 i (by omega)).symm.trans eq2
      have bq2f := jP_lt (by omega) (by omega) hP
      rw [eq2]
      refine aw_iinc (j := 5) (1) [(7, .int 1), (12, .int (nI q2)), (11, .ref (G.1 + P)), (10, .int (nI (y0 / 100 % 10 - 1))), (9, .int 100), (8, .int 0), (6, .int (nI i)), (5, .int (nI a)), (0, .ref (G.1 + 0)), (1, .int (nI a)), (2, .int (nI i)), (3, .int (nI y0)), (4, .int w)] dX8_followChain_71 rfl (by decide) (by decide) rfl ?_
      refine aw_aload_n 8 dX8_followChain_74 rfl rfl ?_
      refine aw_get fX8_20 dX8_followChain_75 f6036 rfl ?_
      refine aw_iload 7 dX8_followChain_78 rfl ?_
      refine aw_bipush (10) dX8_followChain_80 (by decide) ?_
      refine aw_imul dX8_followChain_82 ?_
      refine aw_toe (nI (a * 10)) (nv_mul (rfl) (rfl)) ?_
      refine aw_iload 6 dX8_followChain_83 rfl ?_
      refine aw_iadd dX8_followChain_85 ?_
      refine aw_toe (nI ((a * 10) + i)) (nv_add (rfl) (rfl)) ?_
      refine aw_iload 3 dX8_followChain_86 rfl ?_
      refine aw_bipush (10) dX8_followChain_88 (by decide) ?_
      refine aw_imul dX8_followChain_90 ?_
      refine aw_toe (nI ((y0 / 100 % 10 - 1) * 10)) (nv_mul (rfl) (rfl)) ?_
      refine aw_iload 1 dX8_followChain_91 rfl ?_
      refine aw_iadd dX8_followChain_93 ?_
      refine aw_toe (nI (((y0 / 100 % 10 - 1) * 10) + q2)) (nv_add (rfl) (rfl)) ?_
      refine aw_dV [.int (nI ((a * 10) + i)), .int (nI (((y0 / 100 % 10 - 1) * 10) + q2))] [] lX8_121 vX1_likeness mX1_likeness dX8_followChain_94 (aX1_likeness (m := m) (se := se) (ye := ye) (fi := fi) (W := W) (Sn := Sn) (Z := Z) (Ro := Ro) (Co := Co) (Ba := Ba) (nb := nb) (sp := sp) (fa := fa) (ve := ve) (e := (a * 10) + i) (f := ((y0 / 100 % 10 - 1) * 10) + q2) f6054 f6055 f6056 f6057 f6058 f6059 f6060 f6061 f6062 f6063 f6064 hm hse hfi hye (by omega) (by omega)) f6054 rfl rfl rfl (Nat.le_of_ble_eq_true rfl) (by decide) (by decide) rfl ?_
      refine aw_toe (nI (lx a (y0 / 100 % 10 - 1) i q2)) (hlx a (by omega) (y0 / 100 % 10 - 1) (by omega) i (by omega) q2 (by omega)) ?_
      refine aw_istore [(13, .int (nI (lx a (y0 / 100 % 10 - 1) i q2))), (7, .int 1), (12, .int (nI q2)), (11, .ref (G.1 + P)), (10, .int (nI (y0 / 100 % 10 - 1))), (9, .int 100), (8, .int 0), (6, .int (nI i)), (5, .int (nI a)), (0, .ref (G.1 + 0)), (1, .int (nI a)), (2, .int (nI i)), (3, .int (nI y0)), (4, .int w)] dX8_followChain_97 (by decide) rfl ?_
      refine aw_iload 6 dX8_followChain_99 rfl ?_
      refine aw_iconst (0) dX8_followChain_101 (by decide) ?_
      refine aw_bipush (100) dX8_followChain_102 (by decide) ?_
      refine aw_iload 0 dX8_followChain_104 rfl ?_
      refine aw_isub dX8_followChain_106 ?_
      refine aw_mmax lX8_251 dX8_followChain_107 (Nat.le_of_ble_eq_true rfl) (by decide) (by decide) ?_
      refine aw_toe (chX (nI (lx a (y0 / 100 % 10 - 1) i q2))) (rfl) ?_
      refine aw_aload 3 dX8_followChain_110 rfl ?_
      refine aw_get fX8_137 dX8_followChain_112 f6043 rfl ?_
      refine aw_iload 7 dX8_followChain_115 rfl ?_
      refine aw_zald i (rfl) (by omega) (by decide) dX8_followChain_117 f6045 ?_
      refine aw_if_eq 125 dX8_followChain_118 (by decide) (fun c118 => ?_) (fun c118 => ?_)
      · have d118 := (j_eq (a := (ce16033 i).toInt) (b := (0)) (rfl) (rfl)).mp c118
        refine aw_bipush (50) dX8_followChain_125 (by decide) ?_
        refine aw_iadd dX8_followChain_127 ?_
        refine aw_iadd dX8_followChain_128 ?_
        refine aw_istore [(8, .int (0 + ((chX (nI (lx a (y0 / 100 % 10 - 1) i q2))) + 50))), (13, .int (nI (lx a (y0 / 100 % 10 - 1) i q2))), (7, .int 1), (12, .int (nI q2)), (11, .ref (G.1 + P)), (10, .int (nI (y0 / 100 % 10 - 1))), (9, .int 100), (6, .int (nI i)), (5, .int (nI a)), (0, .ref (G.1 + 0)), (1, .int (nI a)), (2, .int (nI i)), (3, .int (nI y0)), (4, .int w)] dX8_followChain_129 (by decide) rfl ?_
        refine aw_iload 5 dX8_followChain_131 rfl ?_
        refine aw_istore [(5, .int (nI (y0 / 100 % 10 - 1))), (8, .int (0 + ((chX (nI (lx a (y0 / 100 % 10 - 1) i q2))) + 50))), (13, .int (nI (lx a (y0 / 100 % 10 - 1) i q2))), (7, .int 1), (12, .int (nI q2)), (11, .ref (G.1 + P)), (10, .int (nI (y0 / 100 % 10 - 1))), (9, .int 100), (6, .int (nI i)), (0, .ref (G.1 + 0)), (1, .int (nI a)), (2, .int (nI i)), (3, .int (nI y0)), (4, .int w)] dX8_followChain_133 (by decide) rfl ?_
        refine aw_iload 4 dX8_followChain_135 rfl ?_
        refine aw_istore [(6, .int (nI q2)), (5, .int (nI (y0 / 100 % 10 - 1))), (8, .int (0 + ((chX (nI (lx a (y0 / 100 % 10 - 1) i q2))) + 50))), (13, .int (nI (lx a (y0 / 100 % 10 - 1) i q2))), (7, .int 1), (12, .int (nI q2)), (11, .ref (G.1 + P)), (10, .int (nI (y0 / 100 % 10 - 1))), (9, .int 100), (0, .ref (G.1 + 0)), (1, .int (nI a)), (2, .int (nI i)), (3, .int (nI y0)), (4, .int w)] dX8_followChain_137 (by decide) rfl ?_
        refine aw_iload 8 dX8_followChain_139 rfl ?_
        refine aw_bipush (10) dX8_followChain_141 (by decide) ?_
        refine aw_idiv dX8_followChain_143 (by decide) ?_
        refine aw_toe 10 (by decide) ?_
        refine aw_istore [(9, .int 10), (6, .int (nI q2)), (5, .int (nI (y0 / 100 % 10 - 1))), (8, .int (0 + ((chX (nI (lx a (y0 / 100 % 10 - 1) i q2))) + 50))), (13, .int (nI (lx a (y0 / 100 % 10 - 1) i q2))), (7, .int 1), (12, .int (nI q2)), (11, .ref (G.1 + P)), (10, .int (nI (y0 / 100 % 10 - 1))), (0, .ref (G.1 + 0)), (1, .int (nI a)), (2, .int (nI i)), (3, .int (nI y0)), (4, .int w)] dX8_followChain_144 (by decide) rfl ?_
        refine aw_goto 16 dX8_followChain_146 (by decide) ?_
        refine aw_lv [(9, .int 10), (8, .int (0 + ((chX (nI (lx a (y0 / 100 % 10 - 1) i q2))) + 50))), (7, .int 1), (6, .int (nI q2)), (5, .int (nI (y0 / 100 % 10 - 1))), (4, .int w), (3, .int (nI y0)), (0, .ref (G.1 + 0))] [0, 3, 5, 1, 2, 13, 12, 9] rfl ?_
        exact fcL (bv := bv) (J := J) (x := 2) (ev := (nI q2)) (fr := y0 / 100 % 10 - 1) (dv := 0 + ((chX (nI (lx a (y0 / 100 % 10 - 1) i q2))) + 50)) (sv := 1) (u1 := u16021) (v1 := v16022) (ro1 := ro16023) (co1 := co16024) (rc1 := rc16025) (lk1 := lk16026) (bs1 := bs16027) (wy1 := wy16028) (nw1 := nw16029) hl hm hse hfi hye qJ bve hlx hlx3 g1 by0 (by decide) (Or.inr ⟨_, bq2, bq2f, rfl⟩) (by omega) p6047 p6048 p6049 p6050 hJ2 hln (chV_s (t := y0 / 100 % 10 - 1) (by omega) (by omega) (by show ¬ y0 / 100 % 10 = 0; omega) rfl hP (cc_0 (p6052.2.2.2 i (by omega)) c118)) f6036 f6054 f6055 f6056 f6057 f6058 f6059 f6060 f6061 f6062 f6063 f6064 f6065 f6037 f6038 f6039 f6040 f6041 f6042 (grw_gg (grw_rf 0 0 13 60 h) k6046 (fun j q1 q2 => by omega)) hQF
      · have d118 := mt (j_eq (a := (ce16033 i).toInt) (b := (0)) (rfl) (rfl)).mpr c118
        refine aw_iconst (0) dX8_followChain_121 (by decide) ?_
        refine aw_goto 127 dX8_followChain_122 (by decide) ?_
        refine aw_iadd dX8_followChain_127 ?_
        refine aw_iadd dX8_followChain_128 ?_
        refine aw_istore [(8, .int (0 + ((chX (nI (lx a (y0 / 100 % 10 - 1) i q2))) + 0))), (13, .int (nI (lx a (y0 / 100 % 10 - 1) i q2))), (7, .int 1), (12, .int (nI q2)), (11, .ref (G.1 + P)), (10, .int (nI (y0 / 100 % 10 - 1))), (9, .int 100), (6, .int (nI i)), (5, .int (nI a)), (0, .ref (G.1 + 0)), (1, .int (nI a)), (2, .int (nI i)), (3, .int (nI y0)), (4, .int w)] dX8_followChain_129 (by decide) rfl ?_
        refine aw_iload 5 dX8_followChain_131 rfl ?_
        refine aw_istore [(5, .int (nI (y0 / 100 % 10 - 1))), (8, .int (0 + ((chX (nI (lx a (y0 / 100 % 10 - 1) i q2))) + 0))), (13, .int (nI (lx a (y0 / 100 % 10 - 1) i q2))), (7, .int 1), (12, .int (nI q2)), (11, .ref (G.1 + P)), (10, .int (nI (y0 / 100 % 10 - 1))), (9, .int 100), (6, .int (nI i)), (0, .ref (G.1 + 0)), (1, .int (nI a)), (2, .int (nI i)), (3, .int (nI y0)), (4, .int w)] dX8_followChain_133 (by decide) rfl ?_
        refine aw_iload 4 dX8_followChain_135 rfl ?_
        refine aw_istore [(6, .int (nI q2)), (5, .int (nI (y0 / 100 % 10 - 1))), (8, .int (0 + ((chX (nI (lx a (y0 / 100 % 10 - 1) i q2))) + 0))), (13, .int (nI (lx a (y0 / 100 % 10 - 1) i q2))), (7, .int 1), (12, .int (nI q2)), (11, .ref (G.1 + P)), (10, .int (nI (y0 / 100 % 10 - 1))), (9, .int 100), (0, .ref (G.1 + 0)), (1, .int (nI a)), (2, .int (nI i)), (3, .int (nI y0)), (4, .int w)] dX8_followChain_137 (by decide) rfl ?_
        refine aw_iload 8 dX8_followChain_139 rfl ?_
        refine aw_bipush (10) dX8_followChain_141 (by decide) ?_
        refine aw_idiv dX8_followChain_143 (by decide) ?_
        refine aw_toe 10 (by decide) ?_
        refine aw_istore [(9, .int 10), (6, .int (nI q2)), (5, .int (nI (y0 / 100 % 10 - 1))), (8, .int (0 + ((chX (nI (lx a (y0 / 100 % 10 - 1) i q2))) + 0))), (13, .int (nI (lx a (y0 / 100 % 10 - 1) i q2))), (7, .int 1), (12, .int (nI q2)), (11, .ref (G.1 + P)), (10, .int (nI (y0 / 100 % 10 - 1))), (0, .ref (G.1 + 0)), (1, .int (nI a)), (2, .int (nI i)), (3, .int (nI y0)), (4, .int w)] dX8_followChain_144 (by decide) rfl ?_
        refine aw_goto 16 dX8_followChain_146 (by decide) ?_
        refine aw_lv [(9, .int 10), (8, .int (0 + ((chX (nI (lx a (y0 / 100 % 10 - 1) i q2))) + 0))), (7, .int 1), (6, .int (nI q2)), (5, .int (nI (y0 / 100 % 10 - 1))), (4, .int w), (3, .int (nI y0)), (0, .ref (G.1 + 0))] [0, 3, 5, 1, 2, 13, 12, 9] rfl ?_
        exact fcL (bv := bv) (J := J) (x := 2) (ev := (nI q2)) (fr := y0 / 100 % 10 - 1) (dv := 0 + ((chX (nI (lx a (y0 / 100 % 10 - 1) i q2))) + 0)) (sv := 1) (u1 := u16021) (v1 := v16022) (ro1 := ro16023) (co1 := co16024) (rc1 := rc16025) (lk1 := lk16026) (bs1 := bs16027) (wy1 := wy16028) (nw1 := nw16029) hl hm hse hfi hye qJ bve hlx hlx3 g1 by0 (by decide) (Or.inr ⟨_, bq2, bq2f, rfl⟩) (by omega) p6047 p6048 p6049 p6050 hJ2 hln (chV_s (t := y0 / 100 % 10 - 1) (by omega) (by omega) (by show ¬ y0 / 100 % 10 = 0; omega) rfl hP (cc_1 (p6052.2.2.2 i (by omega)) c118)) f6036 f6054 f6055 f6056 f6057 f6058 f6059 f6060 f6061 f6062 f6063 f6064 f6065 f6037 f6038 f6039 f6040 f6041 f6042 (grw_gg (grw_rf 0 0 13 60 h) k6046 (fun j q1 q2 => by omega)) hQF
set_option maxHeartbeats 4000000 in
theorem oX8_chain_r {l : Launch} {G : xG} {h : List va_E} {jv bv : Value} {rf : Nat → Int32} {fi : Nat → Nat} {nb sp fa ve : Nat} {a i y w : Int32} (h0 : h[0]? = some (oB 8 (lX G (jv) (bv)))) (h87 : h[87]? = some (aI 7 rf)) (h1 : h[1]? = some (oB 1 (lC G (nI nb) (nI sp) (nI fa) (nI ve)))) (h5 : h[5]? = some (aI 4 (nA fi))) (hfi : ∀ j, j < 4 → fi j < 11) (hr : ¬ (((0 ≤ a.toInt ∧ a.toInt < 4) ∧ 0 ≤ i.toInt ∧ i.toInt < (fi (tn a) : Int)) ∧ wyF (tn a) y = true ∧ 0 ≤ w.toInt ∧ w.toInt ≤ 2)) : CU l G yX8_chain cX8_chain 5 (some .int) 4 0 0 [.ref (G.1 + 0), .int a, .int i, .int y, .int w] h (fun r h1 => ∃ rf1 : Nat → Int32, h1[87]? = some (aI 7 rf1) ∧ rng 87 87 h h1 ∧ r = if ((0 ≤ a.toInt ∧ a.toInt < 4) ∧ 0 ≤ i.toInt ∧ i.toInt < (fi (tn a) : Int)) ∧ wyF (tn a) y = true then -2 else -1) := by
  refine cm_ofQ rfl (Nat.le_of_ble_eq_true rfl) [(0, .ref (G.1 + 0)), (1, .int a), (2, .int i), (3, .int y), (4, .int w)] rfl (fun QF hQF => ?_)
  refine aw_aload_n 0 dX8_chain_0 rfl rfl ?_
  refine aw_iload_n 1 dX8_chain_1 rfl rfl ?_
  refine aw_iload_n 2 dX8_chain_2 rfl rfl ?_
  refine aw_dV [.int a, .int i] [] lX8_107 vX8_isEntry mX8_isEntry dX8_chain_3 (bX8_isEntry (jv := jv) (bv := bv) (fi := fi) (nb := nb) (sp := sp) (fa := fa) (ve := ve) (c := a) (i := i) h0 h1 h5 hfi) h0 rfl rfl rfl (Nat.le_of_ble_eq_true rfl) (by decide) (by decide) rfl ?_
  refine aw_if_eq 17 dX8_chain_6 (by decide) (fun c6 => ?_) (fun c6 => ?_)
  · have t6 := ite_0 c6
    refine aw_aload_n 0 dX8_chain_17 rfl rfl ?_
    refine aw_iconst (-1) dX8_chain_18 (by decide) ?_
    refine aw_eV [.int (-1)] [] lX8_70 vX8_refuse mX8_refuse dX8_chain_19 (bX8_refuse (jv := jv) (bv := bv) (rf := rf) (x := (-1)) (q := 1) h0 h87 (by decide) (by decide)) h0 rfl rfl rfl (Nat.le_of_ble_eq_true rfl) (by decide) (by decide) rfl (fun h6068 q6067 => ?_)
    obtain ⟨rf16066, f6069, k6070⟩ := q6067
    have f6071 := rng_at k6070 (by decide) h0
    have f6072 := rng_at k6070 (by decide) h1
    have f6073 := rng_at k6070 (by decide) h5
    subst hQF
    exact aw_iret rfl dX8_chain_22 (by decide) (by decide) ⟨_, rfl, _, f6069, rng_tr (rng_rf 87 87 h) (rng_w k6070 (by decide) (by decide)), by rw [if_neg (fun q9 => t6 q9.1)]⟩
  · have t6 := ite_1 c6
    obtain ⟨a0, bb_a0, ee_a0⟩ := i_nat (x := a) (N := 4) (by omega) (by omega)
    subst ee_a0
    have tt_a0 : (nI a0).toInt = (a0 : Int) := nI_toInt (by omega)
    have nn_a0 : tn (nI a0) = a0 := tn_nI (by omega)
    refine aw_iload_n 1 dX8_chain_9 rfl rfl ?_
    refine aw_iload_n 3 dX8_chain_10 rfl rfl ?_
    refine aw_dS [.int (nI a0), .int y] [] lX8_141 sX8_isWay mX8_isWay dX8_chain_11 (bX8_isWay (a := a0) (y := y) (by omega)) rfl (Nat.le_of_ble_eq_true rfl) (by decide) (by decide) rfl ?_
    refine aw_if_ne 23 dX8_chain_14 (by decide) (fun c14 => ?_) (fun c14 => ?_)
    · have t14 := ite_1 c14
      refine aw_iload 4 dX8_chain_23 rfl ?_
      refine aw_if_lt 34 dX8_chain_25 (by decide) (fun c25 => ?_) (fun c25 => ?_)
      · have d25 := (j_lt (a := w.toInt) (b := (0)) (rfl) (rfl)).mp c25
        refine aw_aload_n 0 dX8_chain_34 rfl rfl ?_
        refine aw_bipush (-2) dX8_chain_35 (by decide) ?_
        refine aw_eV [.int (-2)] [] lX8_70 vX8_refuse mX8_refuse dX8_chain_37 (bX8_refuse (jv := jv) (bv := bv) (rf := rf) (x := (-2)) (q := 2) h0 h87 (by decide) (by decide)) h0 rfl rfl rfl (Nat.le_of_ble_eq_true rfl) (by decide) (by decide) rfl (fun h6076 q6075 => ?_)
        obtain ⟨rf16074, f6077, k6078⟩ := q6075
        have f6079 := rng_at k6078 (by decide) h0
        have f6080 := rng_at k6078 (by decide) h1
        have f6081 := rng_at k6078 (by decide) h5
        subst hQF
        exact aw_iret rfl dX8_chain_40 (by decide) (by decide) ⟨_, rfl, _, f6077, rng_tr (rng_rf 87 87 h) (rng_w k6078 (by decide) (by decide)), by rw [if_pos ⟨t6, by rw [nn_a0]; exact t14⟩]⟩
      · have d25 := mt (j_lt (a := w.toInt) (b := (0)) (rfl) (rfl)).mpr c25
        refine aw_iload 4 dX8_chain_28 rfl ?_
        refine aw_iconst (2) dX8_chain_30 (by decide) ?_
        refine aw_icmp_le 41 dX8_chain_31 (by decide) (fun c31 => ?_) (fun c31 => ?_)
        · have d31 := (j_le (a := w.toInt) (b := (2)) (rfl) (rfl)).mp c31
          exact absurd ⟨t6, by rw [nn_a0]; exact t14, by omega, by omega⟩ hr
        · have d31 := mt (j_le (a := w.toInt) (b := (2)) (rfl) (rfl)).mpr c31
          refine aw_aload_n 0 dX8_chain_34 rfl rfl ?_
          refine aw_bipush (-2) dX8_chain_35 (by decide) ?_
          refine aw_eV [.int (-2)] [] lX8_70 vX8_refuse mX8_refuse dX8_chain_37 (bX8_refuse (jv := jv) (bv := bv) (rf := rf) (x := (-2)) (q := 2) h0 h87 (by decide) (by decide)) h0 rfl rfl rfl (Nat.le_of_ble_eq_true rfl) (by decide) (by decide) rfl (fun h6084 q6083 => ?_)
          obtain ⟨rf16082, f6085, k6086⟩ := q6083
          have f6087 := rng_at k6086 (by decide) h0
          have f6088 := rng_at k6086 (by decide) h1
          have f6089 := rng_at k6086 (by decide) h5
          subst hQF
          exact aw_iret rfl dX8_chain_40 (by decide) (by decide) ⟨_, rfl, _, f6085, rng_tr (rng_rf 87 87 h) (rng_w k6086 (by decide) (by decide)), by rw [if_pos ⟨t6, by rw [nn_a0]; exact t14⟩]⟩
    · have t14 := ite_0 c14
      refine aw_aload_n 0 dX8_chain_17 rfl rfl ?_
      refine aw_iconst (-1) dX8_chain_18 (by decide) ?_
      refine aw_eV [.int (-1)] [] lX8_70 vX8_refuse mX8_refuse dX8_chain_19 (bX8_refuse (jv := jv) (bv := bv) (rf := rf) (x := (-1)) (q := 1) h0 h87 (by decide) (by decide)) h0 rfl rfl rfl (Nat.le_of_ble_eq_true rfl) (by decide) (by decide) rfl (fun h6092 q6091 => ?_)
      obtain ⟨rf16090, f6093, k6094⟩ := q6091
      have f6095 := rng_at k6094 (by decide) h0
      have f6096 := rng_at k6094 (by decide) h1
      have f6097 := rng_at k6094 (by decide) h5
      subst hQF
      exact aw_iret rfl dX8_chain_22 (by decide) (by decide) ⟨_, rfl, _, f6093, rng_tr (rng_rf 87 87 h) (rng_w k6094 (by decide) (by decide)), by rw [if_neg (fun q9 => t14 (by have w9 := q9.2; rw [nn_a0] at w9; exact w9))]⟩
set_option maxHeartbeats 4000000 in
theorem oX8_chain_J {l : Launch} {G : xG} {h : List va_E} {bv : Value} {J u v ro co : Nat} {rc : Nat → Nat} {lk bs wy nw : Nat → Int32} {m se ye fi : Nat → Nat} {W Sn Z Ro Co : Nat → Int32} {Ba : Nat → Int64} {nb sp fa ve : Nat} {lx : Nat → Nat → Nat → Nat → Nat} {a i y0 : Nat} {w : Int32} (h0 : h[0]? = some (oB 8 (lX G (.ref (G.1 + J)) (bv)))) (h1 : h[1]? = some (oB 1 (lC G (nI nb) (nI sp) (nI fa) (nI ve)))) (h2 : h[2]? = some (aI 20 (nA m))) (h3 : h[3]? = some (aI 20 (nA se))) (h4 : h[4]? = some (aI 4 (nA ye))) (h5 : h[5]? = some (aI 4 (nA fi))) (h6 : h[6]? = some (aI 40 W)) (h7 : h[7]? = some (aI 40 Sn)) (h8 : h[8]? = some (aI 40 Z)) (h9 : h[9]? = some (aI 40 Ro)) (h10 : h[10]? = some (aI 40 Co)) (h11 : h[11]? = some (aL 40 Ba)) (h12 : h[12]? = some (aR 16 (xjo G.1 16))) (hJ : h[J]? = some (oB 3 (lJ G J (.ref (G.1 + u)) (.ref (G.1 + v)) (nI ro) (nI co)))) (hJ_1 : h[J + 1]? = some (aI 100 lk)) (hJ_2 : h[J + 2]? = some (aI 11 (nA rc))) (hJ_3 : h[J + 3]? = some (aI 11264 bs)) (hu : h[u]? = some (aI 1024 wy)) (hv : h[v]? = some (aI 1024 nw)) (hwy : wyF a (nI y0) = true) (hw0 : 0 ≤ w.toInt ∧ w.toInt ≤ 2) (qu : J + 4 ≤ u ∧ u ≤ J + 5) (qv : J + 4 ≤ v ∧ v ≤ J + 5) (quv : (u ≠ v ∧ wZ wy nw)) (hrc : ∀ j, j < 11 → rc j < 1024) (hm : ∀ j, j < 20 → m j ≤ j) (hse : ∀ j, j < 20 → se j < 20) (hfi : ∀ j, j < 4 → fi j < 11) (hye : ∀ j, j < 4 → ye j < 1901) (ba : a < 4) (bia : i < fi a) (qJ : 125 ≤ J) (bve : ve ≤ 600) (hJs : iJs G (jX lx fi ve) h) (hlx : ∀ a, a < 4 → ∀ b, b < 4 → ∀ i, i < fi a → ∀ k, k < fi b → likeC ye Sn Z Ro Co Ba sp fa (a * 10 + i) (b * 10 + k) = nI (lx a b i k)) (hlx3 : ∀ a b i k, lx a b i k ≤ 300) (g1 : 1 ≤ y0 % 10 ∧ y0 % 10 ≤ 4 ∧ y0 / 10 % 10 ≤ 4 ∧ y0 / 100 % 10 ≤ 4) (by0 : y0 < 1000) : CU l G yX8_chain cX8_chain 5 (some .int) 7 0 0 [.ref (G.1 + 0), .int (nI a), .int (nI i), .int (nI y0), .int w] h (fun r h1 => ∃ u1 : Nat, ∃ v1 : Nat, ∃ ro1 : Nat, ∃ co1 : Nat, ∃ rc1 : Nat → Nat, ∃ lk1 : Nat → Int32, ∃ bs1 : Nat → Int32, ∃ wy1 : Nat → Int32, ∃ nw1 : Nat → Int32, h1[J]? = some (oB 3 (lJ G J (.ref (G.1 + u1)) (.ref (G.1 + v1)) (nI ro1) (nI co1))) ∧ h1[J + 1]? = some (aI 100 lk1) ∧ h1[J + 2]? = some (aI 11 (nA rc1)) ∧ h1[J + 3]? = some (aI 11264 bs1) ∧ h1[u1]? = some (aI 1024 wy1) ∧ h1[v1]? = some (aI 1024 nw1) ∧ rg2 13 60 J (J + 5) h h1 ∧ (J + 4 ≤ u1 ∧ u1 ≤ J + 5) ∧ (J + 4 ≤ v1 ∧ v1 ≤ J + 5) ∧ (u1 ≠ v1 ∧ wZ wy1 nw1) ∧ (∀ j, j < 11 → rc1 j < 1024) ∧ iJs G (jX lx fi ve) h1 ∧ r = chR w (chV lx fi y0 3 a (nI i) 0 0)) := by
  refine cm_ofQ rfl (Nat.le_of_ble_eq_true rfl) [(0, .ref (G.1 + 0)), (1, .int (nI a)), (2, .int (nI i)), (3, .int (nI y0)), (4, .int w)] rfl (fun QF hQF => ?_)
  have tt_a : (nI a).toInt = (a : Int) := nI_toInt (by omega)
  have nn_a : tn (nI a) = a := tn_nI (by omega)
  have hg_a := hfi a (by omega)
  have tt_i : (nI i).toInt = (i : Int) := nI_toInt (by omega)
  have nn_i : tn (nI i) = i := tn_nI (by omega)
  have hE : ((0 ≤ (nI a).toInt ∧ (nI a).toInt < 4) ∧ 0 ≤ (nI i).toInt ∧ (nI i).toInt < (fi (tn (nI a)) : Int)) := by rw [nn_a]; omega
  refine aw_aload_n 0 dX8_chain_0 rfl rfl ?_
  refine aw_iload_n 1 dX8_chain_1 rfl rfl ?_
  refine aw_iload_n 2 dX8_chain_2 rfl rfl ?_
  refine aw_dV [.int (nI a), .int (nI i)] [] lX8_107 vX8_isEntry mX8_isEntry dX8_chain_3 (bX8_isEntry (jv := .ref (G.1 + J)) (bv := bv) (fi := fi) (nb := nb) (sp := sp) (fa := fa) (ve := ve) (c := (nI a)) (i := (nI i)) h0 h1 h5 hfi) h0 rfl rfl rfl (Nat.le_of_ble_eq_true rfl) (by decide) (by decide) rfl ?_
  refine aw_if_eq 17 dX8_chain_6 (by decide) (fun c6 => absurd c6 (by rw [if_pos hE]; decide)) (fun c6 => ?_)
  refine aw_iload_n 1 dX8_chain_9 rfl rfl ?_
  refine aw_iload_n 3 dX8_chain_10 rfl rfl ?_
  refine aw_dS [.int (nI a), .int (nI y0)] [] lX8_141 sX8_isWay mX8_isWay dX8_chain_11 (bX8_isWay (a := a) (y := (nI y0)) (by omega)) rfl (Nat.le_of_ble_eq_true rfl) (by decide) (by decide) rfl ?_
  refine aw_if_ne 23 dX8_chain_14 (by decide) (fun c14 => ?_) (fun c14 => absurd c14 (by rw [if_pos hwy]; decide))
  refine aw_iload 4 dX8_chain_23 rfl ?_
  refine aw_if_lt 34 dX8_chain_25 (by decide) (fun c25 => ?_) (fun c25 => ?_)
  · have d25 := (j_lt (a := w.toInt) (b := (0)) (rfl) (rfl)).mp c25
    exfalso
    omega
  · have d25 := mt (j_lt (a := w.toInt) (b := (0)) (rfl) (rfl)).mpr c25
    refine aw_iload 4 dX8_chain_28 rfl ?_
    refine aw_iconst (2) dX8_chain_30 (by decide) ?_
    refine aw_icmp_le 41 dX8_chain_31 (by decide) (fun c31 => ?_) (fun c31 => ?_)
    · have d31 := (j_le (a := w.toInt) (b := (2)) (rfl) (rfl)).mp c31
      refine aw_aload_n 0 dX8_chain_41 rfl rfl ?_
      refine aw_iload_n 1 dX8_chain_42 rfl rfl ?_
      refine aw_iload_n 2 dX8_chain_43 rfl rfl ?_
      refine aw_iload_n 3 dX8_chain_44 rfl rfl ?_
      refine aw_iload 4 dX8_chain_45 rfl ?_
      refine aw_uV [.int (nI a), .int (nI i), .int (nI y0), .int w] [] lX8_144 vX8_followChain mX8_followChain dX8_chain_47 (fc_J (bv := bv) (J := J) (u := u) (v := v) (ro := ro) (co := co) (rc := rc) (lk := lk) (bs := bs) (wy := wy) (nw := nw) (m := m) (se := se) (ye := ye) (fi := fi) (W := W) (Sn := Sn) (Z := Z) (Ro := Ro) (Co := Co) (Ba := Ba) (nb := nb) (sp := sp) (fa := fa) (ve := ve) (a := a) (i := i) (y0 := y0) (w := w) h0 h1 h2 h3 h4 h5 h6 h7 h8 h9 h10 h11 h12 hJ hJ_1 hJ_2 hJ_3 hu hv (by omega) (by omega) (by omega) hrc hm hse hfi hye (by omega) (by omega) (by omega) (by omega) (by omega) hJs hlx hlx3 g1 (by omega)) h0 rfl rfl rfl (Nat.le_of_ble_eq_true rfl) (by decide) (by decide) rfl (fun r6108 h6109 q6107 => ?_)
      obtain ⟨u16098, v16099, ro16100, co16101, rc16102, lk16103, bs16104, wy16105, nw16106, f6110, f6111, f6112, f6113, f6114, f6115, k6116, p6117, p6118, p6119, p6120, p6121, u6122⟩ := q6107
      have f6123 := rg2_at k6116 (by omega) h0
      have f6124 := rg2_at k6116 (by omega) h1
      have f6125 := rg2_at k6116 (by omega) h2
      have f6126 := rg2_at k6116 (by omega) h3
      have f6127 := rg2_at k6116 (by omega) h4
      have f6128 := rg2_at k6116 (by omega) h5
      have f6129 := rg2_at k6116 (by omega) h6
      have f6130 := rg2_at k6116 (by omega) h7
      have f6131 := rg2_at k6116 (by omega) h8
      have f6132 := rg2_at k6116 (by omega) h9
      have f6133 := rg2_at k6116 (by omega) h10
      have f6134 := rg2_at k6116 (by omega) h11
      have f6135 := rg2_at k6116 (by omega) h12
      subst hQF
      exact aw_iret rfl dX8_chain_50 (by decide) (by decide) ⟨_, rfl, _, _, _, _, _, _, _, _, _, f6110, f6111, f6112, f6113, f6114, f6115, rg2_tr (rg2_rf 13 60 J (J + 5) h) (rg2_w2 k6116 (by omega) (by omega)), p6117, p6118, p6119, p6120, p6121, u6122⟩
    · have d31 := mt (j_le (a := w.toInt) (b := (2)) (rfl) (rfl)).mpr c31
      exfalso
      omega
set_option maxHeartbeats 4000000 in
theorem oX8_chain_n {l : Launch} {G : xG} {h : List va_E} {bv : Value} {J : Nat} {m se ye fi : Nat → Nat} {W Sn Z Ro Co : Nat → Int32} {Ba : Nat → Int64} {nb sp fa ve : Nat} {lx : Nat → Nat → Nat → Nat → Nat} {a i y0 : Nat} {w : Int32} (h0 : h[0]? = some (oB 8 (lX G (.null) (bv)))) (h1 : h[1]? = some (oB 1 (lC G (nI nb) (nI sp) (nI fa) (nI ve)))) (h2 : h[2]? = some (aI 20 (nA m))) (h3 : h[3]? = some (aI 20 (nA se))) (h4 : h[4]? = some (aI 4 (nA ye))) (h5 : h[5]? = some (aI 4 (nA fi))) (h6 : h[6]? = some (aI 40 W)) (h7 : h[7]? = some (aI 40 Sn)) (h8 : h[8]? = some (aI 40 Z)) (h9 : h[9]? = some (aI 40 Ro)) (h10 : h[10]? = some (aI 40 Co)) (h11 : h[11]? = some (aL 40 Ba)) (h12 : h[12]? = some (aR 16 (xjo G.1 16))) (hwy : wyF a (nI y0) = true) (hw0 : 0 ≤ w.toInt ∧ w.toInt ≤ 2) (hl : h.length = J) (hm : ∀ j, j < 20 → m j ≤ j) (hse : ∀ j, j < 20 → se j < 20) (hfi : ∀ j, j < 4 → fi j < 11) (hye : ∀ j, j < 4 → ye j < 1901) (ba : a < 4) (bia : i < fi a) (qJ : 125 ≤ J) (bve : ve ≤ 600) (hve : 1 ≤ ve) (hJz : iJs G jZ h) (hlx : ∀ a, a < 4 → ∀ b, b < 4 → ∀ i, i < fi a → ∀ k, k < fi b → likeC ye Sn Z Ro Co Ba sp fa (a * 10 + i) (b * 10 + k) = nI (lx a b i k)) (hlx3 : ∀ a b i k, lx a b i k ≤ 300) (g1 : 1 ≤ y0 % 10 ∧ y0 % 10 ≤ 4 ∧ y0 / 10 % 10 ≤ 4 ∧ y0 / 100 % 10 ≤ 4) (by0 : y0 < 1000) : CU l G yX8_chain cX8_chain 5 (some .int) 7 6 13430 [.ref (G.1 + 0), .int (nI a), .int (nI i), .int (nI y0), .int w] h (fun r h1 => ∃ u1 : Nat, ∃ v1 : Nat, ∃ ro1 : Nat, ∃ co1 : Nat, ∃ rc1 : Nat → Nat, ∃ lk1 : Nat → Int32, ∃ bs1 : Nat → Int32, ∃ wy1 : Nat → Int32, ∃ nw1 : Nat → Int32, h1[0]? = some (oB 8 (lX G (.ref (G.1 + J)) (bv))) ∧ h1[J]? = some (oB 3 (lJ G J (.ref (G.1 + u1)) (.ref (G.1 + v1)) (nI ro1) (nI co1))) ∧ h1[J + 1]? = some (aI 100 lk1) ∧ h1[J + 2]? = some (aI 11 (nA rc1)) ∧ h1[J + 3]? = some (aI 11264 bs1) ∧ h1[u1]? = some (aI 1024 wy1) ∧ h1[v1]? = some (aI 1024 nw1) ∧ grw 0 0 13 60 h h1 ∧ (J + 4 ≤ u1 ∧ u1 ≤ J + 5) ∧ (J + 4 ≤ v1 ∧ v1 ≤ J + 5) ∧ (u1 ≠ v1 ∧ wZ wy1 nw1) ∧ (∀ j, j < 11 → rc1 j < 1024) ∧ iJs G (jX lx fi ve) h1 ∧ h1.length = J + 6 ∧ r = chR w (chV lx fi y0 3 a (nI i) 0 0)) := by
  refine cm_ofQ rfl (Nat.le_of_ble_eq_true rfl) [(0, .ref (G.1 + 0)), (1, .int (nI a)), (2, .int (nI i)), (3, .int (nI y0)), (4, .int w)] rfl (fun QF hQF => ?_)
  have tt_a : (nI a).toInt = (a : Int) := nI_toInt (by omega)
  have nn_a : tn (nI a) = a := tn_nI (by omega)
  have hg_a := hfi a (by omega)
  have tt_i : (nI i).toInt = (i : Int) := nI_toInt (by omega)
  have nn_i : tn (nI i) = i := tn_nI (by omega)
  have hE : ((0 ≤ (nI a).toInt ∧ (nI a).toInt < 4) ∧ 0 ≤ (nI i).toInt ∧ (nI i).toInt < (fi (tn (nI a)) : Int)) := by rw [nn_a]; omega
  refine aw_aload_n 0 dX8_chain_0 rfl rfl ?_
  refine aw_iload_n 1 dX8_chain_1 rfl rfl ?_
  refine aw_iload_n 2 dX8_chain_2 rfl rfl ?_
  refine aw_dV [.int (nI a), .int (nI i)] [] lX8_107 vX8_isEntry mX8_isEntry dX8_chain_3 (bX8_isEntry (jv := .null) (bv := bv) (fi := fi) (nb := nb) (sp := sp) (fa := fa) (ve := ve) (c := (nI a)) (i := (nI i)) h0 h1 h5 hfi) h0 rfl rfl rfl (Nat.le_of_ble_eq_true rfl) (by decide) (by decide) rfl ?_
  refine aw_if_eq 17 dX8_chain_6 (by decide) (fun c6 => absurd c6 (by rw [if_pos hE]; decide)) (fun c6 => ?_)
  refine aw_iload_n 1 dX8_chain_9 rfl rfl ?_
  refine aw_iload_n 3 dX8_chain_10 rfl rfl ?_
  refine aw_dS [.int (nI a), .int (nI y0)] [] lX8_141 sX8_isWay mX8_isWay dX8_chain_11 (bX8_isWay (a := a) (y := (nI y0)) (by omega)) rfl (Nat.le_of_ble_eq_true rfl) (by decide) (by decide) rfl ?_
  refine aw_if_ne 23 dX8_chain_14 (by decide) (fun c14 => ?_) (fun c14 => absurd c14 (by rw [if_pos hwy]; decide))
  refine aw_iload 4 dX8_chain_23 rfl ?_
  refine aw_if_lt 34 dX8_chain_25 (by decide) (fun c25 => ?_) (fun c25 => ?_)
  · have d25 := (j_lt (a := w.toInt) (b := (0)) (rfl) (rfl)).mp c25
    exfalso
    omega
  · have d25 := mt (j_lt (a := w.toInt) (b := (0)) (rfl) (rfl)).mpr c25
    refine aw_iload 4 dX8_chain_28 rfl ?_
    refine aw_iconst (2) dX8_chain_30 (by decide) ?_
    refine aw_icmp_le 41 dX8_chain_31 (by decide) (fun c31 => ?_) (fun c31 => ?_)
    · have d31 := (j_le (a := w.toInt) (b := (2)) (rfl) (rfl)).mp c31
      refine aw_aload_n 0 dX8_chain_41 rfl rfl ?_
      refine aw_iload_n 1 dX8_chain_42 rfl rfl ?_
      refine aw_iload_n 2 dX8_chain_43 rfl rfl ?_
      refine aw_iload_n 3 dX8_chain_44 rfl rfl ?_
      refine aw_iload 4 dX8_chain_45 rfl ?_
      refine aw_uV [.int (nI a), .int (nI i), .int (nI y0), .int w] [] lX8_144 vX8_followChain mX8_followChain dX8_chain_47 (fc_n (bv := bv) (m := m) (se := se) (ye := ye) (fi := fi) (W := W) (Sn := Sn) (Z := Z) (Ro := Ro) (Co := Co) (Ba := Ba) (nb := nb) (sp := sp) (fa := fa) (ve := ve) (a := a) (i := i) (y0 := y0) (w := w) h0 h1 h2 h3 h4 h5 h6 h7 h8 h9 h10 h11 h12 (by omega) hm hse hfi hye (by omega) (by omega) (by omega) (by omega) (by omega) (by omega) hJz hlx hlx3 g1 (by omega)) h0 rfl rfl rfl (Nat.le_of_ble_eq_true rfl) (by decide) (by decide) rfl (fun r6146 h6147 q6145 => ?_)
      obtain ⟨u16136, v16137, ro16138, co16139, rc16140, lk16141, bs16142, wy16143, nw16144, f6148, f6149, f6150, f6151, f6152, f6153, f6154, k6155, p6156, p6157, p6158, p6159, p6160, p6161, u6162⟩ := q6145
      have f6163 := grw_at k6155 (by decide) h1
      have f6164 := grw_at k6155 (by decide) h2
      have f6165 := grw_at k6155 (by decide) h3
      have f6166 := grw_at k6155 (by decide) h4
      have f6167 := grw_at k6155 (by decide) h5
      have f6168 := grw_at k6155 (by decide) h6
      have f6169 := grw_at k6155 (by decide) h7
      have f6170 := grw_at k6155 (by decide) h8
      have f6171 := grw_at k6155 (by decide) h9
      have f6172 := grw_at k6155 (by decide) h10
      have f6173 := grw_at k6155 (by decide) h11
      have f6174 := grw_at k6155 (by decide) h12
      subst hQF
      exact aw_iret rfl dX8_chain_50 (by decide) (by decide) ⟨_, rfl, _, _, _, _, _, _, _, _, _, f6148, f6149, f6150, f6151, f6152, f6153, f6154, grw_gg (grw_rf 0 0 13 60 h) k6155 (fun j q1 q2 => by omega), p6156, p6157, p6158, p6159, p6160, p6161, u6162⟩
    · have d31 := mt (j_le (a := w.toInt) (b := (2)) (rfl) (rfl)).mpr c31
      exfalso
      omega
