theorem nI_ne9 {i : Nat} (h : i < 10) : ¬ nI i = -9 := fun e => by
  have q := congrArg Int32.toInt e
  rw [nI_toInt (by omega)] at q
  have q2 : ((-9 : Int32).toInt) = -9 := rfl
  omega
set_option maxHeartbeats 4000000 in
theorem fcL {l : Launch} {G : xG} {h hX : List va_E} {QF : List Frame → Array Value → State → State → Prop} {bv : Value} {J : Nat} {m se ye fi : Nat → Nat} {W Sn Z Ro Co : Nat → Int32} {Ba : Nat → Int64} {nb sp fa ve : Nat} {lx : Nat → Nat → Nat → Nat → Nat} {a i y0 : Nat} {w : Int32} {x : Nat} {ev : Int32} {fr : Nat} {dv : Int32} {sv : Int32} {u1 : Nat} {v1 : Nat} {ro1 : Nat} {co1 : Nat} {rc1 : Nat → Nat} {lk1 : Nat → Int32} {bs1 : Nat → Int32} {wy1 : Nat → Int32} {nw1 : Nat → Int32}  (hl : h.length = J) (hm : ∀ j, j < 20 → m j ≤ j) (hse : ∀ j, j < 20 → se j < 20) (hfi : ∀ j, j < 4 → fi j < 11) (hye : ∀ j, j < 4 → ye j < 1901) (qJ : 125 ≤ J) (bve : ve ≤ 600) (hlx : ∀ a, a < 4 → ∀ b, b < 4 → ∀ i, i < fi a → ∀ k, k < fi b → likeC ye Sn Z Ro Co Ba sp fa (a * 10 + i) (b * 10 + k) = nI (lx a b i k)) (hlx3 : ∀ a b i k, lx a b i k ≤ 300) (g1 : 1 ≤ y0 % 10 ∧ y0 % 10 ≤ 4 ∧ y0 / 10 % 10 ≤ 4 ∧ y0 / 100 % 10 ≤ 4) (by0 : y0 < 1000) (hx : x = 0 ∨ x = 1 ∨ x = 2 ∨ x = 3) (he : ev = -9 ∨ ∃ q, q < 10 ∧ q < fi fr ∧ ev = nI q) (bfr : fr < 4) (hu1 : J + 4 ≤ u1 ∧ u1 ≤ J + 5) (hv1 : J + 4 ≤ v1 ∧ v1 ≤ J + 5) (huv1 : u1 ≠ v1 ∧ wZ wy1 nw1) (hrc1 : ∀ j, j < 11 → rc1 j < 1024) (hJ1 : iJs G (jX lx fi ve) hX) (hlq : hX.length = J + 6) (hcv : chV lx fi y0 3 a (nI i) 0 0 = chV lx fi y0 x fr ev sv dv) (xh0 : hX[0]? = some (oB 8 (lX G (.ref (G.1 + J)) (bv)))) (xh1 : hX[1]? = some (oB 1 (lC G (nI nb) (nI sp) (nI fa) (nI ve)))) (xh2 : hX[2]? = some (aI 20 (nA m))) (xh3 : hX[3]? = some (aI 20 (nA se))) (xh4 : hX[4]? = some (aI 4 (nA ye))) (xh5 : hX[5]? = some (aI 4 (nA fi))) (xh6 : hX[6]? = some (aI 40 W)) (xh7 : hX[7]? = some (aI 40 Sn)) (xh8 : hX[8]? = some (aI 40 Z)) (xh9 : hX[9]? = some (aI 40 Ro)) (xh10 : hX[10]? = some (aI 40 Co)) (xh11 : hX[11]? = some (aL 40 Ba)) (xh12 : hX[12]? = some (aR 16 (xjo G.1 16))) (xhJ : hX[J]? = some (oB 3 (lJ G J (.ref (G.1 + u1)) (.ref (G.1 + v1)) (nI ro1) (nI co1)))) (xhJ_1 : hX[J + 1]? = some (aI 100 lk1)) (xhJ_2 : hX[J + 2]? = some (aI 11 (nA rc1))) (xhJ_3 : hX[J + 3]? = some (aI 11264 bs1)) (xhu1 : hX[u1]? = some (aI 1024 wy1)) (xhv1 : hX[v1]? = some (aI 1024 nw1)) (kX : grw 0 0 13 60 h hX) (hQF : QF = xQ G 6 13430 (fun v h2 => ∃ r : Int32, v = some (.int r) ∧ (fun r h1 => ∃ u1 : Nat, ∃ v1 : Nat, ∃ ro1 : Nat, ∃ co1 : Nat, ∃ rc1 : Nat → Nat, ∃ lk1 : Nat → Int32, ∃ bs1 : Nat → Int32, ∃ wy1 : Nat → Int32, ∃ nw1 : Nat → Int32, h1[0]? = some (oB 8 (lX G (.ref (G.1 + J)) (bv))) ∧ h1[J]? = some (oB 3 (lJ G J (.ref (G.1 + u1)) (.ref (G.1 + v1)) (nI ro1) (nI co1))) ∧ h1[J + 1]? = some (aI 100 lk1) ∧ h1[J + 2]? = some (aI 11 (nA rc1)) ∧ h1[J + 3]? = some (aI 11264 bs1) ∧ h1[u1]? = some (aI 1024 wy1) ∧ h1[v1]? = some (aI 1024 nw1) ∧ grw 0 0 13 60 h h1 ∧ (J + 4 ≤ u1 ∧ u1 ≤ J + 5) ∧ (J + 4 ≤ v1 ∧ v1 ≤ J + 5) ∧ (u1 ≠ v1 ∧ wZ wy1 nw1) ∧ (∀ j, j < 11 → rc1 j < 1024) ∧ iJs G (jX lx fi ve) h1 ∧ h1.length = J + 6 ∧ r = chR w (chV lx fi y0 3 a (nI i) 0 0)) r h2)) : AW l G yX8_followChain cX8_followChain 14 (some .int) (xR 6 6 13430) (fun _ _ => True) QF (0 + 6) (0 + 13430) 16 [(9, .int (nI (p10 x))), (8, .int dv), (7, .int sv), (6, .int ev), (5, .int (nI fr)), (4, .int w), (3, .int (nI y0)), (0, .ref (G.1 + 0))] [] hX := by
  refine aw_lv [(9, .int (nI (p10 x))), (8, .int dv), (7, .int sv), (6, .int ev), (5, .int (nI fr)), (4, .int w), (3, .int (nI y0)), (0, .ref (G.1 + 0))] [0, 1, 2, 3, 4, 5, 6, 7] rfl ?_
  suffices L5798 : ∀ (mm : Nat) (x : Nat) (ev : Int32) (fr : Nat) (dv : Int32) (sv : Int32) (u1 : Nat) (v1 : Nat) (ro1 : Nat) (co1 : Nat) (rc1 : Nat → Nat) (lk1 : Nat → Int32) (bs1 : Nat → Int32) (wy1 : Nat → Int32) (nw1 : Nat → Int32) (h5777 : List va_E), x < mm → (x = 0 ∨ x = 1 ∨ x = 2 ∨ x = 3) → (ev = -9 ∨ ∃ q, q < 10 ∧ q < fi fr ∧ ev = nI q) → (fr < 4) → (J + 4 ≤ u1 ∧ u1 ≤ J + 5) → (J + 4 ≤ v1 ∧ v1 ≤ J + 5) → (u1 ≠ v1 ∧ wZ wy1 nw1) → (∀ j, j < 11 → rc1 j < 1024) → (iJs G (jX lx fi ve) h5777) → (h5777.length = J + 6) → (chV lx fi y0 3 a (nI i) 0 0 = chV lx fi y0 x fr ev sv dv) → h5777[0]? = some (oB 8 (lX G (.ref (G.1 + J)) (bv))) → h5777[1]? = some (oB 1 (lC G (nI nb) (nI sp) (nI fa) (nI ve))) → h5777[2]? = some (aI 20 (nA m)) → h5777[3]? = some (aI 20 (nA se)) → h5777[4]? = some (aI 4 (nA ye)) → h5777[5]? = some (aI 4 (nA fi)) → h5777[6]? = some (aI 40 W) → h5777[7]? = some (aI 40 Sn) → h5777[8]? = some (aI 40 Z) → h5777[9]? = some (aI 40 Ro) → h5777[10]? = some (aI 40 Co) → h5777[11]? = some (aL 40 Ba) → h5777[12]? = some (aR 16 (xjo G.1 16)) → h5777[J]? = some (oB 3 (lJ G J (.ref (G.1 + u1)) (.ref (G.1 + v1)) (nI ro1) (nI co1))) → h5777[J + 1]? = some (aI 100 lk1) → h5777[J + 2]? = some (aI 11 (nA rc1)) → h5777[J + 3]? = some (aI 11264 bs1) → h5777[u1]? = some (aI 1024 wy1) → h5777[v1]? = some (aI 1024 nw1) → grw 0 0 13 60 h h5777 → AW l G yX8_followChain cX8_followChain 14 (some .int) (xR 6 6 13430) (fun _ _ => True) QF (0 + 6) (0 + 13430) 16 [(9, .int (nI (p10 x))), (8, .int dv), (7, .int sv), (6, .int ev), (5, .int (nI fr)), (4, .int w), (3, .int (nI y0)), (0, .ref (G.1 + 0))] [] h5777 from L5798 (x + 1) x ev fr dv sv u1 v1 ro1 co1 rc1 lk1 bs1 wy1 nw1 _ (Nat.lt_succ_self _) (hx) (he) (bfr) (hu1) (hv1) (huv1) (hrc1) (hJ1) (hlq) (hcv) xh0 xh1 xh2 xh3 xh4 xh5 xh6 xh7 xh8 xh9 xh10 xh11 xh12 xhJ xhJ_1 xhJ_2 xhJ_3 xhu1 xhv1 (kX)
  intro mm
  induction mm with
  | zero =>
    intro x ev fr dv sv u1 v1 ro1 co1 rc1 lk1 bs1 wy1 nw1 h5777 hmm hx he bfr hu1 hv1 huv1 hrc1 hJ1 hlq hcv f5778 f5779 f5780 f5781 f5782 f5783 f5784 f5785 f5786 f5787 f5788 f5789 f5790 f5791 f5792 f5793 f5794 f5795 f5796 k5797
    exact absurd hmm (Nat.not_lt_zero _)
  | succ mm ih5798 =>
    intro x ev fr dv sv u1 v1 ro1 co1 rc1 lk1 bs1 wy1 nw1 h5777 hmm hx he bfr hu1 hv1 huv1 hrc1 hJ1 hlq hcv f5778 f5779 f5780 f5781 f5782 f5783 f5784 f5785 f5786 f5787 f5788 f5789 f5790 f5791 f5792 f5793 f5794 f5795 f5796 k5797
    rcases hx with rfl | rfl | rfl | rfl
    · refine aw_lv [(9, .int 0), (8, .int dv), (7, .int sv), (6, .int ev), (5, .int (nI fr)), (4, .int w), (3, .int (nI y0)), (0, .ref (G.1 + 0))] [0, 1, 2, 3, 4, 5, 6, 7] rfl ?_
      refine aw_iload 0 dX8_followChain_16 rfl ?_
      refine aw_if_le 149 dX8_followChain_18 (by decide) (fun c18 => ?_) (fun c18 => absurd (by decide) c18)
      refine aw_iload 5 dX8_followChain_149 rfl ?_
      refine aw_if_ne 157 dX8_followChain_151 (by decide) (fun c151 => ?_) (fun c151 => ?_)
      · have d151 := mt (j_eq (a := w.toInt) (b := (0)) (rfl) (rfl)).mpr c151
        refine aw_iload 5 dX8_followChain_157 rfl ?_
        refine aw_iconst (1) dX8_followChain_159 (by decide) ?_
        refine aw_icmp_ne 168 dX8_followChain_160 (by decide) (fun c160 => ?_) (fun c160 => ?_)
        · have d160 := mt (j_eq (a := w.toInt) (b := (1)) (rfl) (rfl)).mpr c160
          refine aw_iload 1 dX8_followChain_168 rfl ?_
          subst hQF
          exact aw_iret rfl dX8_followChain_170 (by decide) (by decide) ⟨_, rfl, _, _, _, _, _, _, _, _, _, f5778, f5791, f5792, f5793, f5794, f5795, f5796, k5797, hu1, hv1, huv1, hrc1, hJ1, hlq, by rw [hcv, chV_z, chR_2 c151 c160]⟩
        · have d160 := (j_eq (a := w.toInt) (b := (1)) (rfl) (rfl)).mp c160
          refine aw_iload 2 dX8_followChain_163 rfl ?_
          refine aw_goto 170 dX8_followChain_165 (by decide) ?_
          subst hQF
          exact aw_iret rfl dX8_followChain_170 (by decide) (by decide) ⟨_, rfl, _, _, _, _, _, _, _, _, _, f5778, f5791, f5792, f5793, f5794, f5795, f5796, k5797, hu1, hv1, huv1, hrc1, hJ1, hlq, by rw [hcv, chV_z, chR_1 c151 c160]⟩
      · have d151 := (j_eq (a := w.toInt) (b := (0)) (rfl) (rfl)).mp c151
        refine aw_iload 3 dX8_followChain_154 rfl ?_
        subst hQF
        exact aw_iret rfl dX8_followChain_156 (by decide) (by decide) ⟨_, rfl, _, _, _, _, _, _, _, _, _, f5778, f5791, f5792, f5793, f5794, f5795, f5796, k5797, hu1, hv1, huv1, hrc1, hJ1, hlq, by rw [hcv, chV_z, chR_0 c151]⟩
    · refine aw_lv [(9, .int 1), (8, .int dv), (7, .int sv), (6, .int ev), (5, .int (nI fr)), (4, .int w), (3, .int (nI y0)), (0, .ref (G.1 + 0))] [0, 1, 2, 3, 4, 5, 6, 7] rfl ?_
      refine aw_iload 0 dX8_followChain_16 rfl ?_
      refine aw_if_le 149 dX8_followChain_18 (by decide) (fun c18 => absurd c18 (by decide)) (fun c18 => ?_)
      refine aw_iload 3 dX8_followChain_21 rfl ?_
      refine aw_bipush (-9) dX8_followChain_23 (by decide) ?_
      refine aw_icmp_eq 149 dX8_followChain_25 (by decide) (fun c25 => ?_) (fun c25 => ?_)
      · have d25 := (j_eq (a := ev.toInt) (b := (-9)) (rfl) (rfl)).mp c25
        refine aw_iload 5 dX8_followChain_149 rfl ?_
        refine aw_if_ne 157 dX8_followChain_151 (by decide) (fun c151 => ?_) (fun c151 => ?_)
        · have d151 := mt (j_eq (a := w.toInt) (b := (0)) (rfl) (rfl)).mpr c151
          refine aw_iload 5 dX8_followChain_157 rfl ?_
          refine aw_iconst (1) dX8_followChain_159 (by decide) ?_
          refine aw_icmp_ne 168 dX8_followChain_160 (by decide) (fun c160 => ?_) (fun c160 => ?_)
          · have d160 := mt (j_eq (a := w.toInt) (b := (1)) (rfl) (rfl)).mpr c160
            refine aw_iload 1 dX8_followChain_168 rfl ?_
            subst hQF
            exact aw_iret rfl dX8_followChain_170 (by decide) (by decide) ⟨_, rfl, _, _, _, _, _, _, _, _, _, f5778, f5791, f5792, f5793, f5794, f5795, f5796, k5797, hu1, hv1, huv1, hrc1, hJ1, hlq, by rw [hcv, c25, chV_9, chR_2 c151 c160]⟩
          · have d160 := (j_eq (a := w.toInt) (b := (1)) (rfl) (rfl)).mp c160
            refine aw_iload 2 dX8_followChain_163 rfl ?_
            refine aw_goto 170 dX8_followChain_165 (by decide) ?_
            subst hQF
            exact aw_iret rfl dX8_followChain_170 (by decide) (by decide) ⟨_, rfl, _, _, _, _, _, _, _, _, _, f5778, f5791, f5792, f5793, f5794, f5795, f5796, k5797, hu1, hv1, huv1, hrc1, hJ1, hlq, by rw [hcv, c25, chV_9, chR_1 c151 c160]⟩
        · have d151 := (j_eq (a := w.toInt) (b := (0)) (rfl) (rfl)).mp c151
          refine aw_iload 3 dX8_followChain_154 rfl ?_
          subst hQF
          exact aw_iret rfl dX8_followChain_156 (by decide) (by decide) ⟨_, rfl, _, _, _, _, _, _, _, _, _, f5778, f5791, f5792, f5793, f5794, f5795, f5796, k5797, hu1, hv1, huv1, hrc1, hJ1, hlq, by rw [hcv, c25, chV_9, chR_0 c151]⟩
      · have d25 := mt (j_eq (a := ev.toInt) (b := (-9)) (rfl) (rfl)).mpr c25
        obtain ⟨q, bq, bqf, rfl⟩ := he.resolve_left c25
        refine aw_iload_n 6 dX8_followChain_28 rfl rfl ?_
        refine aw_iload 0 dX8_followChain_29 rfl ?_
        refine aw_idiv dX8_followChain_31 (by decide) ?_
        refine aw_toe (nI (y0 / 1)) (nv_div (rfl) (rfl) (by omega) (by decide) (by decide)) ?_
        refine aw_bipush (10) dX8_followChain_32 (by decide) ?_
        refine aw_irem dX8_followChain_34 (by decide) ?_
        refine aw_toe (nI ((y0 / 1) % 10)) (nv_rem (rfl) (rfl) (by omega) (by decide) (by decide)) ?_
        refine aw_iconst (1) dX8_followChain_35 (by decide) ?_
        refine aw_isub dX8_followChain_36 ?_
        refine aw_istore [(10, .int ((nI ((y0 / 1) % 10)) - 1)), (9, .int 1), (8, .int dv), (7, .int sv), (6, .int (nI q)), (5, .int (nI fr)), (4, .int w), (3, .int (nI y0)), (0, .ref (G.1 + 0))] dX8_followChain_37 (by decide) rfl ?_
        refine aw_iload 0 dX8_followChain_39 rfl ?_
        refine aw_if_lt 139 dX8_followChain_41 (by decide) (fun c41 => ?_) (fun c41 => ?_)
        · have d41 := (j_lt (a := ((nI ((y0 / 1) % 10)) - 1).toInt) (b := (0)) (rfl) (rfl)).mp c41
          refine aw_iload 1 dX8_followChain_139 rfl ?_
          refine aw_bipush (10) dX8_followChain_141 (by decide) ?_
          refine aw_idiv dX8_followChain_143 (by decide) ?_
          refine aw_toe 0 (by decide) ?_
          refine aw_istore [(9, .int 0), (10, .int ((nI ((y0 / 1) % 10)) - 1)), (8, .int dv), (7, .int sv), (6, .int (nI q)), (5, .int (nI fr)), (4, .int w), (3, .int (nI y0)), (0, .ref (G.1 + 0))] dX8_followChain_144 (by decide) rfl ?_
          refine aw_goto 16 dX8_followChain_146 (by decide) ?_
          refine aw_lv [(9, .int 0), (8, .int dv), (7, .int sv), (6, .int (nI q)), (5, .int (nI fr)), (4, .int w), (3, .int (nI y0)), (0, .ref (G.1 + 0))] [0, 2, 3, 4, 5, 6, 7, 8] rfl ?_
          exact ih5798 0 (nI q) fr dv sv u1 v1 ro1 co1 rc1 lk1 bs1 wy1 nw1 _ (by omega) (by decide) (Or.inr ⟨_, bq, bqf, rfl⟩) (by omega) (hu1) (hv1) (huv1) (hrc1) (hJ1) (hlq) (hcv.trans (chV_0 (by omega) (by rw [dig_i (by omega)] at d41; show y0 / 1 % 10 = 0; omega))) f5778 f5779 f5780 f5781 f5782 f5783 f5784 f5785 f5786 f5787 f5788 f5789 f5790 f5791 f5792 f5793 f5794 f5795 f5796 (k5797)
        · have d41 := mt (j_lt (a := ((nI ((y0 / 1) % 10)) - 1).toInt) (b := (0)) (rfl) (rfl)).mpr c41
          have g0 : 1 ≤ y0 / 1 % 10 := by rw [dig_i (by omega)] at d41; omega
          rw [dig_e g0]
          obtain ⟨su, wa, pt, ce, pv, gg0, gg1, gg2, hpt, bpv, hfz⟩ := hJ1 (fr * 4 + (y0 / 1 % 10 - 1)) (by omega)
          obtain ⟨P, eP⟩ : ∃ P, P = 13 + 3 * (fr * 4 + (y0 / 1 % 10 - 1)) := ⟨_, rfl⟩
          rw [← eP] at gg0 gg1 gg2
          refine aw_aload_n 8 dX8_followChain_44 rfl rfl ?_
          refine aw_iload 5 dX8_followChain_45 rfl ?_
          refine aw_iload 0 dX8_followChain_47 rfl ?_
          refine aw_eV [.int (nI fr), .int (nI (y0 / 1 % 10 - 1))] [] lX8_124 vX8_bestJoining mX8_bestJoining dX8_followChain_49 (bJ (bv := bv) (J := J) (u := u1) (v := v1) (ro := ro1) (co := co1) (rc := rc1) (lk := lk1) (bs := bs1) (wy := wy1) (nw := nw1) (P := P) (pv := pv) (su := su) (wa := wa) (pt := pt) (ce := ce) (m := m) (se := se) (ye := ye) (fi := fi) (W := W) (Sn := Sn) (Z := Z) (Ro := Ro) (Co := Co) (Ba := Ba) (nb := nb) (sp := sp) (fa := fa) (ve := ve) (a := fr) (b := y0 / 1 % 10 - 1) f5778 f5779 f5780 f5781 f5782 f5783 f5784 f5785 f5786 f5787 f5788 f5789 f5790 f5791 f5792 f5793 f5794 f5795 f5796 gg0 gg1 gg2 hu1 hv1 huv1 hrc1 (by omega) hm hse hfi hye (by omega) (by omega) (by omega) (by omega) hpt eP (hlx fr (by omega) (y0 / 1 % 10 - 1) (by omega)) (hlx3 fr (y0 / 1 % 10 - 1)) (by omega) (by omega) (jX_g hfz (by omega))) f5778 rfl rfl rfl (Nat.le_of_ble_eq_true rfl) (by decide) (by decide) rfl (fun h5813 q5812 => ?_)
          obtain ⟨u15799, v15800, ro15801, co15802, rc15803, lk15804, bs15805, wy15806, nw15807, su15808, wa15809, pt15810, ce15811, f5814, f5815, f5816, f5817, f5818, f5819, f5820, f5821, f5822, k5823, p5824, p5825, p5826, p5827, p5828, p5829⟩ := q5812
          have f5830 := rg2_at k5823 (by omega) f5778
          have f5831 := rg2_at k5823 (by omega) f5779
          have f5832 := rg2_at k5823 (by omega) f5780
          have f5833 := rg2_at k5823 (by omega) f5781
          have f5834 := rg2_at k5823 (by omega) f5782
          have f5835 := rg2_at k5823 (by omega) f5783
          have f5836 := rg2_at k5823 (by omega) f5784
          have f5837 := rg2_at k5823 (by omega) f5785
          have f5838 := rg2_at k5823 (by omega) f5786
          have f5839 := rg2_at k5823 (by omega) f5787
          have f5840 := rg2_at k5823 (by omega) f5788
          have f5841 := rg2_at k5823 (by omega) f5789
          have f5842 := rg2_at k5823 (by omega) f5790
          have hJ2 : iJs G (jX lx fi ve) h5813 := iJs_up hJ1 (k := fr * 4 + (y0 / 1 % 10 - 1)) (by omega) eP (fun j q1 q2 q3 => k5823.2 j (by omega)) f5820 f5821 f5822 p5828 bve (jX_at p5829 (by omega))
          refine aw_astore [(11, .ref (G.1 + P)), (10, .int (nI (y0 / 1 % 10 - 1))), (9, .int 1), (8, .int dv), (7, .int sv), (6, .int (nI q)), (5, .int (nI fr)), (4, .int w), (3, .int (nI y0)), (0, .ref (G.1 + 0))] dX8_followChain_52 (by decide) rfl ?_
          refine aw_aload 0 dX8_followChain_54 rfl ?_
          refine aw_get fX8_131 dX8_followChain_56 f5820 rfl ?_
          refine aw_iload 5 dX8_followChain_59 rfl ?_
          refine aw_iald q (rfl) (by omega) (by decide) dX8_followChain_61 f5821 ?_
          refine aw_istore [(12, .int (pt15810 q)), (11, .ref (G.1 + P)), (10, .int (nI (y0 / 1 % 10 - 1))), (9, .int 1), (8, .int dv), (7, .int sv), (6, .int (nI q)), (5, .int (nI fr)), (4, .int w), (3, .int (nI y0)), (0, .ref (G.1 + 0))] dX8_followChain_62 (by decide) rfl ?_
          refine aw_iload 0 dX8_followChain_64 rfl ?_
          refine aw_bipush (-9) dX8_followChain_66 (by decide) ?_
          refine aw_icmp_eq 131 dX8_followChain_68 (by decide) (fun c68 => ?_) (fun c68 => ?_)
          · have d68 := (j_eq (a := (pt15810 q).toInt) (b := (-9)) (rfl) (rfl)).mp c68
            refine aw_iload 2 dX8_followChain_131 rfl ?_
            refine aw_istore [(5, .int (nI (y0 / 1 % 10 - 1))), (12, .int (pt15810 q)), (11, .ref (G.1 + P)), (10, .int (nI (y0 / 1 % 10 - 1))), (9, .int 1), (8, .int dv), (7, .int sv), (6, .int (nI q)), (4, .int w), (3, .int (nI y0)), (0, .ref (G.1 + 0))] dX8_followChain_133 (by decide) rfl ?_
            refine aw_iload 1 dX8_followChain_135 rfl ?_
            refine aw_istore [(6, .int (pt15810 q)), (5, .int (nI (y0 / 1 % 10 - 1))), (12, .int (pt15810 q)), (11, .ref (G.1 + P)), (10, .int (nI (y0 / 1 % 10 - 1))), (9, .int 1), (8, .int dv), (7, .int sv), (4, .int w), (3, .int (nI y0)), (0, .ref (G.1 + 0))] dX8_followChain_137 (by decide) rfl ?_
            refine aw_iload 5 dX8_followChain_139 rfl ?_
            refine aw_bipush (10) dX8_followChain_141 (by decide) ?_
            refine aw_idiv dX8_followChain_143 (by decide) ?_
            refine aw_toe 0 (by decide) ?_
            refine aw_istore [(9, .int 0), (6, .int (pt15810 q)), (5, .int (nI (y0 / 1 % 10 - 1))), (12, .int (pt15810 q)), (11, .ref (G.1 + P)), (10, .int (nI (y0 / 1 % 10 - 1))), (8, .int dv), (7, .int sv), (4, .int w), (3, .int (nI y0)), (0, .ref (G.1 + 0))] dX8_followChain_144 (by decide) rfl ?_
            refine aw_goto 16 dX8_followChain_146 (by decide) ?_
            refine aw_lv [(9, .int 0), (8, .int dv), (7, .int sv), (6, .int (pt15810 q)), (5, .int (nI (y0 / 1 % 10 - 1))), (4, .int w), (3, .int (nI y0)), (0, .ref (G.1 + 0))] [0, 6, 7, 1, 2, 8, 9, 10] rfl ?_
            exact ih5798 0 (pt15810 q) (y0 / 1 % 10 - 1) dv sv u15799 v15800 ro15801 co15802 rc15803 lk15804 bs15805 wy15806 nw15807 _ (by omega) (by decide) (Or.inl c68) (by omega) (p5824) (p5825) (p5826) (p5827) (hJ2) (k5823.1.trans hlq) (by rw [c68]; exact hcv.trans (chV_n (t := y0 / 1 % 10 - 1) (by omega) (by show ¬ y0 / 1 % 10 = 0; omega) rfl ((p5829.2.1 q (by omega)).symm.trans c68))) f5830 f5831 f5832 f5833 f5834 f5835 f5836 f5837 f5838 f5839 f5840 f5841 f5842 f5814 f5815 f5816 f5817 f5818 f5819 (grw_r4 (k5797) k5823 (fun j q1 q2 => by omega))
          · have d68 := mt (j_eq (a := (pt15810 q).toInt) (b := (-9)) (rfl) (rfl)).mpr c68
            obtain ⟨q2, bq2, eq2⟩ := (p5828 q (by omega)).resolve_left c68
            have fb9 := hfi (y0 / 1 % 10 - 1) (by omega)
            have hP := (p5829.2.1 q (by omega)).symm.trans eq2
            have bq2f := jP_lt (by omega) (by omega) hP
            rw [eq2]
            refine aw_iinc (j := 5) (sv + 1) [(7, .int (sv + 1)), (12, .int (nI q2)), (11, .ref (G.1 + P)), (10, .int (nI (y0 / 1 % 10 - 1))), (9, .int 1), (8, .int dv), (6, .int (nI q)), (5, .int (nI fr)), (4, .int w), (3, .int (nI y0)), (0, .ref (G.1 + 0))] dX8_followChain_71 rfl (by rfl) (by decide) rfl ?_
            refine aw_aload_n 10 dX8_followChain_74 rfl rfl ?_
            refine aw_get fX8_20 dX8_followChain_75 f5830 rfl ?_
            refine aw_iload 7 dX8_followChain_78 rfl ?_
            refine aw_bipush (10) dX8_followChain_80 (by decide) ?_
            refine aw_imul dX8_followChain_82 ?_
            refine aw_toe (nI (fr * 10)) (nv_mul (rfl) (rfl)) ?_
            refine aw_iload 6 dX8_followChain_83 rfl ?_
            refine aw_iadd dX8_followChain_85 ?_
            refine aw_toe (nI ((fr * 10) + q)) (nv_add (rfl) (rfl)) ?_
            refine aw_iload 3 dX8_followChain_86 rfl ?_
            refine aw_bipush (10) dX8_followChain_88 (by decide) ?_
            refine aw_imul dX8_followChain_90 ?_
            refine aw_toe (nI ((y0 / 1 % 10 - 1) * 10)) (nv_mul (rfl) (rfl)) ?_
            refine aw_iload 1 dX8_followChain_91 rfl ?_
            refine aw_iadd dX8_followChain_93 ?_
            refine aw_toe (nI (((y0 / 1 % 10 - 1) * 10) + q2)) (nv_add (rfl) (rfl)) ?_
            refine aw_dV [.int (nI ((fr * 10) + q)), .int (nI (((y0 / 1 % 10 - 1) * 10) + q2))] [] lX8_121 vX1_likeness mX1_likeness dX8_followChain_94 (aX1_likeness (m := m) (se := se) (ye := ye) (fi := fi) (W := W) (Sn := Sn) (Z := Z) (Ro := Ro) (Co := Co) (Ba := Ba) (nb := nb) (sp := sp) (fa := fa) (ve := ve) (e := (fr * 10) + q) (f := ((y0 / 1 % 10 - 1) * 10) + q2) f5831 f5832 f5833 f5834 f5835 f5836 f5837 f5838 f5839 f5840 f5841 hm hse hfi hye (by omega) (by omega)) f5831 rfl rfl rfl (Nat.le_of_ble_eq_true rfl) (by decide) (by decide) rfl ?_
            refine aw_toe (nI (lx fr (y0 / 1 % 10 - 1) q q2)) (hlx fr (by omega) (y0 / 1 % 10 - 1) (by omega) q (by omega) q2 (by omega)) ?_
            refine aw_istore [(13, .int (nI (lx fr (y0 / 1 % 10 - 1) q q2))), (7, .int (sv + 1)), (12, .int (nI q2)), (11, .ref (G.1 + P)), (10, .int (nI (y0 / 1 % 10 - 1))), (9, .int 1), (8, .int dv), (6, .int (nI q)), (5, .int (nI fr)), (4, .int w), (3, .int (nI y0)), (0, .ref (G.1 + 0))] dX8_followChain_97 (by decide) rfl ?_
            refine aw_iload 6 dX8_followChain_99 rfl ?_
            refine aw_iconst (0) dX8_followChain_101 (by decide) ?_
            refine aw_bipush (100) dX8_followChain_102 (by decide) ?_
            refine aw_iload 0 dX8_followChain_104 rfl ?_
            refine aw_isub dX8_followChain_106 ?_
            refine aw_mmax lX8_251 dX8_followChain_107 (Nat.le_of_ble_eq_true rfl) (by decide) (by decide) ?_
            refine aw_toe (chX (nI (lx fr (y0 / 1 % 10 - 1) q q2))) (rfl) ?_
            refine aw_aload 3 dX8_followChain_110 rfl ?_
            refine aw_get fX8_137 dX8_followChain_112 f5820 rfl ?_
            refine aw_iload 7 dX8_followChain_115 rfl ?_
            refine aw_zald q (rfl) (by omega) (by decide) dX8_followChain_117 f5822 ?_
            refine aw_if_eq 125 dX8_followChain_118 (by decide) (fun c118 => ?_) (fun c118 => ?_)
            · have d118 := (j_eq (a := (ce15811 q).toInt) (b := (0)) (rfl) (rfl)).mp c118
              refine aw_bipush (50) dX8_followChain_125 (by decide) ?_
              refine aw_iadd dX8_followChain_127 ?_
              refine aw_iadd dX8_followChain_128 ?_
              refine aw_istore [(8, .int (dv + ((chX (nI (lx fr (y0 / 1 % 10 - 1) q q2))) + 50))), (13, .int (nI (lx fr (y0 / 1 % 10 - 1) q q2))), (7, .int (sv + 1)), (12, .int (nI q2)), (11, .ref (G.1 + P)), (10, .int (nI (y0 / 1 % 10 - 1))), (9, .int 1), (6, .int (nI q)), (5, .int (nI fr)), (4, .int w), (3, .int (nI y0)), (0, .ref (G.1 + 0))] dX8_followChain_129 (by decide) rfl ?_
              refine aw_iload 5 dX8_followChain_131 rfl ?_
              refine aw_istore [(5, .int (nI (y0 / 1 % 10 - 1))), (8, .int (dv + ((chX (nI (lx fr (y0 / 1 % 10 - 1) q q2))) + 50))), (13, .int (nI (lx fr (y0 / 1 % 10 - 1) q q2))), (7, .int (sv + 1)), (12, .int (nI q2)), (11, .ref (G.1 + P)), (10, .int (nI (y0 / 1 % 10 - 1))), (9, .int 1), (6, .int (nI q)), (4, .int w), (3, .int (nI y0)), (0, .ref (G.1 + 0))] dX8_followChain_133 (by decide) rfl ?_
              refine aw_iload 4 dX8_followChain_135 rfl ?_
              refine aw_istore [(6, .int (nI q2)), (5, .int (nI (y0 / 1 % 10 - 1))), (8, .int (dv + ((chX (nI (lx fr (y0 / 1 % 10 - 1) q q2))) + 50))), (13, .int (nI (lx fr (y0 / 1 % 10 - 1) q q2))), (7, .int (sv + 1)), (12, .int (nI q2)), (11, .ref (G.1 + P)), (10, .int (nI (y0 / 1 % 10 - 1))), (9, .int 1), (4, .int w), (3, .int (nI y0)), (0, .ref (G.1 + 0))] dX8_followChain_137 (by decide) rfl ?_
              refine aw_iload 8 dX8_followChain_139 rfl ?_
              refine aw_bipush (10) dX8_followChain_141 (by decide) ?_
              refine aw_idiv dX8_followChain_143 (by decide) ?_
              refine aw_toe 0 (by decide) ?_
              refine aw_istore [(9, .int 0), (6, .int (nI q2)), (5, .int (nI (y0 / 1 % 10 - 1))), (8, .int (dv + ((chX (nI (lx fr (y0 / 1 % 10 - 1) q q2))) + 50))), (13, .int (nI (lx fr (y0 / 1 % 10 - 1) q q2))), (7, .int (sv + 1)), (12, .int (nI q2)), (11, .ref (G.1 + P)), (10, .int (nI (y0 / 1 % 10 - 1))), (4, .int w), (3, .int (nI y0)), (0, .ref (G.1 + 0))] dX8_followChain_144 (by decide) rfl ?_
              refine aw_goto 16 dX8_followChain_146 (by decide) ?_
              refine aw_lv [(9, .int 0), (8, .int (dv + ((chX (nI (lx fr (y0 / 1 % 10 - 1) q q2))) + 50))), (7, .int (sv + 1)), (6, .int (nI q2)), (5, .int (nI (y0 / 1 % 10 - 1))), (4, .int w), (3, .int (nI y0)), (0, .ref (G.1 + 0))] [0, 3, 5, 1, 2, 9, 10, 11] rfl ?_
              exact ih5798 0 (nI q2) (y0 / 1 % 10 - 1) (dv + ((chX (nI (lx fr (y0 / 1 % 10 - 1) q q2))) + 50)) (sv + 1) u15799 v15800 ro15801 co15802 rc15803 lk15804 bs15805 wy15806 nw15807 _ (by omega) (by decide) (Or.inr ⟨_, bq2, bq2f, rfl⟩) (by omega) (p5824) (p5825) (p5826) (p5827) (hJ2) (k5823.1.trans hlq) (hcv.trans (chV_s (t := y0 / 1 % 10 - 1) (by omega) (by omega) (by show ¬ y0 / 1 % 10 = 0; omega) rfl hP (cc_0 (p5829.2.2.2 q (by omega)) c118))) f5830 f5831 f5832 f5833 f5834 f5835 f5836 f5837 f5838 f5839 f5840 f5841 f5842 f5814 f5815 f5816 f5817 f5818 f5819 (grw_r4 (k5797) k5823 (fun j q1 q2 => by omega))
            · have d118 := mt (j_eq (a := (ce15811 q).toInt) (b := (0)) (rfl) (rfl)).mpr c118
              refine aw_iconst (0) dX8_followChain_121 (by decide) ?_
              refine aw_goto 127 dX8_followChain_122 (by decide) ?_
              refine aw_iadd dX8_followChain_127 ?_
              refine aw_iadd dX8_followChain_128 ?_
              refine aw_istore [(8, .int (dv + ((chX (nI (lx fr (y0 / 1 % 10 - 1) q q2))) + 0))), (13, .int (nI (lx fr (y0 / 1 % 10 - 1) q q2))), (7, .int (sv + 1)), (12, .int (nI q2)), (11, .ref (G.1 + P)), (10, .int (nI (y0 / 1 % 10 - 1))), (9, .int 1), (6, .int (nI q)), (5, .int (nI fr)), (4, .int w), (3, .int (nI y0)), (0, .ref (G.1 + 0))] dX8_followChain_129 (by decide) rfl ?_
              refine aw_iload 5 dX8_followChain_131 rfl ?_
              refine aw_istore [(5, .int (nI (y0 / 1 % 10 - 1))), (8, .int (dv + ((chX (nI (lx fr (y0 / 1 % 10 - 1) q q2))) + 0))), (13, .int (nI (lx fr (y0 / 1 % 10 - 1) q q2))), (7, .int (sv + 1)), (12, .int (nI q2)), (11, .ref (G.1 + P)), (10, .int (nI (y0 / 1 % 10 - 1))), (9, .int 1), (6, .int (nI q)), (4, .int w), (3, .int (nI y0)), (0, .ref (G.1 + 0))] dX8_followChain_133 (by decide) rfl ?_
              refine aw_iload 4 dX8_followChain_135 rfl ?_
              refine aw_istore [(6, .int (nI q2)), (5, .int (nI (y0 / 1 % 10 - 1))), (8, .int (dv + ((chX (nI (lx fr (y0 / 1 % 10 - 1) q q2))) + 0))), (13, .int (nI (lx fr (y0 / 1 % 10 - 1) q q2))), (7, .int (sv + 1)), (12, .int (nI q2)), (11, .ref (G.1 + P)), (10, .int (nI (y0 / 1 % 10 - 1))), (9, .int 1), (4, .int w), (3, .int (nI y0)), (0, .ref (G.1 + 0))] dX8_followChain_137 (by decide) rfl ?_
              refine aw_iload 8 dX8_followChain_139 rfl ?_
              refine aw_bipush (10) dX8_followChain_141 (by decide) ?_
              refine aw_idiv dX8_followChain_143 (by decide) ?_
              refine aw_toe 0 (by decide) ?_
              refine aw_istore [(9, .int 0), (6, .int (nI q2)), (5, .int (nI (y0 / 1 % 10 - 1))), (8, .int (dv + ((chX (nI (lx fr (y0 / 1 % 10 - 1) q q2))) + 0))), (13, .int (nI (lx fr (y0 / 1 % 10 - 1) q q2))), (7, .int (sv + 1)), (12, .int (nI q2)), (11, .ref (G.1 + P)), (10, .int (nI (y0 / 1 % 10 - 1))), (4, .int w), (3, .int (nI y0)), (0, .ref (G.1 + 0))] dX8_followChain_144 (by decide) rfl ?_
              refine aw_goto 16 dX8_followChain_146 (by decide) ?_
              refine aw_lv [(9, .int 0), (8, .int (dv + ((chX (nI (lx fr (y0 / 1 % 10 - 1) q q2))) + 0))), (7, .int (sv + 1)), (6, .int (nI q2)), (5, .int (nI (y0 / 1 % 10 - 1))), (4, .int w), (3, .int (nI y0)), (0, .ref (G.1 + 0))] [0, 3, 5, 1, 2, 9, 10, 11] rfl ?_
              exact ih5798 0 (nI q2) (y0 / 1 % 10 - 1) (dv + ((chX (nI (lx fr (y0 / 1 % 10 - 1) q q2))) + 0)) (sv + 1) u15799 v15800 ro15801 co15802 rc15803 lk15804 bs15805 wy15806 nw15807 _ (by omega) (by decide) (Or.inr ⟨_, bq2, bq2f, rfl⟩) (by omega) (p5824) (p5825) (p5826) (p5827) (hJ2) (k5823.1.trans hlq) (hcv.trans (chV_s (t := y0 / 1 % 10 - 1) (by omega) (by omega) (by show ¬ y0 / 1 % 10 = 0; omega) rfl hP (cc_1 (p5829.2.2.2 q (by omega)) c118))) f5830 f5831 f5832 f5833 f5834 f5835 f5836 f5837 f5838 f5839 f5840 f5841 f5842 f5814 f5815 f5816 f5817 f5818 f5819 (grw_r4 (k5797) k5823 (fun j q1 q2 => by omega))
    · refine aw_lv [(9, .int 10), (8, .int dv), (7, .int sv), (6, .int ev), (5, .int (nI fr)), (4, .int w), (3, .int (nI y0)), (0, .ref (G.1 + 0))] [0, 1, 2, 3, 4, 5, 6, 7] rfl ?_
      refine aw_iload 0 dX8_followChain_16 rfl ?_
      refine aw_if_le 149 dX8_followChain_18 (by decide) (fun c18 => absurd c18 (by decide)) (fun c18 => ?_)
      refine aw_iload 3 dX8_followChain_21 rfl ?_
      refine aw_bipush (-9) dX8_followChain_23 (by decide) ?_
      refine aw_icmp_eq 149 dX8_followChain_25 (by decide) (fun c25 => ?_) (fun c25 => ?_)
      · have d25 := (j_eq (a := ev.toInt) (b := (-9)) (rfl) (rfl)).mp c25
        refine aw_iload 5 dX8_followChain_149 rfl ?_
        refine aw_if_ne 157 dX8_followChain_151 (by decide) (fun c151 => ?_) (fun c151 => ?_)
        · have d151 := mt (j_eq (a := w.toInt) (b := (0)) (rfl) (rfl)).mpr c151
          refine aw_iload 5 dX8_followChain_157 rfl ?_
          refine aw_iconst (1) dX8_followChain_159 (by decide) ?_
          refine aw_icmp_ne 168 dX8_followChain_160 (by decide) (fun c160 => ?_) (fun c160 => ?_)
          · have d160 := mt (j_eq (a := w.toInt) (b := (1)) (rfl) (rfl)).mpr c160
            refine aw_iload 1 dX8_followChain_168 rfl ?_
            subst hQF
            exact aw_iret rfl dX8_followChain_170 (by decide) (by decide) ⟨_, rfl, _, _, _, _, _, _, _, _, _, f5778, f5791, f5792, f5793, f5794, f5795, f5796, k5797, hu1, hv1, huv1, hrc1, hJ1, hlq, by rw [hcv, c25, chV_9, chR_2 c151 c160]⟩
          · have d160 := (j_eq (a := w.toInt) (b := (1)) (rfl) (rfl)).mp c160
            refine aw_iload 2 dX8_followChain_163 rfl ?_
            refine aw_goto 170 dX8_followChain_165 (by decide) ?_
            subst hQF
            exact aw_iret rfl dX8_followChain_170 (by decide) (by decide) ⟨_, rfl, _, _, _, _, _, _, _, _, _, f5778, f5791, f5792, f5793, f5794, f5795, f5796, k5797, hu1, hv1, huv1, hrc1, hJ1, hlq, by rw [hcv, c25, chV_9, chR_1 c151 c160]⟩
        · have d151 := (j_eq (a := w.toInt) (b := (0)) (rfl) (rfl)).mp c151
          refine aw_iload 3 dX8_followChain_154 rfl ?_
          subst hQF
          exact aw_iret rfl dX8_followChain_156 (by decide) (by decide) ⟨_, rfl, _, _, _, _, _, _, _, _, _, f5778, f5791, f5792, f5793, f5794, f5795, f5796, k5797, hu1, hv1, huv1, hrc1, hJ1, hlq, by rw [hcv, c25, chV_9, chR_0 c151]⟩
      · have d25 := mt (j_eq (a := ev.toInt) (b := (-9)) (rfl) (rfl)).mpr c25
        obtain ⟨q, bq, bqf, rfl⟩ := he.resolve_left c25
        refine aw_iload_n 6 dX8_followChain_28 rfl rfl ?_
        refine aw_iload 0 dX8_followChain_29 rfl ?_
        refine aw_idiv dX8_followChain_31 (by decide) ?_
        refine aw_toe (nI (y0 / 10)) (nv_div (rfl) (rfl) (by omega) (by decide) (by decide)) ?_
        refine aw_bipush (10) dX8_followChain_32 (by decide) ?_
        refine aw_irem dX8_followChain_34 (by decide) ?_
        refine aw_toe (nI ((y0 / 10) % 10)) (nv_rem (rfl) (rfl) (by omega) (by decide) (by decide)) ?_
        refine aw_iconst (1) dX8_followChain_35 (by decide) ?_
        refine aw_isub dX8_followChain_36 ?_
        refine aw_istore [(10, .int ((nI ((y0 / 10) % 10)) - 1)), (9, .int 10), (8, .int dv), (7, .int sv), (6, .int (nI q)), (5, .int (nI fr)), (4, .int w), (3, .int (nI y0)), (0, .ref (G.1 + 0))] dX8_followChain_37 (by decide) rfl ?_
        refine aw_iload 0 dX8_followChain_39 rfl ?_
        refine aw_if_lt 139 dX8_followChain_41 (by decide) (fun c41 => ?_) (fun c41 => ?_)
        · have d41 := (j_lt (a := ((nI ((y0 / 10) % 10)) - 1).toInt) (b := (0)) (rfl) (rfl)).mp c41
          refine aw_iload 1 dX8_followChain_139 rfl ?_
          refine aw_bipush (10) dX8_followChain_141 (by decide) ?_
          refine aw_idiv dX8_followChain_143 (by decide) ?_
          refine aw_toe 1 (by decide) ?_
          refine aw_istore [(9, .int 1), (10, .int ((nI ((y0 / 10) % 10)) - 1)), (8, .int dv), (7, .int sv), (6, .int (nI q)), (5, .int (nI fr)), (4, .int w), (3, .int (nI y0)), (0, .ref (G.1 + 0))] dX8_followChain_144 (by decide) rfl ?_
          refine aw_goto 16 dX8_followChain_146 (by decide) ?_
          refine aw_lv [(9, .int 1), (8, .int dv), (7, .int sv), (6, .int (nI q)), (5, .int (nI fr)), (4, .int w), (3, .int (nI y0)), (0, .ref (G.1 + 0))] [0, 2, 3, 4, 5, 6, 7, 8] rfl ?_
          exact ih5798 1 (nI q) fr dv sv u1 v1 ro1 co1 rc1 lk1 bs1 wy1 nw1 _ (by omega) (by decide) (Or.inr ⟨_, bq, bqf, rfl⟩) (by omega) (hu1) (hv1) (huv1) (hrc1) (hJ1) (hlq) (hcv.trans (chV_0 (by omega) (by rw [dig_i (by omega)] at d41; show y0 / 10 % 10 = 0; omega))) f5778 f5779 f5780 f5781 f5782 f5783 f5784 f5785 f5786 f5787 f5788 f5789 f5790 f5791 f5792 f5793 f5794 f5795 f5796 (k5797)
        · have d41 := mt (j_lt (a := ((nI ((y0 / 10) % 10)) - 1).toInt) (b := (0)) (rfl) (rfl)).mpr c41
          have g0 : 1 ≤ y0 / 10 % 10 := by rw [dig_i (by omega)] at d41; omega
          rw [dig_e g0]
          obtain ⟨su, wa, pt, ce, pv, gg0, gg1, gg2, hpt, bpv, hfz⟩ := hJ1 (fr * 4 + (y0 / 10 % 10 - 1)) (by omega)
          obtain ⟨P, eP⟩ : ∃ P, P = 13 + 3 * (fr * 4 + (y0 / 10 % 10 - 1)) := ⟨_, rfl⟩
          rw [← eP] at gg0 gg1 gg2
          refine aw_aload_n 8 dX8_followChain_44 rfl rfl ?_
          refine aw_iload 5 dX8_followChain_45 rfl ?_
          refine aw_iload 0 dX8_followChain_47 rfl ?_
          refine aw_eV [.int (nI fr), .int (nI (y0 / 10 % 10 - 1))] [] lX8_124 vX8_bestJoining mX8_bestJoining dX8_followChain_49 (bJ (bv := bv) (J := J) (u := u1) (v := v1) (ro := ro1) (co := co1) (rc := rc1) (lk := lk1) (bs := bs1) (wy := wy1) (nw := nw1) (P := P) (pv := pv) (su := su) (wa := wa) (pt := pt) (ce := ce) (m := m) (se := se) (ye := ye) (fi := fi) (W := W) (Sn := Sn) (Z := Z) (Ro := Ro) (Co := Co) (Ba := Ba) (nb := nb) (sp := sp) (fa := fa) (ve := ve) (a := fr) (b := y0 / 10 % 10 - 1) f5778 f5779 f5780 f5781 f5782 f5783 f5784 f5785 f5786 f5787 f5788 f5789 f5790 f5791 f5792 f5793 f5794 f5795 f5796 gg0 gg1 gg2 hu1 hv1 huv1 hrc1 (by omega) hm hse hfi hye (by omega) (by omega) (by omega) (by omega) hpt eP (hlx fr (by omega) (y0 / 10 % 10 - 1) (by omega)) (hlx3 fr (y0 / 10 % 10 - 1)) (by omega) (by omega) (jX_g hfz (by omega))) f5778 rfl rfl rfl (Nat.le_of_ble_eq_true rfl) (by decide) (by decide) rfl (fun h5857 q5856 => ?_)
          obtain ⟨u15843, v15844, ro15845, co15846, rc15847, lk15848, bs15849, wy15850, nw15851, su15852, wa15853, pt15854, ce15855, f5858, f5859, f5860, f5861, f5862, f5863, f5864, f5865, f5866, k5867, p5868, p5869, p5870, p5871, p5872, p5873⟩ := q5856
          have f5874 := rg2_at k5867 (by omega) f5778
          have f5875 := rg2_at k5867 (by omega) f5779
          have f5876 := rg2_at k5867 (by omega) f5780
          have f5877 := rg2_at k5867 (by omega) f5781
          have f5878 := rg2_at k5867 (by omega) f5782
          have f5879 := rg2_at k5867 (by omega) f5783
          have f5880 := rg2_at k5867 (by omega) f5784
          have f5881 := rg2_at k5867 (by omega) f5785
          have f5882 := rg2_at k5867 (by omega) f5786
          have f5883 := rg2_at k5867 (by omega) f5787
          have f5884 := rg2_at k5867 (by omega) f5788
          have f5885 := rg2_at k5867 (by omega) f5789
          have f5886 := rg2_at k5867 (by omega) f5790
          have hJ2 : iJs G (jX lx fi ve) h5857 := iJs_up hJ1 (k := fr * 4 + (y0 / 10 % 10 - 1)) (by omega) eP (fun j q1 q2 q3 => k5867.2 j (by omega)) f5864 f5865 f5866 p5872 bve (jX_at p5873 (by omega))
          refine aw_astore [(11, .ref (G.1 + P)), (10, .int (nI (y0 / 10 % 10 - 1))), (9, .int 10), (8, .int dv), (7, .int sv), (6, .int (nI q)), (5, .int (nI fr)), (4, .int w), (3, .int (nI y0)), (0, .ref (G.1 + 0))] dX8_followChain_52 (by decide) rfl ?_
          refine aw_aload 0 dX8_followChain_54 rfl ?_
          refine aw_get fX8_131 dX8_followChain_56 f5864 rfl ?_
          refine aw_iload 5 dX8_followChain_59 rfl ?_
          refine aw_iald q (rfl) (by omega) (by decide) dX8_followChain_61 f5865 ?_
          refine aw_istore [(12, .int (pt15854 q)), (11, .ref (G.1 + P)), (10, .int (nI (y0 / 10 % 10 - 1))), (9, .int 10), (8, .int dv), (7, .int sv), (6, .int (nI q)), (5, .int (nI fr)), (4, .int w), (3, .int (nI y0)), (0, .ref (G.1 + 0))] dX8_followChain_62 (by decide) rfl ?_
          refine aw_iload 0 dX8_followChain_64 rfl ?_
          refine aw_bipush (-9) dX8_followChain_66 (by decide) ?_
          refine aw_icmp_eq 131 dX8_followChain_68 (by decide) (fun c68 => ?_) (fun c68 => ?_)
          · have d68 := (j_eq (a := (pt15854 q).toInt) (b := (-9)) (rfl) (rfl)).mp c68
            refine aw_iload 2 dX8_followChain_131 rfl ?_
            refine aw_istore [(5, .int (nI (y0 / 10 % 10 - 1))), (12, .int (pt15854 q)), (11, .ref (G.1 + P)), (10, .int (nI (y0 / 10 % 10 - 1))), (9, .int 10), (8, .int dv), (7, .int sv), (6, .int (nI q)), (4, .int w), (3, .int (nI y0)), (0, .ref (G.1 + 0))] dX8_followChain_133 (by decide) rfl ?_
            refine aw_iload 1 dX8_followChain_135 rfl ?_
            refine aw_istore [(6, .int (pt15854 q)), (5, .int (nI (y0 / 10 % 10 - 1))), (12, .int (pt15854 q)), (11, .ref (G.1 + P)), (10, .int (nI (y0 / 10 % 10 - 1))), (9, .int 10), (8, .int dv), (7, .int sv), (4, .int w), (3, .int (nI y0)), (0, .ref (G.1 + 0))] dX8_followChain_137 (by decide) rfl ?_
            refine aw_iload 5 dX8_followChain_139 rfl ?_
            refine aw_bipush (10) dX8_followChain_141 (by decide) ?_
            refine aw_idiv dX8_followChain_143 (by decide) ?_
            refine aw_toe 1 (by decide) ?_
            refine aw_istore [(9, .int 1), (6, .int (pt15854 q)), (5, .int (nI (y0 / 10 % 10 - 1))), (12, .int (pt15854 q)), (11, .ref (G.1 + P)), (10, .int (nI (y0 / 10 % 10 - 1))), (8, .int dv), (7, .int sv), (4, .int w), (3, .int (nI y0)), (0, .ref (G.1 + 0))] dX8_followChain_144 (by decide) rfl ?_
            refine aw_goto 16 dX8_followChain_146 (by decide) ?_
            refine aw_lv [(9, .int 1), (8, .int dv), (7, .int sv), (6, .int (pt15854 q)), (5, .int (nI (y0 / 10 % 10 - 1))), (4, .int w), (3, .int (nI y0)), (0, .ref (G.1 + 0))] [0, 6, 7, 1, 2, 8, 9, 10] rfl ?_
            exact ih5798 1 (pt15854 q) (y0 / 10 % 10 - 1) dv sv u15843 v15844 ro15845 co15846 rc15847 lk15848 bs15849 wy15850 nw15851 _ (by omega) (by decide) (Or.inl c68) (by omega) (p5868) (p5869) (p5870) (p5871) (hJ2) (k5867.1.trans hlq) (by rw [c68]; exact hcv.trans (chV_n (t := y0 / 10 % 10 - 1) (by omega) (by show ¬ y0 / 10 % 10 = 0; omega) rfl ((p5873.2.1 q (by omega)).symm.trans c68))) f5874 f5875 f5876 f5877 f5878 f5879 f5880 f5881 f5882 f5883 f5884 f5885 f5886 f5858 f5859 f5860 f5861 f5862 f5863 (grw_r4 (k5797) k5867 (fun j q1 q2 => by omega))
          · have d68 := mt (j_eq (a := (pt15854 q).toInt) (b := (-9)) (rfl) (rfl)).mpr c68
            obtain ⟨q2, bq2, eq2⟩ := (p5872 q (by omega)).resolve_left c68
            have fb9 := hfi (y0 / 10 % 10 - 1) (by omega)
            have hP := (p5873.2.1 q (by omega)).symm.trans eq2
            have bq2f := jP_lt (by omega) (by omega) hP
            rw [eq2]
            refine aw_iinc (j := 5) (sv + 1) [(7, .int (sv + 1)), (12, .int (nI q2)), (11, .ref (G.1 + P)), (10, .int (nI (y0 / 10 % 10 - 1))), (9, .int 10), (8, .int dv), (6, .int (nI q)), (5, .int (nI fr)), (4, .int w), (3, .int (nI y0)), (0, .ref (G.1 + 0))] dX8_followChain_71 rfl (by rfl) (by decide) rfl ?_
            refine aw_aload_n 10 dX8_followChain_74 rfl rfl ?_
            refine aw_get fX8_20 dX8_followChain_75 f5874 rfl ?_
            refine aw_iload 7 dX8_followChain_78 rfl ?_
            refine aw_bipush (10) dX8_followChain_80 (by decide) ?_
            refine aw_imul dX8_followChain_82 ?_
            refine aw_toe (nI (fr * 10)) (nv_mul (rfl) (rfl)) ?_
            refine aw_iload 6 dX8_followChain_83 rfl ?_
            refine aw_iadd dX8_followChain_85 ?_
            refine aw_toe (nI ((fr * 10) + q)) (nv_add (rfl) (rfl)) ?_
            refine aw_iload 3 dX8_followChain_86 rfl ?_
            refine aw_bipush (10) dX8_followChain_88 (by decide) ?_
            refine aw_imul dX8_followChain_90 ?_
            refine aw_toe (nI ((y0 / 10 % 10 - 1) * 10)) (nv_mul (rfl) (rfl)) ?_
            refine aw_iload 1 dX8_followChain_91 rfl ?_
            refine aw_iadd dX8_followChain_93 ?_
            refine aw_toe (nI (((y0 / 10 % 10 - 1) * 10) + q2)) (nv_add (rfl) (rfl)) ?_
            refine aw_dV [.int (nI ((fr * 10) + q)), .int (nI (((y0 / 10 % 10 - 1) * 10) + q2))] [] lX8_121 vX1_likeness mX1_likeness dX8_followChain_94 (aX1_likeness (m := m) (se := se) (ye := ye) (fi := fi) (W := W) (Sn := Sn) (Z := Z) (Ro := Ro) (Co := Co) (Ba := Ba) (nb := nb) (sp := sp) (fa := fa) (ve := ve) (e := (fr * 10) + q) (f := ((y0 / 10 % 10 - 1) * 10) + q2) f5875 f5876 f5877 f5878 f5879 f5880 f5881 f5882 f5883 f5884 f5885 hm hse hfi hye (by omega) (by omega)) f5875 rfl rfl rfl (Nat.le_of_ble_eq_true rfl) (by decide) (by decide) rfl ?_
            refine aw_toe (nI (lx fr (y0 / 10 % 10 - 1) q q2)) (hlx fr (by omega) (y0 / 10 % 10 - 1) (by omega) q (by omega) q2 (by omega)) ?_
            refine aw_istore [(13, .int (nI (lx fr (y0 / 10 % 10 - 1) q q2))), (7, .int (sv + 1)), (12, .int (nI q2)), (11, .ref (G.1 + P)), (10, .int (nI (y0 / 10 % 10 - 1))), (9, .int 10), (8, .int dv), (6, .int (nI q)), (5, .int (nI fr)), (4, .int w), (3, .int (nI y0)), (0, .ref (G.1 + 0))] dX8_followChain_97 (by decide) rfl ?_
            refine aw_iload 6 dX8_followChain_99 rfl ?_
            refine aw_iconst (0) dX8_followChain_101 (by decide) ?_
            refine aw_bipush (100) dX8_followChain_102 (by decide) ?_
            refine aw_iload 0 dX8_followChain_104 rfl ?_
            refine aw_isub dX8_followChain_106 ?_
            refine aw_mmax lX8_251 dX8_followChain_107 (Nat.le_of_ble_eq_true rfl) (by decide) (by decide) ?_
            refine aw_toe (chX (nI (lx fr (y0 / 10 % 10 - 1) q q2))) (rfl) ?_
            refine aw_aload 3 dX8_followChain_110 rfl ?_
            refine aw_get fX8_137 dX8_followChain_112 f5864 rfl ?_
            refine aw_iload 7 dX8_followChain_115 rfl ?_
            refine aw_zald q (rfl) (by omega) (by decide) dX8_followChain_117 f5866 ?_
            refine aw_if_eq 125 dX8_followChain_118 (by decide) (fun c118 => ?_) (fun c118 => ?_)
            · have d118 := (j_eq (a := (ce15855 q).toInt) (b := (0)) (rfl) (rfl)).mp c118
              refine aw_bipush (50) dX8_followChain_125 (by decide) ?_
              refine aw_iadd dX8_followChain_127 ?_
              refine aw_iadd dX8_followChain_128 ?_
              refine aw_istore [(8, .int (dv + ((chX (nI (lx fr (y0 / 10 % 10 - 1) q q2))) + 50))), (13, .int (nI (lx fr (y0 / 10 % 10 - 1) q q2))), (7, .int (sv + 1)), (12, .int (nI q2)), (11, .ref (G.1 + P)), (10, .int (nI (y0 / 10 % 10 - 1))), (9, .int 10), (6, .int (nI q)), (5, .int (nI fr)), (4, .int w), (3, .int (nI y0)), (0, .ref (G.1 + 0))] dX8_followChain_129 (by decide) rfl ?_
              refine aw_iload 5 dX8_followChain_131 rfl ?_
              refine aw_istore [(5, .int (nI (y0 / 10 % 10 - 1))), (8, .int (dv + ((chX (nI (lx fr (y0 / 10 % 10 - 1) q q2))) + 50))), (13, .int (nI (lx fr (y0 / 10 % 10 - 1) q q2))), (7, .int (sv + 1)), (12, .int (nI q2)), (11, .ref (G.1 + P)), (10, .int (nI (y0 / 10 % 10 - 1))), (9, .int 10), (6, .int (nI q)), (4, .int w), (3, .int (nI y0)), (0, .ref (G.1 + 0))] dX8_followChain_133 (by decide) rfl ?_
              refine aw_iload 4 dX8_followChain_135 rfl ?_
              refine aw_istore [(6, .int (nI q2)), (5, .int (nI (y0 / 10 % 10 - 1))), (8, .int (dv + ((chX (nI (lx fr (y0 / 10 % 10 - 1) q q2))) + 50))), (13, .int (nI (lx fr (y0 / 10 % 10 - 1) q q2))), (7, .int (sv + 1)), (12, .int (nI q2)), (11, .ref (G.1 + P)), (10, .int (nI (y0 / 10 % 10 - 1))), (9, .int 10), (4, .int w), (3, .int (nI y0)), (0, .ref (G.1 + 0))] dX8_followChain_137 (by decide) rfl ?_
              refine aw_iload 8 dX8_followChain_139 rfl ?_
              refine aw_bipush (10) dX8_followChain_141 (by decide) ?_
              refine aw_idiv dX8_followChain_143 (by decide) ?_
              refine aw_toe 1 (by decide) ?_
              refine aw_istore [(9, .int 1), (6, .int (nI q2)), (5, .int (nI (y0 / 10 % 10 - 1))), (8, .int (dv + ((chX (nI (lx fr (y0 / 10 % 10 - 1) q q2))) + 50))), (13, .int (nI (lx fr (y0 / 10 % 10 - 1) q q2))), (7, .int (sv + 1)), (12, .int (nI q2)), (11, .ref (G.1 + P)), (10, .int (nI (y0 / 10 % 10 - 1))), (4, .int w), (3, .int (nI y0)), (0, .ref (G.1 + 0))] dX8_followChain_144 (by decide) rfl ?_
              refine aw_goto 16 dX8_followChain_146 (by decide) ?_
              refine aw_lv [(9, .int 1), (8, .int (dv + ((chX (nI (lx fr (y0 / 10 % 10 - 1) q q2))) + 50))), (7, .int (sv + 1)), (6, .int (nI q2)), (5, .int (nI (y0 / 10 % 10 - 1))), (4, .int w), (3, .int (nI y0)), (0, .ref (G.1 + 0))] [0, 3, 5, 1, 2, 9, 10, 11] rfl ?_
              exact ih5798 1 (nI q2) (y0 / 10 % 10 - 1) (dv + ((chX (nI (lx fr (y0 / 10 % 10 - 1) q q2))) + 50)) (sv + 1) u15843 v15844 ro15845 co15846 rc15847 lk15848 bs15849 wy15850 nw15851 _ (by omega) (by decide) (Or.inr ⟨_, bq2, bq2f, rfl⟩) (by omega) (p5868) (p5869) (p5870) (p5871) (hJ2) (k5867.1.trans hlq) (hcv.trans (chV_s (t := y0 / 10 % 10 - 1) (by omega) (by omega) (by show ¬ y0 / 10 % 10 = 0; omega) rfl hP (cc_0 (p5873.2.2.2 q (by omega)) c118))) f5874 f5875 f5876 f5877 f5878 f5879 f5880 f5881 f5882 f5883 f5884 f5885 f5886 f5858 f5859 f5860 f5861 f5862 f5863 (grw_r4 (k5797) k5867 (fun j q1 q2 => by omega))
            · have d118 := mt (j_eq (a := (ce15855 q).toInt) (b := (0)) (rfl) (rfl)).mpr c118
              refine aw_iconst (0) dX8_followChain_121 (by decide) ?_
              refine aw_goto 127 dX8_followChain_122 (by decide) ?_
              refine aw_iadd dX8_followChain_127 ?_
              refine aw_iadd dX8_followChain_128 ?_
              refine aw_istore [(8, .int (dv + ((chX (nI (lx fr (y0 / 10 % 10 - 1) q q2))) + 0))), (13, .int (nI (lx fr (y0 / 10 % 10 - 1) q q2))), (7, .int (sv + 1)), (12, .int (nI q2)), (11, .ref (G.1 + P)), (10, .int (nI (y0 / 10 % 10 - 1))), (9, .int 10), (6, .int (nI q)), (5, .int (nI fr)), (4, .int w), (3, .int (nI y0)), (0, .ref (G.1 + 0))] dX8_followChain_129 (by decide) rfl ?_
              refine aw_iload 5 dX8_followChain_131 rfl ?_
              refine aw_istore [(5, .int (nI (y0 / 10 % 10 - 1))), (8, .int (dv + ((chX (nI (lx fr (y0 / 10 % 10 - 1) q q2))) + 0))), (13, .int (nI (lx fr (y0 / 10 % 10 - 1) q q2))), (7, .int (sv + 1)), (12, .int (nI q2)), (11, .ref (G.1 + P)), (10, .int (nI (y0 / 10 % 10 - 1))), (9, .int 10), (6, .int (nI q)), (4, .int w), (3, .int (nI y0)), (0, .ref (G.1 + 0))] dX8_followChain_133 (by decide) rfl ?_
              refine aw_iload 4 dX8_followChain_135 rfl ?_
              refine aw_istore [(6, .int (nI q2)), (5, .int (nI (y0 / 10 % 10 - 1))), (8, .int (dv + ((chX (nI (lx fr (y0 / 10 % 10 - 1) q q2))) + 0))), (13, .int (nI (lx fr (y0 / 10 % 10 - 1) q q2))), (7, .int (sv + 1)), (12, .int (nI q2)), (11, .ref (G.1 + P)), (10, .int (nI (y0 / 10 % 10 - 1))), (9, .int 10), (4, .int w), (3, .int (nI y0)), (0, .ref (G.1 + 0))] dX8_followChain_137 (by decide) rfl ?_
              refine aw_iload 8 dX8_followChain_139 rfl ?_
              refine aw_bipush (10) dX8_followChain_141 (by decide) ?_
              refine aw_idiv dX8_followChain_143 (by decide) ?_
              refine aw_toe 1 (by decide) ?_
              refine aw_istore [(9, .int 1), (6, .int (nI q2)), (5, .int (nI (y0 / 10 % 10 - 1))), (8, .int (dv + ((chX (nI (lx fr (y0 / 10 % 10 - 1) q q2))) + 0))), (13, .int (nI (lx fr (y0 / 10 % 10 - 1) q q2))), (7, .int (sv + 1)), (12, .int (nI q2)), (11, .ref (G.1 + P)), (10, .int (nI (y0 / 10 % 10 - 1))), (4, .int w), (3, .int (nI y0)), (0, .ref (G.1 + 0))] dX8_followChain_144 (by decide) rfl ?_
              refine aw_goto 16 dX8_followChain_146 (by decide) ?_
              refine aw_lv [(9, .int 1), (8, .int (dv + ((chX (nI (lx fr (y0 / 10 % 10 - 1) q q2))) + 0))), (7, .int (sv + 1)), (6, .int (nI q2)), (5, .int (nI (y0 / 10 % 10 - 1))), (4, .int w), (3, .int (nI y0)), (0, .ref (G.1 + 0))] [0, 3, 5, 1, 2, 9, 10, 11] rfl ?_
              exact ih5798 1 (nI q2) (y0 / 10 % 10 - 1) (dv + ((chX (nI (lx fr (y0 / 10 % 10 - 1) q q2))) + 0)) (sv + 1) u15843 v15844 ro15845 co15846 rc15847 lk15848 bs15849 wy15850 nw15851 _ (by omega) (by decide) (Or.inr ⟨_, bq2, bq2f, rfl⟩) (by omega) (p5868) (p5869) (p5870) (p5871) (hJ2) (k5867.1.trans hlq) (hcv.trans (chV_s (t := y0 / 10 % 10 - 1) (by omega) (by omega) (by show ¬ y0 / 10 % 10 = 0; omega) rfl hP (cc_1 (p5873.2.2.2 q (by omega)) c118))) f5874 f5875 f5876 f5877 f5878 f5879 f5880 f5881 f5882 f5883 f5884 f5885 f5886 f5858 f5859 f5860 f5861 f5862 f5863 (grw_r4 (k5797) k5867 (fun j q1 q2 => by omega))
    · refine aw_lv [(9, .int 100), (8, .int dv), (7, .int sv), (6, .int ev), (5, .int (nI fr)), (4, .int w), (3, .int (nI y0)), (0, .ref (G.1 + 0))] [0, 1, 2, 3, 4, 5, 6, 7] rfl ?_
      refine aw_iload 0 dX8_followChain_16 rfl ?_
      refine aw_if_le 149 dX8_followChain_18 (by decide) (fun c18 => absurd c18 (by decide)) (fun c18 => ?_)
      refine aw_iload 3 dX8_followChain_21 rfl ?_
      refine aw_bipush (-9) dX8_followChain_23 (by decide) ?_
      refine aw_icmp_eq 149 dX8_followChain_25 (by decide) (fun c25 => ?_) (fun c25 => ?_)
      · have d25 := (j_eq (a := ev.toInt) (b := (-9)) (rfl) (rfl)).mp c25
        refine aw_iload 5 dX8_followChain_149 rfl ?_
        refine aw_if_ne 157 dX8_followChain_151 (by decide) (fun c151 => ?_) (fun c151 => ?_)
        · have d151 := mt (j_eq (a := w.toInt) (b := (0)) (rfl) (rfl)).mpr c151
          refine aw_iload 5 dX8_followChain_157 rfl ?_
          refine aw_iconst (1) dX8_followChain_159 (by decide) ?_
          refine aw_icmp_ne 168 dX8_followChain_160 (by decide) (fun c160 => ?_) (fun c160 => ?_)
          · have d160 := mt (j_eq (a := w.toInt) (b := (1)) (rfl) (rfl)).mpr c160
            refine aw_iload 1 dX8_followChain_168 rfl ?_
            subst hQF
            exact aw_iret rfl dX8_followChain_170 (by decide) (by decide) ⟨_, rfl, _, _, _, _, _, _, _, _, _, f5778, f5791, f5792, f5793, f5794, f5795, f5796, k5797, hu1, hv1, huv1, hrc1, hJ1, hlq, by rw [hcv, c25, chV_9, chR_2 c151 c160]⟩
          · have d160 := (j_eq (a := w.toInt) (b := (1)) (rfl) (rfl)).mp c160
            refine aw_iload 2 dX8_followChain_163 rfl ?_
            refine aw_goto 170 dX8_followChain_165 (by decide) ?_
            subst hQF
            exact aw_iret rfl dX8_followChain_170 (by decide) (by decide) ⟨_, rfl, _, _, _, _, _, _, _, _, _, f5778, f5791, f5792, f5793, f5794, f5795, f5796, k5797, hu1, hv1, huv1, hrc1, hJ1, hlq, by rw [hcv, c25, chV_9, chR_1 c151 c160]⟩
        · have d151 := (j_eq (a := w.toInt) (b := (0)) (rfl) (rfl)).mp c151
          refine aw_iload 3 dX8_followChain_154 rfl ?_
          subst hQF
          exact aw_iret rfl dX8_followChain_156 (by decide) (by decide) ⟨_, rfl, _, _, _, _, _, _, _, _, _, f5778, f5791, f5792, f5793, f5794, f5795, f5796, k5797, hu1, hv1, huv1, hrc1, hJ1, hlq, by rw [hcv, c25, chV_9, chR_0 c151]⟩
      · have d25 := mt (j_eq (a := ev.toInt) (b := (-9)) (rfl) (rfl)).mpr c25
        obtain ⟨q, bq, bqf, rfl⟩ := he.resolve_left c25
        refine aw_iload_n 6 dX8_followChain_28 rfl rfl ?_
        refine aw_iload 0 dX8_followChain_29 rfl ?_
        refine aw_idiv dX8_followChain_31 (by decide) ?_
        refine aw_toe (nI (y0 / 100)) (nv_div (rfl) (rfl) (by omega) (by decide) (by decide)) ?_
        refine aw_bipush (10) dX8_followChain_32 (by decide) ?_
        refine aw_irem dX8_followChain_34 (by decide) ?_
        refine aw_toe (nI ((y0 / 100) % 10)) (nv_rem (rfl) (rfl) (by omega) (by decide) (by decide)) ?_
        refine aw_iconst (1) dX8_followChain_35 (by decide) ?_
        refine aw_isub dX8_followChain_36 ?_
        refine aw_istore [(10, .int ((nI ((y0 / 100) % 10)) - 1)), (9, .int 100), (8, .int dv), (7, .int sv), (6, .int (nI q)), (5, .int (nI fr)), (4, .int w), (3, .int (nI y0)), (0, .ref (G.1 + 0))] dX8_followChain_37 (by decide) rfl ?_
        refine aw_iload 0 dX8_followChain_39 rfl ?_
        refine aw_if_lt 139 dX8_followChain_41 (by decide) (fun c41 => ?_) (fun c41 => ?_)
        · have d41 := (j_lt (a := ((nI ((y0 / 100) % 10)) - 1).toInt) (b := (0)) (rfl) (rfl)).mp c41
          refine aw_iload 1 dX8_followChain_139 rfl ?_
          refine aw_bipush (10) dX8_followChain_141 (by decide) ?_
          refine aw_idiv dX8_followChain_143 (by decide) ?_
          refine aw_toe 10 (by decide) ?_
          refine aw_istore [(9, .int 10), (10, .int ((nI ((y0 / 100) % 10)) - 1)), (8, .int dv), (7, .int sv), (6, .int (nI q)), (5, .int (nI fr)), (4, .int w), (3, .int (nI y0)), (0, .ref (G.1 + 0))] dX8_followChain_144 (by decide) rfl ?_
          refine aw_goto 16 dX8_followChain_146 (by decide) ?_
          refine aw_lv [(9, .int 10), (8, .int dv), (7, .int sv), (6, .int (nI q)), (5, .int (nI fr)), (4, .int w), (3, .int (nI y0)), (0, .ref (G.1 + 0))] [0, 2, 3, 4, 5, 6, 7, 8] rfl ?_
          exact ih5798 2 (nI q) fr dv sv u1 v1 ro1 co1 rc1 lk1 bs1 wy1 nw1 _ (by omega) (by decide) (Or.inr ⟨_, bq, bqf, rfl⟩) (by omega) (hu1) (hv1) (huv1) (hrc1) (hJ1) (hlq) (hcv.trans (chV_0 (by omega) (by rw [dig_i (by omega)] at d41; show y0 / 100 % 10 = 0; omega))) f5778 f5779 f5780 f5781 f5782 f5783 f5784 f5785 f5786 f5787 f5788 f5789 f5790 f5791 f5792 f5793 f5794 f5795 f5796 (k5797)
        · have d41 := mt (j_lt (a := ((nI ((y0 / 100) % 10)) - 1).toInt) (b := (0)) (rfl) (rfl)).mpr c41
          have g0 : 1 ≤ y0 / 100 % 10 := by rw [dig_i (by omega)] at d41; omega
          rw [dig_e g0]
          obtain ⟨su, wa, pt, ce, pv, gg0, gg1, gg2, hpt, bpv, hfz⟩ := hJ1 (fr * 4 + (y0 / 100 % 10 - 1)) (by omega)
          obtain ⟨P, eP⟩ : ∃ P, P = 13 + 3 * (fr * 4 + (y0 / 100 % 10 - 1)) := ⟨_, rfl⟩
          rw [← eP] at gg0 gg1 gg2
          refine aw_aload_n 8 dX8_followChain_44 rfl rfl ?_
          refine aw_iload 5 dX8_followChain_45 rfl ?_
          refine aw_iload 0 dX8_followChain_47 rfl ?_
          refine aw_eV [.int (nI fr), .int (nI (y0 / 100 % 10 - 1))] [] lX8_124 vX8_bestJoining mX8_bestJoining dX8_followChain_49 (bJ (bv := bv) (J := J) (u := u1) (v := v1) (ro := ro1) (co := co1) (rc := rc1) (lk := lk1) (bs := bs1) (wy := wy1) (nw := nw1) (P := P) (pv := pv) (su := su) (wa := wa) (pt := pt) (ce := ce) (m := m) (se := se) (ye := ye) (fi := fi) (W := W) (Sn := Sn) (Z := Z) (Ro := Ro) (Co := Co) (Ba := Ba) (nb := nb) (sp := sp) (fa := fa) (ve := ve) (a := fr) (b := y0 / 100 % 10 - 1) f5778 f5779 f5780 f5781 f5782 f5783 f5784 f5785 f5786 f5787 f5788 f5789 f5790 f5791 f5792 f5793 f5794 f5795 f5796 gg0 gg1 gg2 hu1 hv1 huv1 hrc1 (by omega) hm hse hfi hye (by omega) (by omega) (by omega) (by omega) hpt eP (hlx fr (by omega) (y0 / 100 % 10 - 1) (by omega)) (hlx3 fr (y0 / 100 % 10 - 1)) (by omega) (by omega) (jX_g hfz (by omega))) f5778 rfl rfl rfl (Nat.le_of_ble_eq_true rfl) (by decide) (by decide) rfl (fun h5901 q5900 => ?_)
          obtain ⟨u15887, v15888, ro15889, co15890, rc15891, lk15892, bs15893, wy15894, nw15895, su15896, wa15897, pt15898, ce15899, f5902, f5903, f5904, f5905, f5906, f5907, f5908, f5909, f5910, k5911, p5912, p5913, p5914, p5915, p5916, p5917⟩ := q5900
          have f5918 := rg2_at k5911 (by omega) f5778
          have f5919 := rg2_at k5911 (by omega) f5779
          have f5920 := rg2_at k5911 (by omega) f5780
          have f5921 := rg2_at k5911 (by omega) f5781
          have f5922 := rg2_at k5911 (by omega) f5782
          have f5923 := rg2_at k5911 (by omega) f5783
          have f5924 := rg2_at k5911 (by omega) f5784
          have f5925 := rg2_at k5911 (by omega) f5785
          have f5926 := rg2_at k5911 (by omega) f5786
          have f5927 := rg2_at k5911 (by omega) f5787
          have f5928 := rg2_at k5911 (by omega) f5788
          have f5929 := rg2_at k5911 (by omega) f5789
          have f5930 := rg2_at k5911 (by omega) f5790
          have hJ2 : iJs G (jX lx fi ve) h5901 := iJs_up hJ1 (k := fr * 4 + (y0 / 100 % 10 - 1)) (by omega) eP (fun j q1 q2 q3 => k5911.2 j (by omega)) f5908 f5909 f5910 p5916 bve (jX_at p5917 (by omega))
          refine aw_astore [(11, .ref (G.1 + P)), (10, .int (nI (y0 / 100 % 10 - 1))), (9, .int 100), (8, .int dv), (7, .int sv), (6, .int (nI q)), (5, .int (nI fr)), (4, .int w), (3, .int (nI y0)), (0, .ref (G.1 + 0))] dX8_followChain_52 (by decide) rfl ?_
          refine aw_aload 0 dX8_followChain_54 rfl ?_
          refine aw_get fX8_131 dX8_followChain_56 f5908 rfl ?_
          refine aw_iload 5 dX8_followChain_59 rfl ?_
          refine aw_iald q (rfl) (by omega) (by decide) dX8_followChain_61 f5909 ?_
          refine aw_istore [(12, .int (pt15898 q)), (11, .ref (G.1 + P)), (10, .int (nI (y0 / 100 % 10 - 1))), (9, .int 100), (8, .int dv), (7, .int sv), (6, .int (nI q)), (5, .int (nI fr)), (4, .int w), (3, .int (nI y0)), (0, .ref (G.1 + 0))] dX8_followChain_62 (by decide) rfl ?_
          refine aw_iload 0 dX8_followChain_64 rfl ?_
          refine aw_bipush (-9) dX8_followChain_66 (by decide) ?_
          refine aw_icmp_eq 131 dX8_followChain_68 (by decide) (fun c68 => ?_) (fun c68 => ?_)
          · have d68 := (j_eq (a := (pt15898 q).toInt) (b := (-9)) (rfl) (rfl)).mp c68
            refine aw_iload 2 dX8_followChain_131 rfl ?_
            refine aw_istore [(5, .int (nI (y0 / 100 % 10 - 1))), (12, .int (pt15898 q)), (11, .ref (G.1 + P)), (10, .int (nI (y0 / 100 % 10 - 1))), (9, .int 100), (8, .int dv), (7, .int sv), (6, .int (nI q)), (4, .int w), (3, .int (nI y0)), (0, .ref (G.1 + 0))] dX8_followChain_133 (by decide) rfl ?_
            refine aw_iload 1 dX8_followChain_135 rfl ?_
            refine aw_istore [(6, .int (pt15898 q)), (5, .int (nI (y0 / 100 % 10 - 1))), (12, .int (pt15898 q)), (11, .ref (G.1 + P)), (10, .int (nI (y0 / 100 % 10 - 1))), (9, .int 100), (8, .int dv), (7, .int sv), (4, .int w), (3, .int (nI y0)), (0, .ref (G.1 + 0))] dX8_followChain_137 (by decide) rfl ?_
            refine aw_iload 5 dX8_followChain_139 rfl ?_
            refine aw_bipush (10) dX8_followChain_141 (by decide) ?_
            refine aw_idiv dX8_followChain_143 (by decide) ?_
            refine aw_toe 10 (by decide) ?_
            refine aw_istore [(9, .int 10), (6, .int (pt15898 q)), (5, .int (nI (y0 / 100 % 10 - 1))), (12, .int (pt15898 q)), (11, .ref (G.1 + P)), (10, .int (nI (y0 / 100 % 10 - 1))), (8, .int dv), (7, .int sv), (4, .int w), (3, .int (nI y0)), (0, .ref (G.1 + 0))] dX8_followChain_144 (by decide) rfl ?_
            refine aw_goto 16 dX8_followChain_146 (by decide) ?_
            refine aw_lv [(9, .int 10), (8, .int dv), (7, .int sv), (6, .int (pt15898 q)), (5, .int (nI (y0 / 100 % 10 - 1))), (4, .int w), (3, .int (nI y0)), (0, .ref (G.1 + 0))] [0, 6, 7, 1, 2, 8, 9, 10] rfl ?_
            exact ih5798 2 (pt15898 q) (y0 / 100 % 10 - 1) dv sv u15887 v15888 ro15889 co15890 rc15891 lk15892 bs15893 wy15894 nw15895 _ (by omega) (by decide) (Or.inl c68) (by omega) (p5912) (p5913) (p5914) (p5915) (hJ2) (k5911.1.trans hlq) (by rw [c68]; exact hcv.trans (chV_n (t := y0 / 100 % 10 - 1) (by omega) (by show ¬ y0 / 100 % 10 = 0; omega) rfl ((p5917.2.1 q (by omega)).symm.trans c68))) f5918 f5919 f5920 f5921 f5922 f5923 f5924 f5925 f5926 f5927 f5928 f5929 f5930 f5902 f5903 f5904 f5905 f5906 f5907 (grw_r4 (k5797) k5911 (fun j q1 q2 => by omega))
          · have d68 := mt (j_eq (a := (pt15898 q).toInt) (b := (-9)) (rfl) (rfl)).mpr c68
            obtain ⟨q2, bq2, eq2⟩ := (p5916 q (by omega)).resolve_left c68
            have fb9 := hfi (y0 / 100 % 10 - 1) (by omega)
            have hP := (p5917.2.1 q (by omega)).symm.trans eq2
            have bq2f := jP_lt (by omega) (by omega) hP
            rw [eq2]
            refine aw_iinc (j := 5) (sv + 1) [(7, .int (sv + 1)), (12, .int (nI q2)), (11, .ref (G.1 + P)), (10, .int (nI (y0 / 100 % 10 - 1))), (9, .int 100), (8, .int dv), (6, .int (nI q)), (5, .int (nI fr)), (4, .int w), (3, .int (nI y0)), (0, .ref (G.1 + 0))] dX8_followChain_71 rfl (by rfl) (by decide) rfl ?_
            refine aw_aload_n 10 dX8_followChain_74 rfl rfl ?_
            refine aw_get fX8_20 dX8_followChain_75 f5918 rfl ?_
            refine aw_iload 7 dX8_followChain_78 rfl ?_
            refine aw_bipush (10) dX8_followChain_80 (by decide) ?_
            refine aw_imul dX8_followChain_82 ?_
            refine aw_toe (nI (fr * 10)) (nv_mul (rfl) (rfl)) ?_
            refine aw_iload 6 dX8_followChain_83 rfl ?_
            refine aw_iadd dX8_followChain_85 ?_
            refine aw_toe (nI ((fr * 10) + q)) (nv_add (rfl) (rfl)) ?_
            refine aw_iload 3 dX8_followChain_86 rfl ?_
            refine aw_bipush (10) dX8_followChain_88 (by decide) ?_
            refine aw_imul dX8_followChain_90 ?_
            refine aw_toe (nI ((y0 / 100 % 10 - 1) * 10)) (nv_mul (rfl) (rfl)) ?_
            refine aw_iload 1 dX8_followChain_91 rfl ?_
            refine aw_iadd dX8_followChain_93 ?_
            refine aw_toe (nI (((y0 / 100 % 10 - 1) * 10) + q2)) (nv_add (rfl) (rfl)) ?_
            refine aw_dV [.int (nI ((fr * 10) + q)), .int (nI (((y0 / 100 % 10 - 1) * 10) + q2))] [] lX8_121 vX1_likeness mX1_likeness dX8_followChain_94 (aX1_likeness (m := m) (se := se) (ye := ye) (fi := fi) (W := W) (Sn := Sn) (Z := Z) (Ro := Ro) (Co := Co) (Ba := Ba) (nb := nb) (sp := sp) (fa := fa) (ve := ve) (e := (fr * 10) + q) (f := ((y0 / 100 % 10 - 1) * 10) + q2) f5919 f5920 f5921 f5922 f5923 f5924 f5925 f5926 f5927 f5928 f5929 hm hse hfi hye (by omega) (by omega)) f5919 rfl rfl rfl (Nat.le_of_ble_eq_true rfl) (by decide) (by decide) rfl ?_
            refine aw_toe (nI (lx fr (y0 / 100 % 10 - 1) q q2)) (hlx fr (by omega) (y0 / 100 % 10 - 1) (by omega) q (by omega) q2 (by omega)) ?_
            refine aw_istore [(13, .int (nI (lx fr (y0 / 100 % 10 - 1) q q2))), (7, .int (sv + 1)), (12, .int (nI q2)), (11, .ref (G.1 + P)), (10, .int (nI (y0 / 100 % 10 - 1))), (9, .int 100), (8, .int dv), (6, .int (nI q)), (5, .int (nI fr)), (4, .int w), (3, .int (nI y0)), (0, .ref (G.1 + 0))] dX8_followChain_97 (by decide) rfl ?_
            refine aw_iload 6 dX8_followChain_99 rfl ?_
            refine aw_iconst (0) dX8_followChain_101 (by decide) ?_
            refine aw_bipush (100) dX8_followChain_102 (by decide) ?_
            refine aw_iload 0 dX8_followChain_104 rfl ?_
            refine aw_isub dX8_followChain_106 ?_
            refine aw_mmax lX8_251 dX8_followChain_107 (Nat.le_of_ble_eq_true rfl) (by decide) (by decide) ?_
            refine aw_toe (chX (nI (lx fr (y0 / 100 % 10 - 1) q q2))) (rfl) ?_
            refine aw_aload 3 dX8_followChain_110 rfl ?_
            refine aw_get fX8_137 dX8_followChain_112 f5908 rfl ?_
            refine aw_iload 7 dX8_followChain_115 rfl ?_
            refine aw_zald q (rfl) (by omega) (by decide) dX8_followChain_117 f5910 ?_
            refine aw_if_eq 125 dX8_followChain_118 (by decide) (fun c118 => ?_) (fun c118 => ?_)
            · have d118 := (j_eq (a := (ce15899 q).toInt) (b := (0)) (rfl) (rfl)).mp c118
              refine aw_bipush (50) dX8_followChain_125 (by decide) ?_
              refine aw_iadd dX8_followChain_127 ?_
              refine aw_iadd dX8_followChain_128 ?_
              refine aw_istore [(8, .int (dv + ((chX (nI (lx fr (y0 / 100 % 10 - 1) q q2))) + 50))), (13, .int (nI (lx fr (y0 / 100 % 10 - 1) q q2))), (7, .int (sv + 1)), (12, .int (nI q2)), (11, .ref (G.1 + P)), (10, .int (nI (y0 / 100 % 10 - 1))), (9, .int 100), (6, .int (nI q)), (5, .int (nI fr)), (4, .int w), (3, .int (nI y0)), (0, .ref (G.1 + 0))] dX8_followChain_129 (by decide) rfl ?_
              refine aw_iload 5 dX8_followChain_131 rfl ?_
              refine aw_istore [(5, .int (nI (y0 / 100 % 10 - 1))), (8, .int (dv + ((chX (nI (lx fr (y0 / 100 % 10 - 1) q q2))) + 50))), (13, .int (nI (lx fr (y0 / 100 % 10 - 1) q q2))), (7, .int (sv + 1)), (12, .int (nI q2)), (11, .ref (G.1 + P)), (10, .int (nI (y0 / 100 % 10 - 1))), (9, .int 100), (6, .int (nI q)), (4, .int w), (3, .int (nI y0)), (0, .ref (G.1 + 0))] dX8_followChain_133 (by decide) rfl ?_
              refine aw_iload 4 dX8_followChain_135 rfl ?_
              refine aw_istore [(6, .int (nI q2)), (5, .int (nI (y0 / 100 % 10 - 1))), (8, .int (dv + ((chX (nI (lx fr (y0 / 100 % 10 - 1) q q2))) + 50))), (13, .int (nI (lx fr (y0 / 100 % 10 - 1) q q2))), (7, .int (sv + 1)), (12, .int (nI q2)), (11, .ref (G.1 + P)), (10, .int (nI (y0 / 100 % 10 - 1))), (9, .int 100), (4, .int w), (3, .int (nI y0)), (0, .ref (G.1 + 0))] dX8_followChain_137 (by decide) rfl ?_
              refine aw_iload 8 dX8_followChain_139 rfl ?_
              refine aw_bipush (10) dX8_followChain_141 (by decide) ?_
              refine aw_idiv dX8_followChain_143 (by decide) ?_
              refine aw_toe 10 (by decide) ?_
              refine aw_istore [(9, .int 10), (6, .int (nI q2)), (5, .int (nI (y0 / 100 % 10 - 1))), (8, .int (dv + ((chX (nI (lx fr (y0 / 100 % 10 - 1) q q2))) + 50))), (13, .int (nI (lx fr (y0 / 100 % 10 - 1) q q2))), (7, .int (sv + 1)), (12, .int (nI q2)), (11, .ref (G.1 + P)), (10, .int (nI (y0 / 100 % 10 - 1))), (4, .int w), (3, .int (nI y0)), (0, .ref (G.1 + 0))] dX8_followChain_144 (by decide) rfl ?_
              refine aw_goto 16 dX8_followChain_146 (by decide) ?_
              refine aw_lv [(9, .int 10), (8, .int (dv + ((chX (nI (lx fr (y0 / 100 % 10 - 1) q q2))) + 50))), (7, .int (sv + 1)), (6, .int (nI q2)), (5, .int (nI (y0 / 100 % 10 - 1))), (4, .int w), (3, .int (nI y0)), (0, .ref (G.1 + 0))] [0, 3, 5, 1, 2, 9, 10, 11] rfl ?_
              exact ih5798 2 (nI q2) (y0 / 100 % 10 - 1) (dv + ((chX (nI (lx fr (y0 / 100 % 10 - 1) q q2))) + 50)) (sv + 1) u15887 v15888 ro15889 co15890 rc15891 lk15892 bs15893 wy15894 nw15895 _ (by omega) (by decide) (Or.inr ⟨_, bq2, bq2f, rfl⟩) (by omega) (p5912) (p5913) (p5914) (p5915) (hJ2) (k5911.1.trans hlq) (hcv.trans (chV_s (t := y0 / 100 % 10 - 1) (by omega) (by omega) (by show ¬ y0 / 100 % 10 = 0; omega) rfl hP (cc_0 (p5917.2.2.2 q (by omega)) c118))) f5918 f5919 f5920 f5921 f5922 f5923 f5924 f5925 f5926 f5927 f5928 f5929 f5930 f5902 f5903 f5904 f5905 f5906 f5907 (grw_r4 (k5797) k5911 (fun j q1 q2 => by omega))
            · have d118 := mt (j_eq (a := (ce15899 q).toInt) (b := (0)) (rfl) (rfl)).mpr c118
              refine aw_iconst (0) dX8_followChain_121 (by decide) ?_
              refine aw_goto 127 dX8_followChain_122 (by decide) ?_
              refine aw_iadd dX8_followChain_127 ?_
              refine aw_iadd dX8_followChain_128 ?_
              refine aw_istore [(8, .int (dv + ((chX (nI (lx fr (y0 / 100 % 10 - 1) q q2))) + 0))), (13, .int (nI (lx fr (y0 / 100 % 10 - 1) q q2))), (7, .int (sv + 1)), (12, .int (nI q2)), (11, .ref (G.1 + P)), (10, .int (nI (y0 / 100 % 10 - 1))), (9, .int 100), (6, .int (nI q)), (5, .int (nI fr)), (4, .int w), (3, .int (nI y0)), (0, .ref (G.1 + 0))] dX8_followChain_129 (by decide) rfl ?_
              refine aw_iload 5 dX8_followChain_131 rfl ?_
              refine aw_istore [(5, .int (nI (y0 / 100 % 10 - 1))), (8, .int (dv + ((chX (nI (lx fr (y0 / 100 % 10 - 1) q q2))) + 0))), (13, .int (nI (lx fr (y0 / 100 % 10 - 1) q q2))), (7, .int (sv + 1)), (12, .int (nI q2)), (11, .ref (G.1 + P)), (10, .int (nI (y0 / 100 % 10 - 1))), (9, .int 100), (6, .int (nI q)), (4, .int w), (3, .int (nI y0)), (0, .ref (G.1 + 0))] dX8_followChain_133 (by decide) rfl ?_
              refine aw_iload 4 dX8_followChain_135 rfl ?_
              refine aw_istore [(6, .int (nI q2)), (5, .int (nI (y0 / 100 % 10 - 1))), (8, .int (dv + ((chX (nI (lx fr (y0 / 100 % 10 - 1) q q2))) + 0))), (13, .int (nI (lx fr (y0 / 100 % 10 - 1) q q2))), (7, .int (sv + 1)), (12, .int (nI q2)), (11, .ref (G.1 + P)), (10, .int (nI (y0 / 100 % 10 - 1))), (9, .int 100), (4, .int w), (3, .int (nI y0)), (0, .ref (G.1 + 0))] dX8_followChain_137 (by decide) rfl ?_
              refine aw_iload 8 dX8_followChain_139 rfl ?_
              refine aw_bipush (10) dX8_followChain_141 (by decide) ?_
              refine aw_idiv dX8_followChain_143 (by decide) ?_
              refine aw_toe 10 (by decide) ?_
              refine aw_istore [(9, .int 10), (6, .int (nI q2)), (5, .int (nI (y0 / 100 % 10 - 1))), (8, .int (dv + ((chX (nI (lx fr (y0 / 100 % 10 - 1) q q2))) + 0))), (13, .int (nI (lx fr (y0 / 100 % 10 - 1) q q2))), (7, .int (sv + 1)), (12, .int (nI q2)), (11, .ref (G.1 + P)), (10, .int (nI (y0 / 100 % 10 - 1))), (4, .int w), (3, .int (nI y0)), (0, .ref (G.1 + 0))] dX8_followChain_144 (by decide) rfl ?_
              refine aw_goto 16 dX8_followChain_146 (by decide) ?_
              refine aw_lv [(9, .int 10), (8, .int (dv + ((chX (nI (lx fr (y0 / 100 % 10 - 1) q q2))) + 0))), (7, .int (sv + 1)), (6, .int (nI q2)), (5, .int (nI (y0 / 100 % 10 - 1))), (4, .int w), (3, .int (nI y0)), (0, .ref (G.1 + 0))] [0, 3, 5, 1, 2, 9, 10, 11] rfl ?_
              exact ih5798 2 (nI q2) (y0 / 100 % 10 - 1) (dv + ((chX (nI (lx fr (y0 / 100 % 10 - 1) q q2))) + 0)) (sv + 1) u15887 v15888 ro15889 co15890 rc15891 lk15892 bs15893 wy15894 nw15895 _ (by omega) (by decide) (Or.inr ⟨_, bq2, bq2f, rfl⟩) (by omega) (p5912) (p5913) (p5914) (p5915) (hJ2) (k5911.1.trans hlq) (hcv.trans (chV_s (t := y0 / 100 % 10 - 1) (by omega) (by omega) (by show ¬ y0 / 100 % 10 = 0; omega) rfl hP (cc_1 (p5917.2.2.2 q (by omega)) c118))) f5918 f5919 f5920 f5921 f5922 f5923 f5924 f5925 f5926 f5927 f5928 f5929 f5930 f5902 f5903 f5904 f5905 f5906 f5907 (grw_r4 (k5797) k5911 (fun j q1 q2 => by omega))
