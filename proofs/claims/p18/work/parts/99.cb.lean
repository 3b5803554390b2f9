theorem nI_ne9 {i : Nat} (h : i < 10) : ¬ nI i = -9 := fun e => by
  have q := congrArg Int32.toInt e
  rw [nI_toInt (by omega)] at q
  have q2 : ((-9 : Int32).toInt) = -9 := rfl
  omega
set_option maxHeartbeats 4000000 in
theorem fcL {l : Launch} {G : xG} {h hX : List va_E} {QF : List Frame → Array Value → State → State → Prop} {bv : Value} {J : Nat} {m se ye fi : Nat → Nat} {W Sn Z Ro Co : Nat → Int32} {Ba : Nat → Int64} {nb sp fa ve : Nat} {y0 : Nat} {w : Int32} {x : Nat} {ev : Int32} {fr : Nat} {dv : Int32} {sv : Int32} {u1 : Nat} {v1 : Nat} {ro1 : Nat} {co1 : Nat} {rc1 : Nat → Nat} {lk1 : Nat → Int32} {bs1 : Nat → Int32} {wy1 : Nat → Int32} {nw1 : Nat → Int32}  (hl : h.length = J) (hm : ∀ j, j < 20 → m j ≤ j) (hse : ∀ j, j < 20 → se j < 20) (hfi : ∀ j, j < 4 → fi j < 11) (hye : ∀ j, j < 4 → ye j < 1901) (qJ : 125 ≤ J) (bve : ve ≤ 600) (g1 : 1 ≤ y0 % 10 ∧ y0 % 10 ≤ 4 ∧ y0 / 10 % 10 ≤ 4 ∧ y0 / 100 % 10 ≤ 4) (by0 : y0 < 1000) (hx : x = 0 ∨ x = 1 ∨ x = 2 ∨ x = 3) (he : ev = -9 ∨ ∃ q, q < 10 ∧ ev = nI q) (bfr : fr < 4) (hu1 : J + 4 ≤ u1 ∧ u1 ≤ J + 5) (hv1 : J + 4 ≤ v1 ∧ v1 ≤ J + 5) (huv1 : u1 ≠ v1) (hrc1 : ∀ j, j < 11 → rc1 j < 1024) (hJ1 : iJs G jT hX) (hlq : hX.length = J + 6) (xh0 : hX[0]? = some (oB 8 (lX G (.ref (G.1 + J)) (bv)))) (xh1 : hX[1]? = some (oB 1 (lC G (nI nb) (nI sp) (nI fa) (nI ve)))) (xh2 : hX[2]? = some (aI 20 (nA m))) (xh3 : hX[3]? = some (aI 20 (nA se))) (xh4 : hX[4]? = some (aI 4 (nA ye))) (xh5 : hX[5]? = some (aI 4 (nA fi))) (xh6 : hX[6]? = some (aI 40 W)) (xh7 : hX[7]? = some (aI 40 Sn)) (xh8 : hX[8]? = some (aI 40 Z)) (xh9 : hX[9]? = some (aI 40 Ro)) (xh10 : hX[10]? = some (aI 40 Co)) (xh11 : hX[11]? = some (aL 40 Ba)) (xh12 : hX[12]? = some (aR 16 (xjo G.1 16))) (xhJ : hX[J]? = some (oB 3 (lJ G J (.ref (G.1 + u1)) (.ref (G.1 + v1)) (nI ro1) (nI co1)))) (xhJ_1 : hX[J + 1]? = some (aI 100 lk1)) (xhJ_2 : hX[J + 2]? = some (aI 11 (nA rc1))) (xhJ_3 : hX[J + 3]? = some (aI 11264 bs1)) (xhu1 : hX[u1]? = some (aI 1024 wy1)) (xhv1 : hX[v1]? = some (aI 1024 nw1)) (kX : grw 0 0 13 60 h hX) (hQF : QF = xQ G 6 13430 (fun v h2 => ∃ r : Int32, v = some (.int r) ∧ (fun r h1 => ∃ u1 : Nat, ∃ v1 : Nat, ∃ ro1 : Nat, ∃ co1 : Nat, ∃ rc1 : Nat → Nat, ∃ lk1 : Nat → Int32, ∃ bs1 : Nat → Int32, ∃ wy1 : Nat → Int32, ∃ nw1 : Nat → Int32, h1[0]? = some (oB 8 (lX G (.ref (G.1 + J)) (bv))) ∧ h1[J]? = some (oB 3 (lJ G J (.ref (G.1 + u1)) (.ref (G.1 + v1)) (nI ro1) (nI co1))) ∧ h1[J + 1]? = some (aI 100 lk1) ∧ h1[J + 2]? = some (aI 11 (nA rc1)) ∧ h1[J + 3]? = some (aI 11264 bs1) ∧ h1[u1]? = some (aI 1024 wy1) ∧ h1[v1]? = some (aI 1024 nw1) ∧ grw 0 0 13 60 h h1 ∧ (J + 4 ≤ u1 ∧ u1 ≤ J + 5) ∧ (J + 4 ≤ v1 ∧ v1 ≤ J + 5) ∧ u1 ≠ v1 ∧ (∀ j, j < 11 → rc1 j < 1024) ∧ iJs G jT h1 ∧ h1.length = J + 6 ∧ True) r h2)) : AW l G yX8_followChain cX8_followChain 14 (some .int) (xR 6 6 13430) (fun _ _ => True) QF (0 + 6) (0 + 13430) 16 [(9, .int (nI (p10 x))), (8, .int dv), (7, .int sv), (6, .int ev), (5, .int (nI fr)), (4, .int w), (3, .int (nI y0)), (0, .ref (G.1 + 0))] [] hX := by
  refine aw_lv [(9, .int (nI (p10 x))), (8, .int dv), (7, .int sv), (6, .int ev), (5, .int (nI fr)), (4, .int w), (3, .int (nI y0)), (0, .ref (G.1 + 0))] [0, 1, 2, 3, 4, 5, 6, 7] rfl ?_
  suffices L5820 : ∀ (mm : Nat) (x : Nat) (ev : Int32) (fr : Nat) (dv : Int32) (sv : Int32) (u1 : Nat) (v1 : Nat) (ro1 : Nat) (co1 : Nat) (rc1 : Nat → Nat) (lk1 : Nat → Int32) (bs1 : Nat → Int32) (wy1 : Nat → Int32) (nw1 : Nat → Int32) (h5799 : List va_E), x < mm → (x = 0 ∨ x = 1 ∨ x = 2 ∨ x = 3) → (ev = -9 ∨ ∃ q, q < 10 ∧ ev = nI q) → (fr < 4) → (J + 4 ≤ u1 ∧ u1 ≤ J + 5) → (J + 4 ≤ v1 ∧ v1 ≤ J + 5) → (u1 ≠ v1) → (∀ j, j < 11 → rc1 j < 1024) → (iJs G jT h5799) → (h5799.length = J + 6) → h5799[0]? = some (oB 8 (lX G (.ref (G.1 + J)) (bv))) → h5799[1]? = some (oB 1 (lC G (nI nb) (nI sp) (nI fa) (nI ve))) → h5799[2]? = some (aI 20 (nA m)) → h5799[3]? = some (aI 20 (nA se)) → h5799[4]? = some (aI 4 (nA ye)) → h5799[5]? = some (aI 4 (nA fi)) → h5799[6]? = some (aI 40 W) → h5799[7]? = some (aI 40 Sn) → h5799[8]? = some (aI 40 Z) → h5799[9]? = some (aI 40 Ro) → h5799[10]? = some (aI 40 Co) → h5799[11]? = some (aL 40 Ba) → h5799[12]? = some (aR 16 (xjo G.1 16)) → h5799[J]? = some (oB 3 (lJ G J (.ref (G.1 + u1)) (.ref (G.1 + v1)) (nI ro1) (nI co1))) → h5799[J + 1]? = some (aI 100 lk1) → h5799[J + 2]? = some (aI 11 (nA rc1)) → h5799[J + 3]? = some (aI 11264 bs1) → h5799[u1]? = some (aI 1024 wy1) → h5799[v1]? = some (aI 1024 nw1) → grw 0 0 13 60 h h5799 → AW l G yX8_followChain cX8_followChain 14 (some .int) (xR 6 6 13430) (fun _ _ => True) QF (0 + 6) (0 + 13430) 16 [(9, .int (nI (p10 x))), (8, .int dv), (7, .int sv), (6, .int ev), (5, .int (nI fr)), (4, .int w), (3, .int (nI y0)), (0, .ref (G.1 + 0))] [] h5799 from L5820 (x + 1) x ev fr dv sv u1 v1 ro1 co1 rc1 lk1 bs1 wy1 nw1 _ (Nat.lt_succ_self _) (hx) (he) (bfr) (hu1) (hv1) (huv1) (hrc1) (hJ1) (hlq) xh0 xh1 xh2 xh3 xh4 xh5 xh6 xh7 xh8 xh9 xh10 xh11 xh12 xhJ xhJ_1 xhJ_2 xhJ_3 xhu1 xhv1 (kX)
  intro mm
  induction mm with
  | zero =>
    intro x ev fr dv sv u1 v1 ro1 co1 rc1 lk1 bs1 wy1 nw1 h5799 hmm hx he bfr hu1 hv1 huv1 hrc1 hJ1 hlq f5800 f5801 f5802 f5803 f5804 f5805 f5806 f5807 f5808 f5809 f5810 f5811 f5812 f5813 f5814 f5815 f5816 f5817 f5818 k5819
    exact absurd hmm (Nat.not_lt_zero _)
  | succ mm ih5820 =>
    intro x ev fr dv sv u1 v1 ro1 co1 rc1 lk1 bs1 wy1 nw1 h5799 hmm hx he bfr hu1 hv1 huv1 hrc1 hJ1 hlq f5800 f5801 f5802 f5803 f5804 f5805 f5806 f5807 f5808 f5809 f5810 f5811 f5812 f5813 f5814 f5815 f5816 f5817 f5818 k5819
    rcases hx with rfl | rfl | rfl | rfl
    · refine aw_lv [(9, .int 0), (8, .int dv), (7, .int sv), (6, .int ev), (5, .int (nI fr)), (4, .int w), (3, .int (nI y0)), (0, .ref (G.1 + 0))] [0, 1, 2, 3, 4, 5, 6, 7] rfl ?_
      refine aw_iload 0 dX8_followChain_16 rfl ?_
      refine aw_if_le 149 dX8_followChain_18 (by decide) (fun c18 => ?_) (fun c18 => absurd (by decide) c18)
      refine aw_iload 5 dX8_followChain_149 rfl ?_
      refine aw_if_ne 157 dX8_followChain_151 (by decide) (fun c151 => ?_) (fun c151 => ?_)
      · have d151 := mt (j_eq (a := w.toInt) (b := (0)) (rfl) (rfl)).mpr c151
        refine aw_iload 5 dX8_followChain_157 rfl ?_
        refine aw_iconst (1) dX8_followChain_159 (by decide) ?_
        refine aw_icmp_ne 168 dX8_followChain_160 (by decide) (fun c160 => ?_) (fun c160 => ?_)
        · have d160 := mt (j_eq (a := w.toInt) (b := (1)) (rfl) (rfl)).mpr c160
          refine aw_iload 1 dX8_followChain_168 rfl ?_
          subst hQF
          exact aw_iret rfl dX8_followChain_170 (by decide) (by decide) ⟨_, rfl, _, _, _, _, _, _, _, _, _, f5800, f5813, f5814, f5815, f5816, f5817, f5818, k5819, hu1, hv1, huv1, hrc1, hJ1, hlq, trivial⟩
        · have d160 := (j_eq (a := w.toInt) (b := (1)) (rfl) (rfl)).mp c160
          refine aw_iload 2 dX8_followChain_163 rfl ?_
          refine aw_goto 170 dX8_followChain_165 (by decide) ?_
          subst hQF
          exact aw_iret rfl dX8_followChain_170 (by decide) (by decide) ⟨_, rfl, _, _, _, _, _, _, _, _, _, f5800, f5813, f5814, f5815, f5816, f5817, f5818, k5819, hu1, hv1, huv1, hrc1, hJ1, hlq, trivial⟩
      · have d151 := (j_eq (a := w.toInt) (b := (0)) (rfl) (rfl)).mp c151
        refine aw_iload 3 dX8_followChain_154 rfl ?_
        subst hQF
        exact aw_iret rfl dX8_followChain_156 (by decide) (by decide) ⟨_, rfl, _, _, _, _, _, _, _, _, _, f5800, f5813, f5814, f5815, f5816, f5817, f5818, k5819, hu1, hv1, huv1, hrc1, hJ1, hlq, trivial⟩
    · refine aw_lv [(9, .int 1), (8, .int dv), (7, .int sv), (6, .int ev), (5, .int (nI fr)), (4, .int w), (3, .int (nI y0)), (0, .ref (G.1 + 0))] [0, 1, 2, 3, 4, 5, 6, 7] rfl ?_
      refine aw_iload 0 dX8_followChain_16 rfl ?_
      refine aw_if_le 149 dX8_followChain_18 (by decide) (fun c18 => absurd c18 (by decide)) (fun c18 => ?_)
      refine aw_iload 3 dX8_followChain_21 rfl ?_
      refine aw_bipush (-9) dX8_followChain_23 (by decide) ?_
      refine aw_icmp_eq 149 dX8_followChain_25 (by decide) (fun c25 => ?_) (fun c25 => ?_)
      · have d25 := (j_eq (a := ev.toInt) (b := (-9)) (rfl) (rfl)).mp c25
        refine aw_iload 5 dX8_followChain_149 rfl ?_
        refine aw_if_ne 157 dX8_followChain_151 (by decide) (fun c151 => ?_) (fun c151 => ?_)
        · have d151 := mt (j_eq (a := w.toInt) (b := (0)) (rfl) (rfl)).mpr c151
          refine aw_iload 5 dX8_followChain_157 rfl ?_
          refine aw_iconst (1) dX8_followChain_159 (by decide) ?_
          refine aw_icmp_ne 168 dX8_followChain_160 (by decide) (fun c160 => ?_) (fun c160 => ?_)
          · have d160 := mt (j_eq (a := w.toInt) (b := (1)) (rfl) (rfl)).mpr c160
            refine aw_iload 1 dX8_followChain_168 rfl ?_
            subst hQF
            exact aw_iret rfl dX8_followChain_170 (by decide) (by decide) ⟨_, rfl, _, _, _, _, _, _, _, _, _, f5800, f5813, f5814, f5815, f5816, f5817, f5818, k5819, hu1, hv1, huv1, hrc1, hJ1, hlq, trivial⟩
          · have d160 := (j_eq (a := w.toInt) (b := (1)) (rfl) (rfl)).mp c160
            refine aw_iload 2 dX8_followChain_163 rfl ?_
            refine aw_goto 170 dX8_followChain_165 (by decide) ?_
            subst hQF
            exact aw_iret rfl dX8_followChain_170 (by decide) (by decide) ⟨_, rfl, _, _, _, _, _, _, _, _, _, f5800, f5813, f5814, f5815, f5816, f5817, f5818, k5819, hu1, hv1, huv1, hrc1, hJ1, hlq, trivial⟩
        · have d151 := (j_eq (a := w.toInt) (b := (0)) (rfl) (rfl)).mp c151
          refine aw_iload 3 dX8_followChain_154 rfl ?_
          subst hQF
          exact aw_iret rfl dX8_followChain_156 (by decide) (by decide) ⟨_, rfl, _, _, _, _, _, _, _, _, _, f5800, f5813, f5814, f5815, f5816, f5817, f5818, k5819, hu1, hv1, huv1, hrc1, hJ1, hlq, trivial⟩
      · have d25 := mt (j_eq (a := ev.toInt) (b := (-9)) (rfl) (rfl)).mpr c25
        obtain ⟨q, bq, rfl⟩ := he.resolve_left c25
        refine aw_iload_n 6 dX8_followChain_28 rfl rfl ?_
        refine aw_iload 0 dX8_followChain_29 rfl ?_
        refine aw_idiv dX8_followChain_31 (by decide) ?_
        refine aw_toe (nI (y0 / 1)) (nv_div (rfl) (rfl) (by omega) (by decide) (by decide)) ?_
        refine aw_bipush (10) dX8_followChain_32 (by decide) ?_
        refine aw_irem dX8_followChain_34 (by decide) ?_
        refine aw_toe (nI ((y0 / 1) % 10)) (nv_rem (rfl) (rfl) (by omega) (by decide) (by decide)) ?_
        refine aw_iconst (1) dX8_followChain_35 (by decide) ?_
        refine aw_isub dX8_followChain_36 ?_
        refine aw_istore [(10, .int ((nI ((y0 / 1) % 10)) - 1)), (9, .int 1), (8, .int dv), (7, .int sv), (6, .int (nI q)), (5, .int (nI fr)), (4, .int w), (3, .int (nI y0)), (0, .ref (G.1 + 0))] dX8_followChain_37 (by decide) rfl ?_
        refine aw_iload 0 dX8_followChain_39 rfl ?_
        refine aw_if_lt 139 dX8_followChain_41 (by decide) (fun c41 => ?_) (fun c41 => ?_)
        · have d41 := (j_lt (a := ((nI ((y0 / 1) % 10)) - 1).toInt) (b := (0)) (rfl) (rfl)).mp c41
          refine aw_iload 1 dX8_followChain_139 rfl ?_
          refine aw_bipush (10) dX8_followChain_141 (by decide) ?_
          refine aw_idiv dX8_followChain_143 (by decide) ?_
          refine aw_toe 0 (by decide) ?_
          refine aw_istore [(9, .int 0), (10, .int ((nI ((y0 / 1) % 10)) - 1)), (8, .int dv), (7, .int sv), (6, .int (nI q)), (5, .int (nI fr)), (4, .int w), (3, .int (nI y0)), (0, .ref (G.1 + 0))] dX8_followChain_144 (by decide) rfl ?_
          refine aw_goto 16 dX8_followChain_146 (by decide) ?_
          refine aw_lv [(9, .int 0), (8, .int dv), (7, .int sv), (6, .int (nI q)), (5, .int (nI fr)), (4, .int w), (3, .int (nI y0)), (0, .ref (G.1 + 0))] [0, 2, 3, 4, 5, 6, 7, 8] rfl ?_
          exact ih5820 0 (nI q) fr dv sv u1 v1 ro1 co1 rc1 lk1 bs1 wy1 nw1 _ (by omega) (by decide) (Or.inr ⟨_, bq, rfl⟩) (by omega) (hu1) (hv1) (huv1) (hrc1) (hJ1) (hlq) f5800 f5801 f5802 f5803 f5804 f5805 f5806 f5807 f5808 f5809 f5810 f5811 f5812 f5813 f5814 f5815 f5816 f5817 f5818 (k5819)
        · have d41 := mt (j_lt (a := ((nI ((y0 / 1) % 10)) - 1).toInt) (b := (0)) (rfl) (rfl)).mpr c41
          have g0 : 1 ≤ y0 / 1 % 10 := by rw [dig_i (by omega)] at d41; omega
          rw [dig_e g0]
          obtain ⟨su, wa, pt, ce, pv, gg0, gg1, gg2, hpt, bpv, hfz⟩ := hJ1 (fr * 4 + (y0 / 1 % 10 - 1)) (by omega)
          obtain ⟨P, eP⟩ : ∃ P, P = 13 + 3 * (fr * 4 + (y0 / 1 % 10 - 1)) := ⟨_, rfl⟩
          rw [← eP] at gg0 gg1 gg2
          refine aw_aload_n 8 dX8_followChain_44 rfl rfl ?_
          refine aw_iload 5 dX8_followChain_45 rfl ?_
          refine aw_iload 0 dX8_followChain_47 rfl ?_
          refine aw_eV [.int (nI fr), .int (nI (y0 / 1 % 10 - 1))] [] lX8_124 vX8_bestJoining mX8_bestJoining dX8_followChain_49 (bJ (bv := bv) (J := J) (u := u1) (v := v1) (ro := ro1) (co := co1) (rc := rc1) (lk := lk1) (bs := bs1) (wy := wy1) (nw := nw1) (P := P) (pv := pv) (su := su) (wa := wa) (pt := pt) (ce := ce) (m := m) (se := se) (ye := ye) (fi := fi) (W := W) (Sn := Sn) (Z := Z) (Ro := Ro) (Co := Co) (Ba := Ba) (nb := nb) (sp := sp) (fa := fa) (ve := ve) (a := fr) (b := y0 / 1 % 10 - 1) f5800 f5801 f5802 f5803 f5804 f5805 f5806 f5807 f5808 f5809 f5810 f5811 f5812 f5813 f5814 f5815 f5816 f5817 f5818 gg0 gg1 gg2 hu1 hv1 huv1 hrc1 (by omega) hm hse hfi hye (by omega) (by omega) (by omega) (by omega) hpt eP (by omega) (by omega)) f5800 rfl rfl rfl (Nat.le_of_ble_eq_true rfl) (by decide) (by decide) rfl (fun h5835 q5834 => ?_)
          obtain ⟨u15821, v15822, ro15823, co15824, rc15825, lk15826, bs15827, wy15828, nw15829, su15830, wa15831, pt15832, ce15833, f5836, f5837, f5838, f5839, f5840, f5841, f5842, f5843, f5844, k5845, p5846, p5847, p5848, p5849, p5850⟩ := q5834
          have f5851 := rg2_at k5845 (by omega) f5800
          have f5852 := rg2_at k5845 (by omega) f5801
          have f5853 := rg2_at k5845 (by omega) f5802
          have f5854 := rg2_at k5845 (by omega) f5803
          have f5855 := rg2_at k5845 (by omega) f5804
          have f5856 := rg2_at k5845 (by omega) f5805
          have f5857 := rg2_at k5845 (by omega) f5806
          have f5858 := rg2_at k5845 (by omega) f5807
          have f5859 := rg2_at k5845 (by omega) f5808
          have f5860 := rg2_at k5845 (by omega) f5809
          have f5861 := rg2_at k5845 (by omega) f5810
          have f5862 := rg2_at k5845 (by omega) f5811
          have f5863 := rg2_at k5845 (by omega) f5812
          have hJ2 : iJs G jT h5835 := iJs_up hJ1 (k := fr * 4 + (y0 / 1 % 10 - 1)) (by omega) eP (fun j q1 q2 q3 => k5845.2 j (by omega)) f5842 f5843 f5844 p5850 bve trivial
          refine aw_astore [(11, .ref (G.1 + P)), (10, .int (nI (y0 / 1 % 10 - 1))), (9, .int 1), (8, .int dv), (7, .int sv), (6, .int (nI q)), (5, .int (nI fr)), (4, .int w), (3, .int (nI y0)), (0, .ref (G.1 + 0))] dX8_followChain_52 (by decide) rfl ?_
          refine aw_aload 0 dX8_followChain_54 rfl ?_
          refine aw_get fX8_131 dX8_followChain_56 f5842 rfl ?_
          refine aw_iload 5 dX8_followChain_59 rfl ?_
          refine aw_iald q (rfl) (by omega) (by decide) dX8_followChain_61 f5843 ?_
          refine aw_istore [(12, .int (pt15832 q)), (11, .ref (G.1 + P)), (10, .int (nI (y0 / 1 % 10 - 1))), (9, .int 1), (8, .int dv), (7, .int sv), (6, .int (nI q)), (5, .int (nI fr)), (4, .int w), (3, .int (nI y0)), (0, .ref (G.1 + 0))] dX8_followChain_62 (by decide) rfl ?_
          refine aw_iload 0 dX8_followChain_64 rfl ?_
          refine aw_bipush (-9) dX8_followChain_66 (by decide) ?_
          refine aw_icmp_eq 131 dX8_followChain_68 (by decide) (fun c68 => ?_) (fun c68 => ?_)
          · have d68 := (j_eq (a := (pt15832 q).toInt) (b := (-9)) (rfl) (rfl)).mp c68
            refine aw_iload 2 dX8_followChain_131 rfl ?_
            refine aw_istore [(5, .int (nI (y0 / 1 % 10 - 1))), (12, .int (pt15832 q)), (11, .ref (G.1 + P)), (10, .int (nI (y0 / 1 % 10 - 1))), (9, .int 1), (8, .int dv), (7, .int sv), (6, .int (nI q)), (4, .int w), (3, .int (nI y0)), (0, .ref (G.1 + 0))] dX8_followChain_133 (by decide) rfl ?_
            refine aw_iload 1 dX8_followChain_135 rfl ?_
            refine aw_istore [(6, .int (pt15832 q)), (5, .int (nI (y0 / 1 % 10 - 1))), (12, .int (pt15832 q)), (11, .ref (G.1 + P)), (10, .int (nI (y0 / 1 % 10 - 1))), (9, .int 1), (8, .int dv), (7, .int sv), (4, .int w), (3, .int (nI y0)), (0, .ref (G.1 + 0))] dX8_followChain_137 (by decide) rfl ?_
            refine aw_iload 5 dX8_followChain_139 rfl ?_
            refine aw_bipush (10) dX8_followChain_141 (by decide) ?_
            refine aw_idiv dX8_followChain_143 (by decide) ?_
            refine aw_toe 0 (by decide) ?_
            refine aw_istore [(9, .int 0), (6, .int (pt15832 q)), (5, .int (nI (y0 / 1 % 10 - 1))), (12, .int (pt15832 q)), (11, .ref (G.1 + P)), (10, .int (nI (y0 / 1 % 10 - 1))), (8, .int dv), (7, .int sv), (4, .int w), (3, .int (nI y0)), (0, .ref (G.1 + 0))] dX8_followChain_144 (by decide) rfl ?_
            refine aw_goto 16 dX8_followChain_146 (by decide) ?_
            refine aw_lv [(9, .int 0), (8, .int dv), (7, .int sv), (6, .int (pt15832 q)), (5, .int (nI (y0 / 1 % 10 - 1))), (4, .int w), (3, .int (nI y0)), (0, .ref (G.1 + 0))] [0, 6, 7, 1, 2, 8, 9, 10] rfl ?_
            exact ih5820 0 (pt15832 q) (y0 / 1 % 10 - 1) dv sv u15821 v15822 ro15823 co15824 rc15825 lk15826 bs15827 wy15828 nw15829 _ (by omega) (by decide) (p5850 q bq) (by omega) (p5846) (p5847) (p5848) (p5849) (hJ2) (k5845.1.trans hlq) f5851 f5852 f5853 f5854 f5855 f5856 f5857 f5858 f5859 f5860 f5861 f5862 f5863 f5836 f5837 f5838 f5839 f5840 f5841 (grw_r4 (k5819) k5845 (fun j q1 q2 => by omega))
          · have d68 := mt (j_eq (a := (pt15832 q).toInt) (b := (-9)) (rfl) (rfl)).mpr c68
            obtain ⟨q2, bq2, eq2⟩ := (p5850 q (by omega)).resolve_left c68
            rw [eq2]
            refine aw_iinc (j := 5) (sv + 1) [(7, .int (sv + 1)), (12, .int (nI q2)), (11, .ref (G.1 + P)), (10, .int (nI (y0 / 1 % 10 - 1))), (9, .int 1), (8, .int dv), (6, .int (nI q)), (5, .int (nI fr)), (4, .int w), (3, .int (nI y0)), (0, .ref (G.1 + 0))] dX8_followChain_71 rfl (by rfl) (by decide) rfl ?_
            refine aw_aload_n 10 dX8_followChain_74 rfl rfl ?_
            refine aw_get fX8_20 dX8_followChain_75 f5851 rfl ?_
            refine aw_iload 7 dX8_followChain_78 rfl ?_
            refine aw_bipush (10) dX8_followChain_80 (by decide) ?_
            refine aw_imul dX8_followChain_82 ?_
            refine aw_toe (nI (fr * 10)) (nv_mul (rfl) (rfl)) ?_
            refine aw_iload 6 dX8_followChain_83 rfl ?_
            refine aw_iadd dX8_followChain_85 ?_
            refine aw_toe (nI ((fr * 10) + q)) (nv_add (rfl) (rfl)) ?_
            refine aw_iload 3 dX8_followChain_86 rfl ?_
            refine aw_bipush (10) dX8_followChain_88 (by decide) ?_
            refine aw_imul dX8_followChain_90 ?_
            refine aw_toe (nI ((y0 / 1 % 10 - 1) * 10)) (nv_mul (rfl) (rfl)) ?_
            refine aw_iload 1 dX8_followChain_91 rfl ?_
            refine aw_iadd dX8_followChain_93 ?_
            refine aw_toe (nI (((y0 / 1 % 10 - 1) * 10) + q2)) (nv_add (rfl) (rfl)) ?_
            refine aw_dV [.int (nI ((fr * 10) + q)), .int (nI (((y0 / 1 % 10 - 1) * 10) + q2))] [] lX8_121 vX1_likeness mX1_likeness dX8_followChain_94 (aX1_likeness (m := m) (se := se) (ye := ye) (fi := fi) (W := W) (Sn := Sn) (Z := Z) (Ro := Ro) (Co := Co) (Ba := Ba) (nb := nb) (sp := sp) (fa := fa) (ve := ve) (e := (fr * 10) + q) (f := ((y0 / 1 % 10 - 1) * 10) + q2) f5852 f5853 f5854 f5855 f5856 f5857 f5858 f5859 f5860 f5861 f5862 hm hse hfi hye (by omega) (by omega)) f5852 rfl rfl rfl (Nat.le_of_ble_eq_true rfl) (by decide) (by decide) rfl ?_
            refine aw_istore [(13, .int (likeC ye Sn Z Ro Co Ba sp fa ((fr * 10) + q) (((y0 / 1 % 10 - 1) * 10) + q2))), (7, .int (sv + 1)), (12, .int (nI q2)), (11, .ref (G.1 + P)), (10, .int (nI (y0 / 1 % 10 - 1))), (9, .int 1), (8, .int dv), (6, .int (nI q)), (5, .int (nI fr)), (4, .int w), (3, .int (nI y0)), (0, .ref (G.1 + 0))] dX8_followChain_97 (by decide) rfl ?_
            refine aw_iload 6 dX8_followChain_99 rfl ?_
            refine aw_iconst (0) dX8_followChain_101 (by decide) ?_
            refine aw_bipush (100) dX8_followChain_102 (by decide) ?_
            refine aw_iload 0 dX8_followChain_104 rfl ?_
            refine aw_isub dX8_followChain_106 ?_
            refine aw_mmax lX8_251 dX8_followChain_107 (Nat.le_of_ble_eq_true rfl) (by decide) (by decide) ?_
            refine aw_aload 3 dX8_followChain_110 rfl ?_
            refine aw_get fX8_137 dX8_followChain_112 f5842 rfl ?_
            refine aw_iload 7 dX8_followChain_115 rfl ?_
            refine aw_zald q (rfl) (by omega) (by decide) dX8_followChain_117 f5844 ?_
            refine aw_if_eq 125 dX8_followChain_118 (by decide) (fun c118 => ?_) (fun c118 => ?_)
            · have d118 := (j_eq (a := (ce15833 q).toInt) (b := (0)) (rfl) (rfl)).mp c118
              refine aw_bipush (50) dX8_followChain_125 (by decide) ?_
              refine aw_iadd dX8_followChain_127 ?_
              refine aw_iadd dX8_followChain_128 ?_
              refine aw_istore [(8, .int (dv + ((if 0 < (100 - (likeC ye Sn Z Ro Co Ba sp fa ((fr * 10) + q) (((y0 / 1 % 10 - 1) * 10) + q2))) then (100 - (likeC ye Sn Z Ro Co Ba sp fa ((fr * 10) + q) (((y0 / 1 % 10 - 1) * 10) + q2))) else 0) + 50))), (13, .int (likeC ye Sn Z Ro Co Ba sp fa ((fr * 10) + q) (((y0 / 1 % 10 - 1) * 10) + q2))), (7, .int (sv + 1)), (12, .int (nI q2)), (11, .ref (G.1 + P)), (10, .int (nI (y0 / 1 % 10 - 1))), (9, .int 1), (6, .int (nI q)), (5, .int (nI fr)), (4, .int w), (3, .int (nI y0)), (0, .ref (G.1 + 0))] dX8_followChain_129 (by decide) rfl ?_
              refine aw_iload 5 dX8_followChain_131 rfl ?_
              refine aw_istore [(5, .int (nI (y0 / 1 % 10 - 1))), (8, .int (dv + ((if 0 < (100 - (likeC ye Sn Z Ro Co Ba sp fa ((fr * 10) + q) (((y0 / 1 % 10 - 1) * 10) + q2))) then (100 - (likeC ye Sn Z Ro Co Ba sp fa ((fr * 10) + q) (((y0 / 1 % 10 - 1) * 10) + q2))) else 0) + 50))), (13, .int (likeC ye Sn Z Ro Co Ba sp fa ((fr * 10) + q) (((y0 / 1 % 10 - 1) * 10) + q2))), (7, .int (sv + 1)), (12, .int (nI q2)), (11, .ref (G.1 + P)), (10, .int (nI (y0 / 1 % 10 - 1))), (9, .int 1), (6, .int (nI q)), (4, .int w), (3, .int (nI y0)), (0, .ref (G.1 + 0))] dX8_followChain_133 (by decide) rfl ?_
              refine aw_iload 4 dX8_followChain_135 rfl ?_
              refine aw_istore [(6, .int (nI q2)), (5, .int (nI (y0 / 1 % 10 - 1))), (8, .int (dv + ((if 0 < (100 - (likeC ye Sn Z Ro Co Ba sp fa ((fr * 10) + q) (((y0 / 1 % 10 - 1) * 10) + q2))) then (100 - (likeC ye Sn Z Ro Co Ba sp fa ((fr * 10) + q) (((y0 / 1 % 10 - 1) * 10) + q2))) else 0) + 50))), (13, .int (likeC ye Sn Z Ro Co Ba sp fa ((fr * 10) + q) (((y0 / 1 % 10 - 1) * 10) + q2))), (7, .int (sv + 1)), (12, .int (nI q2)), (11, .ref (G.1 + P)), (10, .int (nI (y0 / 1 % 10 - 1))), (9, .int 1), (4, .int w), (3, .int (nI y0)), (0, .ref (G.1 + 0))] dX8_followChain_137 (by decide) rfl ?_
              refine aw_iload 8 dX8_followChain_139 rfl ?_
              refine aw_bipush (10) dX8_followChain_141 (by decide) ?_
              refine aw_idiv dX8_followChain_143 (by decide) ?_
              refine aw_toe 0 (by decide) ?_
              refine aw_istore [(9, .int 0), (6, .int (nI q2)), (5, .int (nI (y0 / 1 % 10 - 1))), (8, .int (dv + ((if 0 < (100 - (likeC ye Sn Z Ro Co Ba sp fa ((fr * 10) + q) (((y0 / 1 % 10 - 1) * 10) + q2))) then (100 - (likeC ye Sn Z Ro Co Ba sp fa ((fr * 10) + q) (((y0 / 1 % 10 - 1) * 10) + q2))) else 0) + 50))), (13, .int (likeC ye Sn Z Ro Co Ba sp fa ((fr * 10) + q) (((y0 / 1 % 10 - 1) * 10) + q2))), (7, .int (sv + 1)), (12, .int (nI q2)), (11, .ref (G.1 + P)), (10, .int (nI (y0 / 1 % 10 - 1))), (4, .int w), (3, .int (nI y0)), (0, .ref (G.1 + 0))] dX8_followChain_144 (by decide) rfl ?_
              refine aw_goto 16 dX8_followChain_146 (by decide) ?_
              refine aw_lv [(9, .int 0), (8, .int (dv + ((if 0 < (100 - (likeC ye Sn Z Ro Co Ba sp fa ((fr * 10) + q) (((y0 / 1 % 10 - 1) * 10) + q2))) then (100 - (likeC ye Sn Z Ro Co Ba sp fa ((fr * 10) + q) (((y0 / 1 % 10 - 1) * 10) + q2))) else 0) + 50))), (7, .int (sv + 1)), (6, .int (nI q2)), (5, .int (nI (y0 / 1 % 10 - 1))), (4, .int w), (3, .int (nI y0)), (0, .ref (G.1 + 0))] [0, 3, 5, 1, 2, 9, 10, 11] rfl ?_
              exact ih5820 0 (nI q2) (y0 / 1 % 10 - 1) (dv + ((if 0 < (100 - (likeC ye Sn Z Ro Co Ba sp fa ((fr * 10) + q) (((y0 / 1 % 10 - 1) * 10) + q2))) then (100 - (likeC ye Sn Z Ro Co Ba sp fa ((fr * 10) + q) (((y0 / 1 % 10 - 1) * 10) + q2))) else 0) + 50)) (sv + 1) u15821 v15822 ro15823 co15824 rc15825 lk15826 bs15827 wy15828 nw15829 _ (by omega) (by decide) (Or.inr ⟨_, bq2, rfl⟩) (by omega) (p5846) (p5847) (p5848) (p5849) (hJ2) (k5845.1.trans hlq) f5851 f5852 f5853 f5854 f5855 f5856 f5857 f5858 f5859 f5860 f5861 f5862 f5863 f5836 f5837 f5838 f5839 f5840 f5841 (grw_r4 (k5819) k5845 (fun j q1 q2 => by omega))
            · have d118 := mt (j_eq (a := (ce15833 q).toInt) (b := (0)) (rfl) (rfl)).mpr c118
              refine aw_iconst (0) dX8_followChain_121 (by decide) ?_
              refine aw_goto 127 dX8_followChain_122 (by decide) ?_
              refine aw_iadd dX8_followChain_127 ?_
              refine aw_iadd dX8_followChain_128 ?_
              refine aw_istore [(8, .int (dv + ((if 0 < (100 - (likeC ye Sn Z Ro Co Ba sp fa ((fr * 10) + q) (((y0 / 1 % 10 - 1) * 10) + q2))) then (100 - (likeC ye Sn Z Ro Co Ba sp fa ((fr * 10) + q) (((y0 / 1 % 10 - 1) * 10) + q2))) else 0) + 0))), (13, .int (likeC ye Sn Z Ro Co Ba sp fa ((fr * 10) + q) (((y0 / 1 % 10 - 1) * 10) + q2))), (7, .int (sv + 1)), (12, .int (nI q2)), (11, .ref (G.1 + P)), (10, .int (nI (y0 / 1 % 10 - 1))), (9, .int 1), (6, .int (nI q)), (5, .int (nI fr)), (4, .int w), (3, .int (nI y0)), (0, .ref (G.1 + 0))] dX8_followChain_129 (by decide) rfl ?_
              refine aw_iload 5 dX8_followChain_131 rfl ?_
              refine aw_istore [(5, .int (nI (y0 / 1 % 10 - 1))), (8, .int (dv + ((if 0 < (100 - (likeC ye Sn Z Ro Co Ba sp fa ((fr * 10) + q) (((y0 / 1 % 10 - 1) * 10) + q2))) then (100 - (likeC ye Sn Z Ro Co Ba sp fa ((fr * 10) + q) (((y0 / 1 % 10 - 1) * 10) + q2))) else 0) + 0))), (13, .int (likeC ye Sn Z Ro Co Ba sp fa ((fr * 10) + q) (((y0 / 1 % 10 - 1) * 10) + q2))), (7, .int (sv + 1)), (12, .int (nI q2)), (11, .ref (G.1 + P)), (10, .int (nI (y0 / 1 % 10 - 1))), (9, .int 1), (6, .int (nI q)), (4, .int w), (3, .int (nI y0)), (0, .ref (G.1 + 0))] dX8_followChain_133 (by decide) rfl ?_
              refine aw_iload 4 dX8_followChain_135 rfl ?_
              refine aw_istore [(6, .int (nI q2)), (5, .int (nI (y0 / 1 % 10 - 1))), (8, .int (dv + ((if 0 < (100 - (likeC ye Sn Z Ro Co Ba sp fa ((fr * 10) + q) (((y0 / 1 % 10 - 1) * 10) + q2))) then (100 - (likeC ye Sn Z Ro Co Ba sp fa ((fr * 10) + q) (((y0 / 1 % 10 - 1) * 10) + q2))) else 0) + 0))), (13, .int (likeC ye Sn Z Ro Co Ba sp fa ((fr * 10) + q) (((y0 / 1 % 10 - 1) * 10) + q2))), (7, .int (sv + 1)), (12, .int (nI q2)), (11, .ref (G.1 + P)), (10, .int (nI (y0 / 1 % 10 - 1))), (9, .int 1), (4, .int w), (3, .int (nI y0)), (0, .ref (G.1 + 0))] dX8_followChain_137 (by decide) rfl ?_
              refine aw_iload 8 dX8_followChain_139 rfl ?_
              refine aw_bipush (10) dX8_followChain_141 (by decide) ?_
              refine aw_idiv dX8_followChain_143 (by decide) ?_
              refine aw_toe 0 (by decide) ?_
              refine aw_istore [(9, .int 0), (6, .int (nI q2)), (5, .int (nI (y0 / 1 % 10 - 1))), (8, .int (dv + ((if 0 < (100 - (likeC ye Sn Z Ro Co Ba sp fa ((fr * 10) + q) (((y0 / 1 % 10 - 1) * 10) + q2))) then (100 - (likeC ye Sn Z Ro Co Ba sp fa ((fr * 10) + q) (((y0 / 1 % 10 - 1) * 10) + q2))) else 0) + 0))), (13, .int (likeC ye Sn Z Ro Co Ba sp fa ((fr * 10) + q) (((y0 / 1 % 10 - 1) * 10) + q2))), (7, .int (sv + 1)), (12, .int (nI q2)), (11, .ref (G.1 + P)), (10, .int (nI (y0 / 1 % 10 - 1))), (4, .int w), (3, .int (nI y0)), (0, .ref (G.1 + 0))] dX8_followChain_144 (by decide) rfl ?_
              refine aw_goto 16 dX8_followChain_146 (by decide) ?_
              refine aw_lv [(9, .int 0), (8, .int (dv + ((if 0 < (100 - (likeC ye Sn Z Ro Co Ba sp fa ((fr * 10) + q) (((y0 / 1 % 10 - 1) * 10) + q2))) then (100 - (likeC ye Sn Z Ro Co Ba sp fa ((fr * 10) + q) (((y0 / 1 % 10 - 1) * 10) + q2))) else 0) + 0))), (7, .int (sv + 1)), (6, .int (nI q2)), (5, .int (nI (y0 / 1 % 10 - 1))), (4, .int w), (3, .int (nI y0)), (0, .ref (G.1 + 0))] [0, 3, 5, 1, 2, 9, 10, 11] rfl ?_
              exact ih5820 0 (nI q2) (y0 / 1 % 10 - 1) (dv + ((if 0 < (100 - (likeC ye Sn Z Ro Co Ba sp fa ((fr * 10) + q) (((y0 / 1 % 10 - 1) * 10) + q2))) then (100 - (likeC ye Sn Z Ro Co Ba sp fa ((fr * 10) + q) (((y0 / 1 % 10 - 1) * 10) + q2))) else 0) + 0)) (sv + 1) u15821 v15822 ro15823 co15824 rc15825 lk15826 bs15827 wy15828 nw15829 _ (by omega) (by decide) (Or.inr ⟨_, bq2, rfl⟩) (by omega) (p5846) (p5847) (p5848) (p5849) (hJ2) (k5845.1.trans hlq) f5851 f5852 f5853 f5854 f5855 f5856 f5857 f5858 f5859 f5860 f5861 f5862 f5863 f5836 f5837 f5838 f5839 f5840 f5841 (grw_r4 (k5819) k5845 (fun j q1 q2 => by omega))
    · refine aw_lv [(9, .int 10), (8, .int dv), (7, .int sv), (6, .int ev), (5, .int (nI fr)), (4, .int w), (3, .int (nI y0)), (0, .ref (G.1 + 0))] [0, 1, 2, 3, 4, 5, 6, 7] rfl ?_
      refine aw_iload 0 dX8_followChain_16 rfl ?_
      refine aw_if_le 149 dX8_followChain_18 (by decide) (fun c18 => absurd c18 (by decide)) (fun c18 => ?_)
      refine aw_iload 3 dX8_followChain_21 rfl ?_
      refine aw_bipush (-9) dX8_followChain_23 (by decide) ?_
      refine aw_icmp_eq 149 dX8_followChain_25 (by decide) (fun c25 => ?_) (fun c25 => ?_)
      · have d25 := (j_eq (a := ev.toInt) (b := (-9)) (rfl) (rfl)).mp c25
        refine aw_iload 5 dX8_followChain_149 rfl ?_
        refine aw_if_ne 157 dX8_followChain_151 (by decide) (fun c151 => ?_) (fun c151 => ?_)
        · have d151 := mt (j_eq (a := w.toInt) (b := (0)) (rfl) (rfl)).mpr c151
          refine aw_iload 5 dX8_followChain_157 rfl ?_
          refine aw_iconst (1) dX8_followChain_159 (by decide) ?_
          refine aw_icmp_ne 168 dX8_followChain_160 (by decide) (fun c160 => ?_) (fun c160 => ?_)
          · have d160 := mt (j_eq (a := w.toInt) (b := (1)) (rfl) (rfl)).mpr c160
            refine aw_iload 1 dX8_followChain_168 rfl ?_
            subst hQF
            exact aw_iret rfl dX8_followChain_170 (by decide) (by decide) ⟨_, rfl, _, _, _, _, _, _, _, _, _, f5800, f5813, f5814, f5815, f5816, f5817, f5818, k5819, hu1, hv1, huv1, hrc1, hJ1, hlq, trivial⟩
          · have d160 := (j_eq (a := w.toInt) (b := (1)) (rfl) (rfl)).mp c160
            refine aw_iload 2 dX8_followChain_163 rfl ?_
            refine aw_goto 170 dX8_followChain_165 (by decide) ?_
            subst hQF
            exact aw_iret rfl dX8_followChain_170 (by decide) (by decide) ⟨_, rfl, _, _, _, _, _, _, _, _, _, f5800, f5813, f5814, f5815, f5816, f5817, f5818, k5819, hu1, hv1, huv1, hrc1, hJ1, hlq, trivial⟩
        · have d151 := (j_eq (a := w.toInt) (b := (0)) (rfl) (rfl)).mp c151
          refine aw_iload 3 dX8_followChain_154 rfl ?_
          subst hQF
          exact aw_iret rfl dX8_followChain_156 (by decide) (by decide) ⟨_, rfl, _, _, _, _, _, _, _, _, _, f5800, f5813, f5814, f5815, f5816, f5817, f5818, k5819, hu1, hv1, huv1, hrc1, hJ1, hlq, trivial⟩
      · have d25 := mt (j_eq (a := ev.toInt) (b := (-9)) (rfl) (rfl)).mpr c25
        obtain ⟨q, bq, rfl⟩ := he.resolve_left c25
        refine aw_iload_n 6 dX8_followChain_28 rfl rfl ?_
        refine aw_iload 0 dX8_followChain_29 rfl ?_
        refine aw_idiv dX8_followChain_31 (by decide) ?_
        refine aw_toe (nI (y0 / 10)) (nv_div (rfl) (rfl) (by omega) (by decide) (by decide)) ?_
        refine aw_bipush (10) dX8_followChain_32 (by decide) ?_
        refine aw_irem dX8_followChain_34 (by decide) ?_
        refine aw_toe (nI ((y0 / 10) % 10)) (nv_rem (rfl) (rfl) (by omega) (by decide) (by decide)) ?_
        refine aw_iconst (1) dX8_followChain_35 (by decide) ?_
        refine aw_isub dX8_followChain_36 ?_
        refine aw_istore [(10, .int ((nI ((y0 / 10) % 10)) - 1)), (9, .int 10), (8, .int dv), (7, .int sv), (6, .int (nI q)), (5, .int (nI fr)), (4, .int w), (3, .int (nI y0)), (0, .ref (G.1 + 0))] dX8_followChain_37 (by decide) rfl ?_
        refine aw_iload 0 dX8_followChain_39 rfl ?_
        refine aw_if_lt 139 dX8_followChain_41 (by decide) (fun c41 => ?_) (fun c41 => ?_)
        · have d41 := (j_lt (a := ((nI ((y0 / 10) % 10)) - 1).toInt) (b := (0)) (rfl) (rfl)).mp c41
          refine aw_iload 1 dX8_followChain_139 rfl ?_
          refine aw_bipush (10) dX8_followChain_141 (by decide) ?_
          refine aw_idiv dX8_followChain_143 (by decide) ?_
          refine aw_toe 1 (by decide) ?_
          refine aw_istore [(9, .int 1), (10, .int ((nI ((y0 / 10) % 10)) - 1)), (8, .int dv), (7, .int sv), (6, .int (nI q)), (5, .int (nI fr)), (4, .int w), (3, .int (nI y0)), (0, .ref (G.1 + 0))] dX8_followChain_144 (by decide) rfl ?_
          refine aw_goto 16 dX8_followChain_146 (by decide) ?_
          refine aw_lv [(9, .int 1), (8, .int dv), (7, .int sv), (6, .int (nI q)), (5, .int (nI fr)), (4, .int w), (3, .int (nI y0)), (0, .ref (G.1 + 0))] [0, 2, 3, 4, 5, 6, 7, 8] rfl ?_
          exact ih5820 1 (nI q) fr dv sv u1 v1 ro1 co1 rc1 lk1 bs1 wy1 nw1 _ (by omega) (by decide) (Or.inr ⟨_, bq, rfl⟩) (by omega) (hu1) (hv1) (huv1) (hrc1) (hJ1) (hlq) f5800 f5801 f5802 f5803 f5804 f5805 f5806 f5807 f5808 f5809 f5810 f5811 f5812 f5813 f5814 f5815 f5816 f5817 f5818 (k5819)
        · have d41 := mt (j_lt (a := ((nI ((y0 / 10) % 10)) - 1).toInt) (b := (0)) (rfl) (rfl)).mpr c41
          have g0 : 1 ≤ y0 / 10 % 10 := by rw [dig_i (by omega)] at d41; omega
          rw [dig_e g0]
          obtain ⟨su, wa, pt, ce, pv, gg0, gg1, gg2, hpt, bpv, hfz⟩ := hJ1 (fr * 4 + (y0 / 10 % 10 - 1)) (by omega)
          obtain ⟨P, eP⟩ : ∃ P, P = 13 + 3 * (fr * 4 + (y0 / 10 % 10 - 1)) := ⟨_, rfl⟩
          rw [← eP] at gg0 gg1 gg2
          refine aw_aload_n 8 dX8_followChain_44 rfl rfl ?_
          refine aw_iload 5 dX8_followChain_45 rfl ?_
          refine aw_iload 0 dX8_followChain_47 rfl ?_
          refine aw_eV [.int (nI fr), .int (nI (y0 / 10 % 10 - 1))] [] lX8_124 vX8_bestJoining mX8_bestJoining dX8_followChain_49 (bJ (bv := bv) (J := J) (u := u1) (v := v1) (ro := ro1) (co := co1) (rc := rc1) (lk := lk1) (bs := bs1) (wy := wy1) (nw := nw1) (P := P) (pv := pv) (su := su) (wa := wa) (pt := pt) (ce := ce) (m := m) (se := se) (ye := ye) (fi := fi) (W := W) (Sn := Sn) (Z := Z) (Ro := Ro) (Co := Co) (Ba := Ba) (nb := nb) (sp := sp) (fa := fa) (ve := ve) (a := fr) (b := y0 / 10 % 10 - 1) f5800 f5801 f5802 f5803 f5804 f5805 f5806 f5807 f5808 f5809 f5810 f5811 f5812 f5813 f5814 f5815 f5816 f5817 f5818 gg0 gg1 gg2 hu1 hv1 huv1 hrc1 (by omega) hm hse hfi hye (by omega) (by omega) (by omega) (by omega) hpt eP (by omega) (by omega)) f5800 rfl rfl rfl (Nat.le_of_ble_eq_true rfl) (by decide) (by decide) rfl (fun h5878 q5877 => ?_)
          obtain ⟨u15864, v15865, ro15866, co15867, rc15868, lk15869, bs15870, wy15871, nw15872, su15873, wa15874, pt15875, ce15876, f5879, f5880, f5881, f5882, f5883, f5884, f5885, f5886, f5887, k5888, p5889, p5890, p5891, p5892, p5893⟩ := q5877
          have f5894 := rg2_at k5888 (by omega) f5800
          have f5895 := rg2_at k5888 (by omega) f5801
          have f5896 := rg2_at k5888 (by omega) f5802
          have f5897 := rg2_at k5888 (by omega) f5803
          have f5898 := rg2_at k5888 (by omega) f5804
          have f5899 := rg2_at k5888 (by omega) f5805
          have f5900 := rg2_at k5888 (by omega) f5806
          have f5901 := rg2_at k5888 (by omega) f5807
          have f5902 := rg2_at k5888 (by omega) f5808
          have f5903 := rg2_at k5888 (by omega) f5809
          have f5904 := rg2_at k5888 (by omega) f5810
          have f5905 := rg2_at k5888 (by omega) f5811
          have f5906 := rg2_at k5888 (by omega) f5812
          have hJ2 : iJs G jT h5878 := iJs_up hJ1 (k := fr * 4 + (y0 / 10 % 10 - 1)) (by omega) eP (fun j q1 q2 q3 => k5888.2 j (by omega)) f5885 f5886 f5887 p5893 bve trivial
          refine aw_astore [(11, .ref (G.1 + P)), (10, .int (nI (y0 / 10 % 10 - 1))), (9, .int 10), (8, .int dv), (7, .int sv), (6, .int (nI q)), (5, .int (nI fr)), (4, .int w), (3, .int (nI y0)), (0, .ref (G.1 + 0))] dX8_followChain_52 (by decide) rfl ?_
          refine aw_aload 0 dX8_followChain_54 rfl ?_
          refine aw_get fX8_131 dX8_followChain_56 f5885 rfl ?_
          refine aw_iload 5 dX8_followChain_59 rfl ?_
          refine aw_iald q (rfl) (by omega) (by decide) dX8_followChain_61 f5886 ?_
          refine aw_istore [(12, .int (pt15875 q)), (11, .ref (G.1 + P)), (10, .int (nI (y0 / 10 % 10 - 1))), (9, .int 10), (8, .int dv), (7, .int sv), (6, .int (nI q)), (5, .int (nI fr)), (4, .int w), (3, .int (nI y0)), (0, .ref (G.1 + 0))] dX8_followChain_62 (by decide) rfl ?_
          refine aw_iload 0 dX8_followChain_64 rfl ?_
          refine aw_bipush (-9) dX8_followChain_66 (by decide) ?_
          refine aw_icmp_eq 131 dX8_followChain_68 (by decide) (fun c68 => ?_) (fun c68 => ?_)
          · have d68 := (j_eq (a := (pt15875 q).toInt) (b := (-9)) (rfl) (rfl)).mp c68
            refine aw_iload 2 dX8_followChain_131 rfl ?_
            refine aw_istore [(5, .int (nI (y0 / 10 % 10 - 1))), (12, .int (pt15875 q)), (11, .ref (G.1 + P)), (10, .int (nI (y0 / 10 % 10 - 1))), (9, .int 10), (8, .int dv), (7, .int sv), (6, .int (nI q)), (4, .int w), (3, .int (nI y0)), (0, .ref (G.1 + 0))] dX8_followChain_133 (by decide) rfl ?_
            refine aw_iload 1 dX8_followChain_135 rfl ?_
            refine aw_istore [(6, .int (pt15875 q)), (5, .int (nI (y0 / 10 % 10 - 1))), (12, .int (pt15875 q)), (11, .ref (G.1 + P)), (10, .int (nI (y0 / 10 % 10 - 1))), (9, .int 10), (8, .int dv), (7, .int sv), (4, .int w), (3, .int (nI y0)), (0, .ref (G.1 + 0))] dX8_followChain_137 (by decide) rfl ?_
            refine aw_iload 5 dX8_followChain_139 rfl ?_
            refine aw_bipush (10) dX8_followChain_141 (by decide) ?_
            refine aw_idiv dX8_followChain_143 (by decide) ?_
            refine aw_toe 1 (by decide) ?_
            refine aw_istore [(9, .int 1), (6, .int (pt15875 q)), (5, .int (nI (y0 / 10 % 10 - 1))), (12, .int (pt15875 q)), (11, .ref (G.1 + P)), (10, .int (nI (y0 / 10 % 10 - 1))), (8, .int dv), (7, .int sv), (4, .int w), (3, .int (nI y0)), (0, .ref (G.1 + 0))] dX8_followChain_144 (by decide) rfl ?_
            refine aw_goto 16 dX8_followChain_146 (by decide) ?_
            refine aw_lv [(9, .int 1), (8, .int dv), (7, .int sv), (6, .int (pt15875 q)), (5, .int (nI (y0 / 10 % 10 - 1))), (4, .int w), (3, .int (nI y0)), (0, .ref (G.1 + 0))] [0, 6, 7, 1, 2, 8, 9, 10] rfl ?_
            exact ih5820 1 (pt15875 q) (y0 / 10 % 10 - 1) dv sv u15864 v15865 ro15866 co15867 rc15868 lk15869 bs15870 wy15871 nw15872 _ (by omega) (by decide) (p5893 q bq) (by omega) (p5889) (p5890) (p5891) (p5892) (hJ2) (k5888.1.trans hlq) f5894 f5895 f5896 f5897 f5898 f5899 f5900 f5901 f5902 f5903 f5904 f5905 f5906 f5879 f5880 f5881 f5882 f5883 f5884 (grw_r4 (k5819) k5888 (fun j q1 q2 => by omega))
          · have d68 := mt (j_eq (a := (pt15875 q).toInt) (b := (-9)) (rfl) (rfl)).mpr c68
            obtain ⟨q2, bq2, eq2⟩ := (p5893 q (by omega)).resolve_left c68
            rw [eq2]
            refine aw_iinc (j := 5) (sv + 1) [(7, .int (sv + 1)), (12, .int (nI q2)), (11, .ref (G.1 + P)), (10, .int (nI (y0 / 10 % 10 - 1))), (9, .int 10), (8, .int dv), (6, .int (nI q)), (5, .int (nI fr)), (4, .int w), (3, .int (nI y0)), (0, .ref (G.1 + 0))] dX8_followChain_71 rfl (by rfl) (by decide) rfl ?_
            refine aw_aload_n 10 dX8_followChain_74 rfl rfl ?_
            refine aw_get fX8_20 dX8_followChain_75 f5894 rfl ?_
            refine aw_iload 7 dX8_followChain_78 rfl ?_
            refine aw_bipush (10) dX8_followChain_80 (by decide) ?_
            refine aw_imul dX8_followChain_82 ?_
            refine aw_toe (nI (fr * 10)) (nv_mul (rfl) (rfl)) ?_
            refine aw_iload 6 dX8_followChain_83 rfl ?_
            refine aw_iadd dX8_followChain_85 ?_
            refine aw_toe (nI ((fr * 10) + q)) (nv_add (rfl) (rfl)) ?_
            refine aw_iload 3 dX8_followChain_86 rfl ?_
            refine aw_bipush (10) dX8_followChain_88 (by decide) ?_
            refine aw_imul dX8_followChain_90 ?_
            refine aw_toe (nI ((y0 / 10 % 10 - 1) * 10)) (nv_mul (rfl) (rfl)) ?_
            refine aw_iload 1 dX8_followChain_91 rfl ?_
            refine aw_iadd dX8_followChain_93 ?_
            refine aw_toe (nI (((y0 / 10 % 10 - 1) * 10) + q2)) (nv_add (rfl) (rfl)) ?_
            refine aw_dV [.int (nI ((fr * 10) + q)), .int (nI (((y0 / 10 % 10 - 1) * 10) + q2))] [] lX8_121 vX1_likeness mX1_likeness dX8_followChain_94 (aX1_likeness (m := m) (se := se) (ye := ye) (fi := fi) (W := W) (Sn := Sn) (Z := Z) (Ro := Ro) (Co := Co) (Ba := Ba) (nb := nb) (sp := sp) (fa := fa) (ve := ve) (e := (fr * 10) + q) (f := ((y0 / 10 % 10 - 1) * 10) + q2) f5895 f5896 f5897 f5898 f5899 f5900 f5901 f5902 f5903 f5904 f5905 hm hse hfi hye (by omega) (by omega)) f5895 rfl rfl rfl (Nat.le_of_ble_eq_true rfl) (by decide) (by decide) rfl ?_
            refine aw_istore [(13, .int (likeC ye Sn Z Ro Co Ba sp fa ((fr * 10) + q) (((y0 / 10 % 10 - 1) * 10) + q2))), (7, .int (sv + 1)), (12, .int (nI q2)), (11, .ref (G.1 + P)), (10, .int (nI (y0 / 10 % 10 - 1))), (9, .int 10), (8, .int dv), (6, .int (nI q)), (5, .int (nI fr)), (4, .int w), (3, .int (nI y0)), (0, .ref (G.1 + 0))] dX8_followChain_97 (by decide) rfl ?_
            refine aw_iload 6 dX8_followChain_99 rfl ?_
            refine aw_iconst (0) dX8_followChain_101 (by decide) ?_
            refine aw_bipush (100) dX8_followChain_102 (by decide) ?_
            refine aw_iload 0 dX8_followChain_104 rfl ?_
            refine aw_isub dX8_followChain_106 ?_
            refine aw_mmax lX8_251 dX8_followChain_107 (Nat.le_of_ble_eq_true rfl) (by decide) (by decide) ?_
            refine aw_aload 3 dX8_followChain_110 rfl ?_
            refine aw_get fX8_137 dX8_followChain_112 f5885 rfl ?_
            refine aw_iload 7 dX8_followChain_115 rfl ?_
            refine aw_zald q (rfl) (by omega) (by decide) dX8_followChain_117 f5887 ?_
            refine aw_if_eq 125 dX8_followChain_118 (by decide) (fun c118 => ?_) (fun c118 => ?_)
            · have d118 := (j_eq (a := (ce15876 q).toInt) (b := (0)) (rfl) (rfl)).mp c118
              refine aw_bipush (50) dX8_followChain_125 (by decide) ?_
              refine aw_iadd dX8_followChain_127 ?_
              refine aw_iadd dX8_followChain_128 ?_
              refine aw_istore [(8, .int (dv + ((if 0 < (100 - (likeC ye Sn Z Ro Co Ba sp fa ((fr * 10) + q) (((y0 / 10 % 10 - 1) * 10) + q2))) then (100 - (likeC ye Sn Z Ro Co Ba sp fa ((fr * 10) + q) (((y0 / 10 % 10 - 1) * 10) + q2))) else 0) + 50))), (13, .int (likeC ye Sn Z Ro Co Ba sp fa ((fr * 10) + q) (((y0 / 10 % 10 - 1) * 10) + q2))), (7, .int (sv + 1)), (12, .int (nI q2)), (11, .ref (G.1 + P)), (10, .int (nI (y0 / 10 % 10 - 1))), (9, .int 10), (6, .int (nI q)), (5, .int (nI fr)), (4, .int w), (3, .int (nI y0)), (0, .ref (G.1 + 0))] dX8_followChain_129 (by decide) rfl ?_
              refine aw_iload 5 dX8_followChain_131 rfl ?_
              refine aw_istore [(5, .int (nI (y0 / 10 % 10 - 1))), (8, .int (dv + ((if 0 < (100 - (likeC ye Sn Z Ro Co Ba sp fa ((fr * 10) + q) (((y0 / 10 % 10 - 1) * 10) + q2))) then (100 - (likeC ye Sn Z Ro Co Ba sp fa ((fr * 10) + q) (((y0 / 10 % 10 - 1) * 10) + q2))) else 0) + 50))), (13, .int (likeC ye Sn Z Ro Co Ba sp fa ((fr * 10) + q) (((y0 / 10 % 10 - 1) * 10) + q2))), (7, .int (sv + 1)), (12, .int (nI q2)), (11, .ref (G.1 + P)), (10, .int (nI (y0 / 10 % 10 - 1))), (9, .int 10), (6, .int (nI q)), (4, .int w), (3, .int (nI y0)), (0, .ref (G.1 + 0))] dX8_followChain_133 (by decide) rfl ?_
              refine aw_iload 4 dX8_followChain_135 rfl ?_
              refine aw_istore [(6, .int (nI q2)), (5, .int (nI (y0 / 10 % 10 - 1))), (8, .int (dv + ((if 0 < (100 - (likeC ye Sn Z Ro Co Ba sp fa ((fr * 10) + q) (((y0 / 10 % 10 - 1) * 10) + q2))) then (100 - (likeC ye Sn Z Ro Co Ba sp fa ((fr * 10) + q) (((y0 / 10 % 10 - 1) * 10) + q2))) else 0) + 50))), (13, .int (likeC ye Sn Z Ro Co Ba sp fa ((fr * 10) + q) (((y0 / 10 % 10 - 1) * 10) + q2))), (7, .int (sv + 1)), (12, .int (nI q2)), (11, .ref (G.1 + P)), (10, .int (nI (y0 / 10 % 10 - 1))), (9, .int 10), (4, .int w), (3, .int (nI y0)), (0, .ref (G.1 + 0))] dX8_followChain_137 (by decide) rfl ?_
              refine aw_iload 8 dX8_followChain_139 rfl ?_
              refine aw_bipush (10) dX8_followChain_141 (by decide) ?_
              refine aw_idiv dX8_followChain_143 (by decide) ?_
              refine aw_toe 1 (by decide) ?_
              refine aw_istore [(9, .int 1), (6, .int (nI q2)), (5, .int (nI (y0 / 10 % 10 - 1))), (8, .int (dv + ((if 0 < (100 - (likeC ye Sn Z Ro Co Ba sp fa ((fr * 10) + q) (((y0 / 10 % 10 - 1) * 10) + q2))) then (100 - (likeC ye Sn Z Ro Co Ba sp fa ((fr * 10) + q) (((y0 / 10 % 10 - 1) * 10) + q2))) else 0) + 50))), (13, .int (likeC ye Sn Z Ro Co Ba sp fa ((fr * 10) + q) (((y0 / 10 % 10 - 1) * 10) + q2))), (7, .int (sv + 1)), (12, .int (nI q2)), (11, .ref (G.1 + P)), (10, .int (nI (y0 / 10 % 10 - 1))), (4, .int w), (3, .int (nI y0)), (0, .ref (G.1 + 0))] dX8_followChain_144 (by decide) rfl ?_
              refine aw_goto 16 dX8_followChain_146 (by decide) ?_
              refine aw_lv [(9, .int 1), (8, .int (dv + ((if 0 < (100 - (likeC ye Sn Z Ro Co Ba sp fa ((fr * 10) + q) (((y0 / 10 % 10 - 1) * 10) + q2))) then (100 - (likeC ye Sn Z Ro Co Ba sp fa ((fr * 10) + q) (((y0 / 10 % 10 - 1) * 10) + q2))) else 0) + 50))), (7, .int (sv + 1)), (6, .int (nI q2)), (5, .int (nI (y0 / 10 % 10 - 1))), (4, .int w), (3, .int (nI y0)), (0, .ref (G.1 + 0))] [0, 3, 5, 1, 2, 9, 10, 11] rfl ?_
              exact ih5820 1 (nI q2) (y0 / 10 % 10 - 1) (dv + ((if 0 < (100 - (likeC ye Sn Z Ro Co Ba sp fa ((fr * 10) + q) (((y0 / 10 % 10 - 1) * 10) + q2))) then (100 - (likeC ye Sn Z Ro Co Ba sp fa ((fr * 10) + q) (((y0 / 10 % 10 - 1) * 10) + q2))) else 0) + 50)) (sv + 1) u15864 v15865 ro15866 co15867 rc15868 lk15869 bs15870 wy15871 nw15872 _ (by omega) (by decide) (Or.inr ⟨_, bq2, rfl⟩) (by omega) (p5889) (p5890) (p5891) (p5892) (hJ2) (k5888.1.trans hlq) f5894 f5895 f5896 f5897 f5898 f5899 f5900 f5901 f5902 f5903 f5904 f5905 f5906 f5879 f5880 f5881 f5882 f5883 f5884 (grw_r4 (k5819) k5888 (fun j q1 q2 => by omega))
            · have d118 := mt (j_eq (a := (ce15876 q).toInt) (b := (0)) (rfl) (rfl)).mpr c118
              refine aw_iconst (0) dX8_followChain_121 (by decide) ?_
              refine aw_goto 127 dX8_followChain_122 (by decide) ?_
              refine aw_iadd dX8_followChain_127 ?_
              refine aw_iadd dX8_followChain_128 ?_
              refine aw_istore [(8, .int (dv + ((if 0 < (100 - (likeC ye Sn Z Ro Co Ba sp fa ((fr * 10) + q) (((y0 / 10 % 10 - 1) * 10) + q2))) then (100 - (likeC ye Sn Z Ro Co Ba sp fa ((fr * 10) + q) (((y0 / 10 % 10 - 1) * 10) + q2))) else 0) + 0))), (13, .int (likeC ye Sn Z Ro Co Ba sp fa ((fr * 10) + q) (((y0 / 10 % 10 - 1) * 10) + q2))), (7, .int (sv + 1)), (12, .int (nI q2)), (11, .ref (G.1 + P)), (10, .int (nI (y0 / 10 % 10 - 1))), (9, .int 10), (6, .int (nI q)), (5, .int (nI fr)), (4, .int w), (3, .int (nI y0)), (0, .ref (G.1 + 0))] dX8_followChain_129 (by decide) rfl ?_
              refine aw_iload 5 dX8_followChain_131 rfl ?_
              refine aw_istore [(5, .int (nI (y0 / 10 % 10 - 1))), (8, .int (dv + ((if 0 < (100 - (likeC ye Sn Z Ro Co Ba sp fa ((fr * 10) + q) (((y0 / 10 % 10 - 1) * 10) + q2))) then (100 - (likeC ye Sn Z Ro Co Ba sp fa ((fr * 10) + q) (((y0 / 10 % 10 - 1) * 10) + q2))) else 0) + 0))), (13, .int (likeC ye Sn Z Ro Co Ba sp fa ((fr * 10) + q) (((y0 / 10 % 10 - 1) * 10) + q2))), (7, .int (sv + 1)), (12, .int (nI q2)), (11, .ref (G.1 + P)), (10, .int (nI (y0 / 10 % 10 - 1))), (9, .int 10), (6, .int (nI q)), (4, .int w), (3, .int (nI y0)), (0, .ref (G.1 + 0))] dX8_followChain_133 (by decide) rfl ?_
              refine aw_iload 4 dX8_followChain_135 rfl ?_
              refine aw_istore [(6, .int (nI q2)), (5, .int (nI (y0 / 10 % 10 - 1))), (8, .int (dv + ((if 0 < (100 - (likeC ye Sn Z Ro Co Ba sp fa ((fr * 10) + q) (((y0 / 10 % 10 - 1) * 10) + q2))) then (100 - (likeC ye Sn Z Ro Co Ba sp fa ((fr * 10) + q) (((y0 / 10 % 10 - 1) * 10) + q2))) else 0) + 0))), (13, .int (likeC ye Sn Z Ro Co Ba sp fa ((fr * 10) + q) (((y0 / 10 % 10 - 1) * 10) + q2))), (7, .int (sv + 1)), (12, .int (nI q2)), (11, .ref (G.1 + P)), (10, .int (nI (y0 / 10 % 10 - 1))), (9, .int 10), (4, .int w), (3, .int (nI y0)), (0, .ref (G.1 + 0))] dX8_followChain_137 (by decide) rfl ?_
              refine aw_iload 8 dX8_followChain_139 rfl ?_
              refine aw_bipush (10) dX8_followChain_141 (by decide) ?_
              refine aw_idiv dX8_followChain_143 (by decide) ?_
              refine aw_toe 1 (by decide) ?_
              refine aw_istore [(9, .int 1), (6, .int (nI q2)), (5, .int (nI (y0 / 10 % 10 - 1))), (8, .int (dv + ((if 0 < (100 - (likeC ye Sn Z Ro Co Ba sp fa ((fr * 10) + q) (((y0 / 10 % 10 - 1) * 10) + q2))) then (100 - (likeC ye Sn Z Ro Co Ba sp fa ((fr * 10) + q) (((y0 / 10 % 10 - 1) * 10) + q2))) else 0) + 0))), (13, .int (likeC ye Sn Z Ro Co Ba sp fa ((fr * 10) + q) (((y0 / 10 % 10 - 1) * 10) + q2))), (7, .int (sv + 1)), (12, .int (nI q2)), (11, .ref (G.1 + P)), (10, .int (nI (y0 / 10 % 10 - 1))), (4, .int w), (3, .int (nI y0)), (0, .ref (G.1 + 0))] dX8_followChain_144 (by decide) rfl ?_
              refine aw_goto 16 dX8_followChain_146 (by decide) ?_
              refine aw_lv [(9, .int 1), (8, .int (dv + ((if 0 < (100 - (likeC ye Sn Z Ro Co Ba sp fa ((fr * 10) + q) (((y0 / 10 % 10 - 1) * 10) + q2))) then (100 - (likeC ye Sn Z Ro Co Ba sp fa ((fr * 10) + q) (((y0 / 10 % 10 - 1) * 10) + q2))) else 0) + 0))), (7, .int (sv + 1)), (6, .int (nI q2)), (5, .int (nI (y0 / 10 % 10 - 1))), (4, .int w), (3, .int (nI y0)), (0, .ref (G.1 + 0))] [0, 3, 5, 1, 2, 9, 10, 11] rfl ?_
              exact ih5820 1 (nI q2) (y0 / 10 % 10 - 1) (dv + ((if 0 < (100 - (likeC ye Sn Z Ro Co Ba sp fa ((fr * 10) + q) (((y0 / 10 % 10 - 1) * 10) + q2))) then (100 - (likeC ye Sn Z Ro Co Ba sp fa ((fr * 10) + q) (((y0 / 10 % 10 - 1) * 10) + q2))) else 0) + 0)) (sv + 1) u15864 v15865 ro15866 co15867 rc15868 lk15869 bs15870 wy15871 nw15872 _ (by omega) (by decide) (Or.inr ⟨_, bq2, rfl⟩) (by omega) (p5889) (p5890) (p5891) (p5892) (hJ2) (k5888.1.trans hlq) f5894 f5895 f5896 f5897 f5898 f5899 f5900 f5901 f5902 f5903 f5904 f5905 f5906 f5879 f5880 f5881 f5882 f5883 f5884 (grw_r4 (k5819) k5888 (fun j q1 q2 => by omega))
    · refine aw_lv [(9, .int 100), (8, .int dv), (7, .int sv), (6, .int ev), (5, .int (nI fr)), (4, .int w), (3, .int (nI y0)), (0, .ref (G.1 + 0))] [0, 1, 2, 3, 4, 5, 6, 7] rfl ?_
      refine aw_iload 0 dX8_followChain_16 rfl ?_
      refine aw_if_le 149 dX8_followChain_18 (by decide) (fun c18 => absurd c18 (by decide)) (fun c18 => ?_)
      refine aw_iload 3 dX8_followChain_21 rfl ?_
      refine aw_bipush (-9) dX8_followChain_23 (by decide) ?_
      refine aw_icmp_eq 149 dX8_followChain_25 (by decide) (fun c25 => ?_) (fun c25 => ?_)
      · have d25 := (j_eq (a := ev.toInt) (b := (-9)) (rfl) (rfl)).mp c25
        refine aw_iload 5 dX8_followChain_149 rfl ?_
        refine aw_if_ne 157 dX8_followChain_151 (by decide) (fun c151 => ?_) (fun c151 => ?_)
        · have d151 := mt (j_eq (a := w.toInt) (b := (0)) (rfl) (rfl)).mpr c151
          refine aw_iload 5 dX8_followChain_157 rfl ?_
          refine aw_iconst (1) dX8_followChain_159 (by decide) ?_
          refine aw_icmp_ne 168 dX8_followChain_160 (by decide) (fun c160 => ?_) (fun c160 => ?_)
          · have d160 := mt (j_eq (a := w.toInt) (b := (1)) (rfl) (rfl)).mpr c160
            refine aw_iload 1 dX8_followChain_168 rfl ?_
            subst hQF
            exact aw_iret rfl dX8_followChain_170 (by decide) (by decide) ⟨_, rfl, _, _, _, _, _, _, _, _, _, f5800, f5813, f5814, f5815, f5816, f5817, f5818, k5819, hu1, hv1, huv1, hrc1, hJ1, hlq, trivial⟩
          · have d160 := (j_eq (a := w.toInt) (b := (1)) (rfl) (rfl)).mp c160
            refine aw_iload 2 dX8_followChain_163 rfl ?_
            refine aw_goto 170 dX8_followChain_165 (by decide) ?_
            subst hQF
            exact aw_iret rfl dX8_followChain_170 (by decide) (by decide) ⟨_, rfl, _, _, _, _, _, _, _, _, _, f5800, f5813, f5814, f5815, f5816, f5817, f5818, k5819, hu1, hv1, huv1, hrc1, hJ1, hlq, trivial⟩
        · have d151 := (j_eq (a := w.toInt) (b := (0)) (rfl) (rfl)).mp c151
          refine aw_iload 3 dX8_followChain_154 rfl ?_
          subst hQF
          exact aw_iret rfl dX8_followChain_156 (by decide) (by decide) ⟨_, rfl, _, _, _, _, _, _, _, _, _, f5800, f5813, f5814, f5815, f5816, f5817, f5818, k5819, hu1, hv1, huv1, hrc1, hJ1, hlq, trivial⟩
      · have d25 := mt (j_eq (a := ev.toInt) (b := (-9)) (rfl) (rfl)).mpr c25
        obtain ⟨q, bq, rfl⟩ := he.resolve_left c25
        refine aw_iload_n 6 dX8_followChain_28 rfl rfl ?_
        refine aw_iload 0 dX8_followChain_29 rfl ?_
        refine aw_idiv dX8_followChain_31 (by decide) ?_
        refine aw_toe (nI (y0 / 100)) (nv_div (rfl) (rfl) (by omega) (by decide) (by decide)) ?_
        refine aw_bipush (10) dX8_followChain_32 (by decide) ?_
        refine aw_irem dX8_followChain_34 (by decide) ?_
        refine aw_toe (nI ((y0 / 100) % 10)) (nv_rem (rfl) (rfl) (by omega) (by decide) (by decide)) ?_
        refine aw_iconst (1) dX8_followChain_35 (by decide) ?_
        refine aw_isub dX8_followChain_36 ?_
        refine aw_istore [(10, .int ((nI ((y0 / 100) % 10)) - 1)), (9, .int 100), (8, .int dv), (7, .int sv), (6, .int (nI q)), (5, .int (nI fr)), (4, .int w), (3, .int (nI y0)), (0, .ref (G.1 + 0))] dX8_followChain_37 (by decide) rfl ?_
        refine aw_iload 0 dX8_followChain_39 rfl ?_
        refine aw_if_lt 139 dX8_followChain_41 (by decide) (fun c41 => ?_) (fun c41 => ?_)
        · have d41 := (j_lt (a := ((nI ((y0 / 100) % 10)) - 1).toInt) (b := (0)) (rfl) (rfl)).mp c41
          refine aw_iload 1 dX8_followChain_139 rfl ?_
          refine aw_bipush (10) dX8_followChain_141 (by decide) ?_
          refine aw_idiv dX8_followChain_143 (by decide) ?_
          refine aw_toe 10 (by decide) ?_
          refine aw_istore [(9, .int 10), (10, .int ((nI ((y0 / 100) % 10)) - 1)), (8, .int dv), (7, .int sv), (6, .int (nI q)), (5, .int (nI fr)), (4, .int w), (3, .int (nI y0)), (0, .ref (G.1 + 0))] dX8_followChain_144 (by decide) rfl ?_
          refine aw_goto 16 dX8_followChain_146 (by decide) ?_
          refine aw_lv [(9, .int 10), (8, .int dv), (7, .int sv), (6, .int (nI q)), (5, .int (nI fr)), (4, .int w), (3, .int (nI y0)), (0, .ref (G.1 + 0))] [0, 2, 3, 4, 5, 6, 7, 8] rfl ?_
          exact ih5820 2 (nI q) fr dv sv u1 v1 ro1 co1 rc1 lk1 bs1 wy1 nw1 _ (by omega) (by decide) (Or.inr ⟨_, bq, rfl⟩) (by omega) (hu1) (hv1) (huv1) (hrc1) (hJ1) (hlq) f5800 f5801 f5802 f5803 f5804 f5805 f5806 f5807 f5808 f5809 f5810 f5811 f5812 f5813 f5814 f5815 f5816 f5817 f5818 (k5819)
        · have d41 := mt (j_lt (a := ((nI ((y0 / 100) % 10)) - 1).toInt) (b := (0)) (rfl) (rfl)).mpr c41
          have g0 : 1 ≤ y0 / 100 % 10 := by rw [dig_i (by omega)] at d41; omega
          rw [dig_e g0]
          obtain ⟨su, wa, pt, ce, pv, gg0, gg1, gg2, hpt, bpv, hfz⟩ := hJ1 (fr * 4 + (y0 / 100 % 10 - 1)) (by omega)
          obtain ⟨P, eP⟩ : ∃ P, P = 13 + 3 * (fr * 4 + (y0 / 100 % 10 - 1)) := ⟨_, rfl⟩
          rw [← eP] at gg0 gg1 gg2
          refine aw_aload_n 8 dX8_followChain_44 rfl rfl ?_
          refine aw_iload 5 dX8_followChain_45 rfl ?_
          refine aw_iload 0 dX8_followChain_47 rfl ?_
          refine aw_eV [.int (nI fr), .int (nI (y0 / 100 % 10 - 1))] [] lX8_124 vX8_bestJoining mX8_bestJoining dX8_followChain_49 (bJ (bv := bv) (J := J) (u := u1) (v := v1) (ro := ro1) (co := co1) (rc := rc1) (lk := lk1) (bs := bs1) (wy := wy1) (nw := nw1) (P := P) (pv := pv) (su := su) (wa := wa) (pt := pt) (ce := ce) (m := m) (se := se) (ye := ye) (fi := fi) (W := W) (Sn := Sn) (Z := Z) (Ro := Ro) (Co := Co) (Ba := Ba) (nb := nb) (sp := sp) (fa := fa) (ve := ve) (a := fr) (b := y0 / 100 % 10 - 1) f5800 f5801 f5802 f5803 f5804 f5805 f5806 f5807 f5808 f5809 f5810 f5811 f5812 f5813 f5814 f5815 f5816 f5817 f5818 gg0 gg1 gg2 hu1 hv1 huv1 hrc1 (by omega) hm hse hfi hye (by omega) (by omega) (by omega) (by omega) hpt eP (by omega) (by omega)) f5800 rfl rfl rfl (Nat.le_of_ble_eq_true rfl) (by decide) (by decide) rfl (fun h5921 q5920 => ?_)
          obtain ⟨u15907, v15908, ro15909, co15910, rc15911, lk15912, bs15913, wy15914, nw15915, su15916, wa15917, pt15918, ce15919, f5922, f5923, f5924, f5925, f5926, f5927, f5928, f5929, f5930, k5931, p5932, p5933, p5934, p5935, p5936⟩ := q5920
          have f5937 := rg2_at k5931 (by omega) f5800
          have f5938 := rg2_at k5931 (by omega) f5801
          have f5939 := rg2_at k5931 (by omega) f5802
          have f5940 := rg2_at k5931 (by omega) f5803
          have f5941 := rg2_at k5931 (by omega) f5804
          have f5942 := rg2_at k5931 (by omega) f5805
          have f5943 := rg2_at k5931 (by omega) f5806
          have f5944 := rg2_at k5931 (by omega) f5807
          have f5945 := rg2_at k5931 (by omega) f5808
          have f5946 := rg2_at k5931 (by omega) f5809
          have f5947 := rg2_at k5931 (by omega) f5810
          have f5948 := rg2_at k5931 (by omega) f5811
          have f5949 := rg2_at k5931 (by omega) f5812
          have hJ2 : iJs G jT h5921 := iJs_up hJ1 (k := fr * 4 + (y0 / 100 % 10 - 1)) (by omega) eP (fun j q1 q2 q3 => k5931.2 j (by omega)) f5928 f5929 f5930 p5936 bve trivial
          refine aw_astore [(11, .ref (G.1 + P)), (10, .int (nI (y0 / 100 % 10 - 1))), (9, .int 100), (8, .int dv), (7, .int sv), (6, .int (nI q)), (5, .int (nI fr)), (4, .int w), (3, .int (nI y0)), (0, .ref (G.1 + 0))] dX8_followChain_52 (by decide) rfl ?_
          refine aw_aload 0 dX8_followChain_54 rfl ?_
          refine aw_get fX8_131 dX8_followChain_56 f5928 rfl ?_
          refine aw_iload 5 dX8_followChain_59 rfl ?_
          refine aw_iald q (rfl) (by omega) (by decide) dX8_followChain_61 f5929 ?_
          refine aw_istore [(12, .int (pt15918 q)), (11, .ref (G.1 + P)), (10, .int (nI (y0 / 100 % 10 - 1))), (9, .int 100), (8, .int dv), (7, .int sv), (6, .int (nI q)), (5, .int (nI fr)), (4, .int w), (3, .int (nI y0)), (0, .ref (G.1 + 0))] dX8_followChain_62 (by decide) rfl ?_
          refine aw_iload 0 dX8_followChain_64 rfl ?_
          refine aw_bipush (-9) dX8_followChain_66 (by decide) ?_
          refine aw_icmp_eq 131 dX8_followChain_68 (by decide) (fun c68 => ?_) (fun c68 => ?_)
          · have d68 := (j_eq (a := (pt15918 q).toInt) (b := (-9)) (rfl) (rfl)).mp c68
            refine aw_iload 2 dX8_followChain_131 rfl ?_
            refine aw_istore [(5, .int (nI (y0 / 100 % 10 - 1))), (12, .int (pt15918 q)), (11, .ref (G.1 + P)), (10, .int (nI (y0 / 100 % 10 - 1))), (9, .int 100), (8, .int dv), (7, .int sv), (6, .int (nI q)), (4, .int w), (3, .int (nI y0)), (0, .ref (G.1 + 0))] dX8_followChain_133 (by decide) rfl ?_
            refine aw_iload 1 dX8_followChain_135 rfl ?_
            refine aw_istore [(6, .int (pt15918 q)), (5, .int (nI (y0 / 100 % 10 - 1))), (12, .int (pt15918 q)), (11, .ref (G.1 + P)), (10, .int (nI (y0 / 100 % 10 - 1))), (9, .int 100), (8, .int dv), (7, .int sv), (4, .int w), (3, .int (nI y0)), (0, .ref (G.1 + 0))] dX8_followChain_137 (by decide) rfl ?_
            refine aw_iload 5 dX8_followChain_139 rfl ?_
            refine aw_bipush (10) dX8_followChain_141 (by decide) ?_
            refine aw_idiv dX8_followChain_143 (by decide) ?_
            refine aw_toe 10 (by decide) ?_
            refine aw_istore [(9, .int 10), (6, .int (pt15918 q)), (5, .int (nI (y0 / 100 % 10 - 1))), (12, .int (pt15918 q)), (11, .ref (G.1 + P)), (10, .int (nI (y0 / 100 % 10 - 1))), (8, .int dv), (7, .int sv), (4, .int w), (3, .int (nI y0)), (0, .ref (G.1 + 0))] dX8_followChain_144 (by decide) rfl ?_
            refine aw_goto 16 dX8_followChain_146 (by decide) ?_
            refine aw_lv [(9, .int 10), (8, .int dv), (7, .int sv), (6, .int (pt15918 q)), (5, .int (nI (y0 / 100 % 10 - 1))), (4, .int w), (3, .int (nI y0)), (0, .ref (G.1 + 0))] [0, 6, 7, 1, 2, 8, 9, 10] rfl ?_
            exact ih5820 2 (pt15918 q) (y0 / 100 % 10 - 1) dv sv u15907 v15908 ro15909 co15910 rc15911 lk15912 bs15913 wy15914 nw15915 _ (by omega) (by decide) (p5936 q bq) (by omega) (p5932) (p5933) (p5934) (p5935) (hJ2) (k5931.1.trans hlq) f5937 f5938 f5939 f5940 f5941 f5942 f5943 f5944 f5945 f5946 f5947 f5948 f5949 f5922 f5923 f5924 f5925 f5926 f5927 (grw_r4 (k5819) k5931 (fun j q1 q2 => by omega))
          · have d68 := mt (j_eq (a := (pt15918 q).toInt) (b := (-9)) (rfl) (rfl)).mpr c68
            obtain ⟨q2, bq2, eq2⟩ := (p5936 q (by omega)).resolve_left c68
            rw [eq2]
            refine aw_iinc (j := 5) (sv + 1) [(7, .int (sv + 1)), (12, .int (nI q2)), (11, .ref (G.1 + P)), (10, .int (nI (y0 / 100 % 10 - 1))), (9, .int 100), (8, .int dv), (6, .int (nI q)), (5, .int (nI fr)), (4, .int w), (3, .int (nI y0)), (0, .ref (G.1 + 0))] dX8_followChain_71 rfl (by rfl) (by decide) rfl ?_
            refine aw_aload_n 10 dX8_followChain_74 rfl rfl ?_
            refine aw_get fX8_20 dX8_followChain_75 f5937 rfl ?_
            refine aw_iload 7 dX8_followChain_78 rfl ?_
            refine aw_bipush (10) dX8_followChain_80 (by decide) ?_
            refine aw_imul dX8_followChain_82 ?_
            refine aw_toe (nI (fr * 10)) (nv_mul (rfl) (rfl)) ?_
            refine aw_iload 6 dX8_followChain_83 rfl ?_
            refine aw_iadd dX8_followChain_85 ?_
            refine aw_toe (nI ((fr * 10) + q)) (nv_add (rfl) (rfl)) ?_
            refine aw_iload 3 dX8_followChain_86 rfl ?_
            refine aw_bipush (10) dX8_followChain_88 (by decide) ?_
            refine aw_imul dX8_followChain_90 ?_
            refine aw_toe (nI ((y0 / 100 % 10 - 1) * 10)) (nv_mul (rfl) (rfl)) ?_
            refine aw_iload 1 dX8_followChain_91 rfl ?_
            refine aw_iadd dX8_followChain_93 ?_
            refine aw_toe (nI (((y0 / 100 % 10 - 1) * 10) + q2)) (nv_add (rfl) (rfl)) ?_
            refine aw_dV [.int (nI ((fr * 10) + q)), .int (nI (((y0 / 100 % 10 - 1) * 10) + q2))] [] lX8_121 vX1_likeness mX1_likeness dX8_followChain_94 (aX1_likeness (m := m) (se := se) (ye := ye) (fi := fi) (W := W) (Sn := Sn) (Z := Z) (Ro := Ro) (Co := Co) (Ba := Ba) (nb := nb) (sp := sp) (fa := fa) (ve := ve) (e := (fr * 10) + q) (f := ((y0 / 100 % 10 - 1) * 10) + q2) f5938 f5939 f5940 f5941 f5942 f5943 f5944 f5945 f5946 f5947 f5948 hm hse hfi hye (by omega) (by omega)) f5938 rfl rfl rfl (Nat.le_of_ble_eq_true rfl) (by decide) (by decide) rfl ?_
            refine aw_istore [(13, .int (likeC ye Sn Z Ro Co Ba sp fa ((fr * 10) + q) (((y0 / 100 % 10 - 1) * 10) + q2))), (7, .int (sv + 1)), (12, .int (nI q2)), (11, .ref (G.1 + P)), (10, .int (nI (y0 / 100 % 10 - 1))), (9, .int 100), (8, .int dv), (6, .int (nI q)), (5, .int (nI fr)), (4, .int w), (3, .int (nI y0)), (0, .ref (G.1 + 0))] dX8_followChain_97 (by decide) rfl ?_
            refine aw_iload 6 dX8_followChain_99 rfl ?_
            refine aw_iconst (0) dX8_followChain_101 (by decide) ?_
            refine aw_bipush (100) dX8_followChain_102 (by decide) ?_
            refine aw_iload 0 dX8_followChain_104 rfl ?_
            refine aw_isub dX8_followChain_106 ?_
            refine aw_mmax lX8_251 dX8_followChain_107 (Nat.le_of_ble_eq_true rfl) (by decide) (by decide) ?_
            refine aw_aload 3 dX8_followChain_110 rfl ?_
            refine aw_get fX8_137 dX8_followChain_112 f5928 rfl ?_
            refine aw_iload 7 dX8_followChain_115 rfl ?_
            refine aw_zald q (rfl) (by omega) (by decide) dX8_followChain_117 f5930 ?_
            refine aw_if_eq 125 dX8_followChain_118 (by decide) (fun c118 => ?_) (fun c118 => ?_)
            · have d118 := (j_eq (a := (ce15919 q).toInt) (b := (0)) (rfl) (rfl)).mp c118
              refine aw_bipush (50) dX8_followChain_125 (by decide) ?_
              refine aw_iadd dX8_followChain_127 ?_
              refine aw_iadd dX8_followChain_128 ?_
              refine aw_istore [(8, .int (dv + ((if 0 < (100 - (likeC ye Sn Z Ro Co Ba sp fa ((fr * 10) + q) (((y0 / 100 % 10 - 1) * 10) + q2))) then (100 - (likeC ye Sn Z Ro Co Ba sp fa ((fr * 10) + q) (((y0 / 100 % 10 - 1) * 10) + q2))) else 0) + 50))), (13, .int (likeC ye Sn Z Ro Co Ba sp fa ((fr * 10) + q) (((y0 / 100 % 10 - 1) * 10) + q2))), (7, .int (sv + 1)), (12, .int (nI q2)), (11, .ref (G.1 + P)), (10, .int (nI (y0 / 100 % 10 - 1))), (9, .int 100), (6, .int (nI q)), (5, .int (nI fr)), (4, .int w), (3, .int (nI y0)), (0, .ref (G.1 + 0))] dX8_followChain_129 (by decide) rfl ?_
              refine aw_iload 5 dX8_followChain_131 rfl ?_
              refine aw_istore [(5, .int (nI (y0 / 100 % 10 - 1))), (8, .int (dv + ((if 0 < (100 - (likeC ye Sn Z Ro Co Ba sp fa ((fr * 10) + q) (((y0 / 100 % 10 - 1) * 10) + q2))) then (100 - (likeC ye Sn Z Ro Co Ba sp fa ((fr * 10) + q) (((y0 / 100 % 10 - 1) * 10) + q2))) else 0) + 50))), (13, .int (likeC ye Sn Z Ro Co Ba sp fa ((fr * 10) + q) (((y0 / 100 % 10 - 1) * 10) + q2))), (7, .int (sv + 1)), (12, .int (nI q2)), (11, .ref (G.1 + P)), (10, .int (nI (y0 / 100 % 10 - 1))), (9, .int 100), (6, .int (nI q)), (4, .int w), (3, .int (nI y0)), (0, .ref (G.1 + 0))] dX8_followChain_133 (by decide) rfl ?_
              refine aw_iload 4 dX8_followChain_135 rfl ?_
              refine aw_istore [(6, .int (nI q2)), (5, .int (nI (y0 / 100 % 10 - 1))), (8, .int (dv + ((if 0 < (100 - (likeC ye Sn Z Ro Co Ba sp fa ((fr * 10) + q) (((y0 / 100 % 10 - 1) * 10) + q2))) then (100 - (likeC ye Sn Z Ro Co Ba sp fa ((fr * 10) + q) (((y0 / 100 % 10 - 1) * 10) + q2))) else 0) + 50))), (13, .int (likeC ye Sn Z Ro Co Ba sp fa ((fr * 10) + q) (((y0 / 100 % 10 - 1) * 10) + q2))), (7, .int (sv + 1)), (12, .int (nI q2)), (11, .ref (G.1 + P)), (10, .int (nI (y0 / 100 % 10 - 1))), (9, .int 100), (4, .int w), (3, .int (nI y0)), (0, .ref (G.1 + 0))] dX8_followChain_137 (by decide) rfl ?_
              refine aw_iload 8 dX8_followChain_139 rfl ?_
              refine aw_bipush (10) dX8_followChain_141 (by decide) ?_
              refine aw_idiv dX8_followChain_143 (by decide) ?_
              refine aw_toe 10 (by decide) ?_
              refine aw_istore [(9, .int 10), (6, .int (nI q2)), (5, .int (nI (y0 / 100 % 10 - 1))), (8, .int (dv + ((if 0 < (100 - (likeC ye Sn Z Ro Co Ba sp fa ((fr * 10) + q) (((y0 / 100 % 10 - 1) * 10) + q2))) then (100 - (likeC ye Sn Z Ro Co Ba sp fa ((fr * 10) + q) (((y0 / 100 % 10 - 1) * 10) + q2))) else 0) + 50))), (13, .int (likeC ye Sn Z Ro Co Ba sp fa ((fr * 10) + q) (((y0 / 100 % 10 - 1) * 10) + q2))), (7, .int (sv + 1)), (12, .int (nI q2)), (11, .ref (G.1 + P)), (10, .int (nI (y0 / 100 % 10 - 1))), (4, .int w), (3, .int (nI y0)), (0, .ref (G.1 + 0))] dX8_followChain_144 (by decide) rfl ?_
              refine aw_goto 16 dX8_followChain_146 (by decide) ?_
              refine aw_lv [(9, .int 10), (8, .int (dv + ((if 0 < (100 - (likeC ye Sn Z Ro Co Ba sp fa ((fr * 10) + q) (((y0 / 100 % 10 - 1) * 10) + q2))) then (100 - (likeC ye Sn Z Ro Co Ba sp fa ((fr * 10) + q) (((y0 / 100 % 10 - 1) * 10) + q2))) else 0) + 50))), (7, .int (sv + 1)), (6, .int (nI q2)), (5, .int (nI (y0 / 100 % 10 - 1))), (4, .int w), (3, .int (nI y0)), (0, .ref (G.1 + 0))] [0, 3, 5, 1, 2, 9, 10, 11] rfl ?_
              exact ih5820 2 (nI q2) (y0 / 100 % 10 - 1) (dv + ((if 0 < (100 - (likeC ye Sn Z Ro Co Ba sp fa ((fr * 10) + q) (((y0 / 100 % 10 - 1) * 10) + q2))) then (100 - (likeC ye Sn Z Ro Co Ba sp fa ((fr * 10) + q) (((y0 / 100 % 10 - 1) * 10) + q2))) else 0) + 50)) (sv + 1) u15907 v15908 ro15909 co15910 rc15911 lk15912 bs15913 wy15914 nw15915 _ (by omega) (by decide) (Or.inr ⟨_, bq2, rfl⟩) (by omega) (p5932) (p5933) (p5934) (p5935) (hJ2) (k5931.1.trans hlq) f5937 f5938 f5939 f5940 f5941 f5942 f5943 f5944 f5945 f5946 f5947 f5948 f5949 f5922 f5923 f5924 f5925 f5926 f5927 (grw_r4 (k5819) k5931 (fun j q1 q2 => by omega))
            · have d118 := mt (j_eq (a := (ce15919 q).toInt) (b := (0)) (rfl) (rfl)).mpr c118
              refine aw_iconst (0) dX8_followChain_121 (by decide) ?_
              refine aw_goto 127 dX8_followChain_122 (by decide) ?_
              refine aw_iadd dX8_followChain_127 ?_
              refine aw_iadd dX8_followChain_128 ?_
              refine aw_istore [(8, .int (dv + ((if 0 < (100 - (likeC ye Sn Z Ro Co Ba sp fa ((fr * 10) + q) (((y0 / 100 % 10 - 1) * 10) + q2))) then (100 - (likeC ye Sn Z Ro Co Ba sp fa ((fr * 10) + q) (((y0 / 100 % 10 - 1) * 10) + q2))) else 0) + 0))), (13, .int (likeC ye Sn Z Ro Co Ba sp fa ((fr * 10) + q) (((y0 / 100 % 10 - 1) * 10) + q2))), (7, .int (sv + 1)), (12, .int (nI q2)), (11, .ref (G.1 + P)), (10, .int (nI (y0 / 100 % 10 - 1))), (9, .int 100), (6, .int (nI q)), (5, .int (nI fr)), (4, .int w), (3, .int (nI y0)), (0, .ref (G.1 + 0))] dX8_followChain_129 (by decide) rfl ?_
              refine aw_iload 5 dX8_followChain_131 rfl ?_
              refine aw_istore [(5, .int (nI (y0 / 100 % 10 - 1))), (8, .int (dv + ((if 0 < (100 - (likeC ye Sn Z Ro Co Ba sp fa ((fr * 10) + q) (((y0 / 100 % 10 - 1) * 10) + q2))) then (100 - (likeC ye Sn Z Ro Co Ba sp fa ((fr * 10) + q) (((y0 / 100 % 10 - 1) * 10) + q2))) else 0) + 0))), (13, .int (likeC ye Sn Z Ro Co Ba sp fa ((fr * 10) + q) (((y0 / 100 % 10 - 1) * 10) + q2))), (7, .int (sv + 1)), (12, .int (nI q2)), (11, .ref (G.1 + P)), (10, .int (nI (y0 / 100 % 10 - 1))), (9, .int 100), (6, .int (nI q)), (4, .int w), (3, .int (nI y0)), (0, .ref (G.1 + 0))] dX8_followChain_133 (by decide) rfl ?_
              refine aw_iload 4 dX8_followChain_135 rfl ?_
              refine aw_istore [(6, .int (nI q2)), (5, .int (nI (y0 / 100 % 10 - 1))), (8, .int (dv + ((if 0 < (100 - (likeC ye Sn Z Ro Co Ba sp fa ((fr * 10) + q) (((y0 / 100 % 10 - 1) * 10) + q2))) then (100 - (likeC ye Sn Z Ro Co Ba sp fa ((fr * 10) + q) (((y0 / 100 % 10 - 1) * 10) + q2))) else 0) + 0))), (13, .int (likeC ye Sn Z Ro Co Ba sp fa ((fr * 10) + q) (((y0 / 100 % 10 - 1) * 10) + q2))), (7, .int (sv + 1)), (12, .int (nI q2)), (11, .ref (G.1 + P)), (10, .int (nI (y0 / 100 % 10 - 1))), (9, .int 100), (4, .int w), (3, .int (nI y0)), (0, .ref (G.1 + 0))] dX8_followChain_137 (by decide) rfl ?_
              refine aw_iload 8 dX8_followChain_139 rfl ?_
              refine aw_bipush (10) dX8_followChain_141 (by decide) ?_
              refine aw_idiv dX8_followChain_143 (by decide) ?_
              refine aw_toe 10 (by decide) ?_
              refine aw_istore [(9, .int 10), (6, .int (nI q2)), (5, .int (nI (y0 / 100 % 10 - 1))), (8, .int (dv + ((if 0 < (100 - (likeC ye Sn Z Ro Co Ba sp fa ((fr * 10) + q) (((y0 / 100 % 10 - 1) * 10) + q2))) then (100 - (likeC ye Sn Z Ro Co Ba sp fa ((fr * 10) + q) (((y0 / 100 % 10 - 1) * 10) + q2))) else 0) + 0))), (13, .int (likeC ye Sn Z Ro Co Ba sp fa ((fr * 10) + q) (((y0 / 100 % 10 - 1) * 10) + q2))), (7, .int (sv + 1)), (12, .int (nI q2)), (11, .ref (G.1 + P)), (10, .int (nI (y0 / 100 % 10 - 1))), (4, .int w), (3, .int (nI y0)), (0, .ref (G.1 + 0))] dX8_followChain_144 (by decide) rfl ?_
              refine aw_goto 16 dX8_followChain_146 (by decide) ?_
              refine aw_lv [(9, .int 10), (8, .int (dv + ((if 0 < (100 - (likeC ye Sn Z Ro Co Ba sp fa ((fr * 10) + q) (((y0 / 100 % 10 - 1) * 10) + q2))) then (100 - (likeC ye Sn Z Ro Co Ba sp fa ((fr * 10) + q) (((y0 / 100 % 10 - 1) * 10) + q2))) else 0) + 0))), (7, .int (sv + 1)), (6, .int (nI q2)), (5, .int (nI (y0 / 100 % 10 - 1))), (4, .int w), (3, .int (nI y0)), (0, .ref (G.1 + 0))] [0, 3, 5, 1, 2, 9, 10, 11] rfl ?_
              exact ih5820 2 (nI q2) (y0 / 100 % 10 - 1) (dv + ((if 0 < (100 - (likeC ye Sn Z Ro Co Ba sp fa ((fr * 10) + q) (((y0 / 100 % 10 - 1) * 10) + q2))) then (100 - (likeC ye Sn Z Ro Co Ba sp fa ((fr * 10) + q) (((y0 / 100 % 10 - 1) * 10) + q2))) else 0) + 0)) (sv + 1) u15907 v15908 ro15909 co15910 rc15911 lk15912 bs15913 wy15914 nw15915 _ (by omega) (by decide) (Or.inr ⟨_, bq2, rfl⟩) (by omega) (p5932) (p5933) (p5934) (p5935) (hJ2) (k5931.1.trans hlq) f5937 f5938 f5939 f5940 f5941 f5942 f5943 f5944 f5945 f5946 f5947 f5948 f5949 f5922 f5923 f5924 f5925 f5926 f5927 (grw_r4 (k5819) k5931 (fun j q1 q2 => by omega))
