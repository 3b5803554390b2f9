set_option maxHeartbeats 4000000 in
theorem aX3_sumWays {l : Launch} {G : xG} {h : List va_E} {J u v ro co : Nat} {rc : Nat → Nat} {lk bs wy nw : Nat → Int32} {w : Nat} (hJ : h[J]? = some (oB 3 (lJ G J (.ref (G.1 + u)) (.ref (G.1 + v)) (nI ro) (nI co)))) (hJ_1 : h[J + 1]? = some (aI 100 lk)) (hJ_2 : h[J + 2]? = some (aI 11 (nA rc))) (hJ_3 : h[J + 3]? = some (aI 11264 bs)) (hu : h[u]? = some (aI 1024 wy)) (hv : h[v]? = some (aI 1024 nw)) (qu : J + 4 ≤ u ∧ u ≤ J + 5) (qv : J + 4 ≤ v ∧ v ≤ J + 5) (quv : u ≠ v) (bw : w < 1024) : CU l G yX3_sumWays cX3_sumWays 4 (some .int) 1 0 0 [.ref (G.1 + J), .int (nI w)] h (fun r h1 => ∃ wy1 : Nat → Int32, h1[J]? = some (oB 3 (lJ G J (.ref (G.1 + u)) (.ref (G.1 + v)) (nI ro) (nI co))) ∧ h1[J + 1]? = some (aI 100 lk) ∧ h1[J + 2]? = some (aI 11 (nA rc)) ∧ h1[J + 3]? = some (aI 11264 bs) ∧ h1[u]? = some (aI 1024 wy1) ∧ h1[v]? = some (aI 1024 nw) ∧ rng J (J + 5) h h1 ∧ True) := by
  refine cm_ofQ rfl (Nat.le_of_ble_eq_true rfl) [(0, .ref (G.1 + J)), (1, .int (nI w))] rfl (fun QF hQF => ?_)
  refine aw_iconst (0) dX3_sumWays_0 (by decide) ?_
  refine aw_istore_n [(2, .int 0), (0, .ref (G.1 + J)), (1, .int (nI w))] dX3_sumWays_1 rfl (by decide) rfl ?_
  refine aw_iload_n 2 dX3_sumWays_2 rfl rfl ?_
  refine aw_istore_n [(3, .int (nI w)), (2, .int 0), (0, .ref (G.1 + J)), (1, .int (nI w))] dX3_sumWays_3 rfl (by decide) rfl ?_
  refine aw_lv [(3, .int (nI w)), (2, .int 0), (1, .int (nI w)), (0, .ref (G.1 + J))] [0, 1, 3, 2] rfl ?_
  suffices L153 : ∀ (mm : Nat) (t : Nat) (tv : Int32) (sm : Int32) (wy1 : Nat → Int32) (h145 : List va_E), t < mm → ((t = 0 ∧ tv = -1) ∨ (∃ s, s < 1024 ∧ tv = nI s ∧ t = s + 1)) → h145[J]? = some (oB 3 (lJ G J (.ref (G.1 + u)) (.ref (G.1 + v)) (nI ro) (nI co))) → h145[J + 1]? = some (aI 100 lk) → h145[J + 2]? = some (aI 11 (nA rc)) → h145[J + 3]? = some (aI 11264 bs) → h145[u]? = some (aI 1024 wy1) → h145[v]? = some (aI 1024 nw) → rng J (J + 5) h h145 → AW l G yX3_sumWays cX3_sumWays 4 (some .int) (xR 1 0 0) (fun _ _ => True) QF 0 0 4 [(3, .int tv), (2, .int sm), (1, .int (nI w)), (0, .ref (G.1 + J))] [] h145 from L153 ((w + 1) + 1) (w + 1) (nI w) 0 wy _ (Nat.lt_succ_self _) (Or.inr ⟨_, bw, rfl, rfl⟩) hJ hJ_1 hJ_2 hJ_3 hu hv (rng_rf J (J + 5) h)
  intro mm
  induction mm with
  | zero =>
    intro t tv sm wy1 h145 hmm ht f146 f147 f148 f149 f150 f151 k152
    exact absurd hmm (Nat.not_lt_zero _)
  | succ mm ih153 =>
    intro t tv sm wy1 h145 hmm ht f146 f147 f148 f149 f150 f151 k152
    rcases ht with ⟨rfl, rfl⟩ | ⟨s, bs_, rfl, rfl⟩
    · refine aw_iload_n 0 dX3_sumWays_4 rfl rfl ?_
      refine aw_if_lt 46 dX3_sumWays_5 (by decide) (fun c5 => ?_) (fun c5 => absurd (by decide) c5)
      refine aw_iload_n 1 dX3_sumWays_46 rfl rfl ?_
      subst hQF
      exact aw_iret rfl dX3_sumWays_47 (by decide) (by decide) ⟨_, rfl, _, f146, f147, f148, f149, f150, f151, k152, trivial⟩
    · refine aw_iload_n 0 dX3_sumWays_4 rfl rfl ?_
      refine aw_if_lt 46 dX3_sumWays_5 (by decide) (fun c5 => absurd c5 (by simp only [i_lt, (nI_toInt (n := s) (by omega)), (show (0 : Int32).toInt = 0 from rfl)] <;> omega)) (fun c5 => ?_)
      refine aw_ldc (1000000) kX3_99 dX3_sumWays_8 ?_
      refine aw_iload_n 1 dX3_sumWays_10 rfl rfl ?_
      refine aw_aload_n 3 dX3_sumWays_11 rfl rfl ?_
      refine aw_get fX3_21 dX3_sumWays_12 f146 rfl ?_
      refine aw_iload_n 0 dX3_sumWays_15 rfl rfl ?_
      refine aw_iald s (rfl) (by omega) (by decide) dX3_sumWays_16 f150 ?_
      refine aw_iadd dX3_sumWays_17 ?_
      refine aw_mmin lX3_100 dX3_sumWays_18 (Nat.le_of_ble_eq_true rfl) (by decide) (by decide) ?_
      refine aw_istore_n [(2, .int (if (sm + (wy1 s)) < 1000000 then (sm + (wy1 s)) else 1000000)), (3, .int (nI s)), (1, .int (nI w)), (0, .ref (G.1 + J))] dX3_sumWays_21 rfl (by decide) rfl ?_
      refine aw_aload_n 3 dX3_sumWays_22 rfl rfl ?_
      refine aw_get fX3_21 dX3_sumWays_23 f146 rfl ?_
      refine aw_iload_n 1 dX3_sumWays_26 rfl rfl ?_
      refine aw_iconst (0) dX3_sumWays_27 (by decide) ?_
      refine aw_iast s (rfl) (by omega) (by decide) dX3_sumWays_28 f150 ?_
      refine aw_iload_n 1 dX3_sumWays_29 rfl rfl ?_
      refine aw_if_ne 37 dX3_sumWays_30 (by decide) (fun c30 => ?_) (fun c30 => ?_)
      · have d30 := mt (nv_eq (a := s) (b := 0) (rfl) (rfl) (by omega) (by omega)).mpr c30
        refine aw_iload_n 1 dX3_sumWays_37 rfl rfl ?_
        refine aw_iconst (1) dX3_sumWays_38 (by decide) ?_
        refine aw_isub dX3_sumWays_39 ?_
        refine aw_toe (nI (s - 1)) (nv_sub (rfl) (rfl) (by omega)) ?_
        refine aw_iload_n 2 dX3_sumWays_40 rfl rfl ?_
        refine aw_iand dX3_sumWays_41 ?_
        refine aw_toe (nI ((s - 1) &&& w)) (nv_and (rfl) (rfl)) ?_
        refine aw_istore_n [(3, .int (nI ((s - 1) &&& w))), (2, .int (if (sm + (wy1 s)) < 1000000 then (sm + (wy1 s)) else 1000000)), (1, .int (nI w)), (0, .ref (G.1 + J))] dX3_sumWays_42 rfl (by decide) rfl ?_
        refine aw_goto 4 dX3_sumWays_43 (by decide) ?_
        refine aw_lv [(3, .int (nI ((s - 1) &&& w))), (2, .int (if (sm + (wy1 s)) < 1000000 then (sm + (wy1 s)) else 1000000)), (1, .int (nI w)), (0, .ref (G.1 + J))] [0, 1, 2, 3] rfl ?_
        have bq : (s - 1) &&& w ≤ (s - 1) := Nat.and_le_left
        exact ih153 (((s - 1) &&& w) + 1) (nI ((s - 1) &&& w)) (if (sm + (wy1 s)) < 1000000 then (sm + (wy1 s)) else 1000000) (upd wy1 s 0) _ (by omega) (Or.inr ⟨_, by omega, rfl, rfl⟩) (gn (by omega) (f146)) (gn (by omega) (f147)) (gn (by omega) (f148)) (gn (by omega) (f149)) (gs f150) (gn (by omega) (f151)) (rng_set (k152) (by omega) (by omega))
      · have d30 := (nv_eq (a := s) (b := 0) (rfl) (rfl) (by omega) (by omega)).mp c30
        refine aw_iconst (-1) dX3_sumWays_33 (by decide) ?_
        refine aw_goto 42 dX3_sumWays_34 (by decide) ?_
        refine aw_istore_n [(3, .int (-1)), (2, .int (if (sm + (wy1 s)) < 1000000 then (sm + (wy1 s)) else 1000000)), (1, .int (nI w)), (0, .ref (G.1 + J))] dX3_sumWays_42 rfl (by decide) rfl ?_
        refine aw_goto 4 dX3_sumWays_43 (by decide) ?_
        refine aw_lv [(3, .int (-1)), (2, .int (if (sm + (wy1 s)) < 1000000 then (sm + (wy1 s)) else 1000000)), (1, .int (nI w)), (0, .ref (G.1 + J))] [0, 1, 2, 3] rfl ?_
        exact ih153 0 (-1) (if (sm + (wy1 s)) < 1000000 then (sm + (wy1 s)) else 1000000) (upd wy1 s 0) _ (by omega) (Or.inl ⟨rfl, rfl⟩) (gn (by omega) (f146)) (gn (by omega) (f147)) (gn (by omega) (f148)) (gn (by omega) (f149)) (gs f150) (gn (by omega) (f151)) (rng_set (k152) (by omega) (by omega))
