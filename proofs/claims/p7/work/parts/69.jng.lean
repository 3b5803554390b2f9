set_option maxHeartbeats 4000000 in
theorem aX3_sumWays {l : Launch} {G : xG} {h : List va_E} {J u v ro co : Nat} {rc : Nat → Nat} {lk bs wy nw : Nat → Int32} {f : Nat → Nat} {lx : Nat → Nat → Nat} (hJ : h[J]? = some (oB 3 (lJ G J (.ref (G.1 + u)) (.ref (G.1 + v)) (nI ro) (nI co)))) (hJ_1 : h[J + 1]? = some (aI 100 lk)) (hJ_2 : h[J + 2]? = some (aI 11 (nA rc))) (hJ_3 : h[J + 3]? = some (aI 11264 bs)) (hu : h[u]? = some (aI 1024 wy)) (hv : h[v]? = some (aI 1024 nw)) (qu : J + 4 ≤ u ∧ u ≤ J + 5) (qv : J + 4 ≤ v ∧ v ≤ J + 5) (quv : u ≠ v) (hro : ro ≤ 10) (hco : co ≤ 10) (hrc : ∀ j, j < 11 → rc j < 1024) (hR : jR lx ro co rc) (hf : yF lx co ro ro f) (hwf : wX wy f) : CE l G yX3_sumWays cX3_sumWays 4 (some .int) 1 0 0 [.ref (G.1 + J), .int (nI (rc ro))] h (some (.int (nI (min 1000000 (jC lx co ro 0 0))))) (fun h1 => ∃ wy1 : Nat → Int32, h1[J]? = some (oB 3 (lJ G J (.ref (G.1 + u)) (.ref (G.1 + v)) (nI ro) (nI co))) ∧ h1[J + 1]? = some (aI 100 lk) ∧ h1[J + 2]? = some (aI 11 (nA rc)) ∧ h1[J + 3]? = some (aI 11264 bs) ∧ h1[u]? = some (aI 1024 wy1) ∧ h1[v]? = some (aI 1024 nw) ∧ rng J (J + 5) h h1 ∧ (∀ t, t < 1024 → wy1 t = 0)) := by
  refine cm_ofQ rfl (Nat.le_of_ble_eq_true rfl) [(0, .ref (G.1 + J)), (1, .int (nI (rc ro)))] rfl (fun QF hQF => ?_)
  have bw := hrc ro (by omega)
  refine aw_iconst (0) dX3_sumWays_0 (by decide) ?_
  refine aw_istore_n [(2, .int 0), (0, .ref (G.1 + J)), (1, .int (nI (rc ro)))] dX3_sumWays_1 rfl (by decide) rfl ?_
  refine aw_iload_n 2 dX3_sumWays_2 rfl rfl ?_
  refine aw_istore_n [(3, .int (nI (rc ro))), (2, .int 0), (0, .ref (G.1 + J)), (1, .int (nI (rc ro)))] dX3_sumWays_3 rfl (by decide) rfl ?_
  refine aw_lv [(3, .int (nI (rc ro))), (2, .int 0), (1, .int (nI (rc ro))), (0, .ref (G.1 + J))] [0, 1, 3, 2] rfl ?_
  suffices L151 : ∀ (mm : Nat) (t : Nat) (tv : Int32) (tt : Nat) (sv : Nat) (f1 : Nat → Nat) (wy1 : Nat → Int32) (h143 : List va_E), t < mm → ((t = 0 ∧ tv = -1) ∨ (∃ s, s < 1024 ∧ tv = nI s ∧ t = s + 1 ∧ s &&& rc ro = s)) → (zI lx co ro t f1 tt) → (sv = min 1000000 tt) → (wX wy1 f1) → h143[J]? = some (oB 3 (lJ G J (.ref (G.1 + u)) (.ref (G.1 + v)) (nI ro) (nI co))) → h143[J + 1]? = some (aI 100 lk) → h143[J + 2]? = some (aI 11 (nA rc)) → h143[J + 3]? = some (aI 11264 bs) → h143[u]? = some (aI 1024 wy1) → h143[v]? = some (aI 1024 nw) → rng J (J + 5) h h143 → AW l G yX3_sumWays cX3_sumWays 4 (some .int) (xR 1 0 0) (fun _ _ => True) QF 0 0 4 [(3, .int tv), (2, .int (nI sv)), (1, .int (nI (rc ro))), (0, .ref (G.1 + J))] [] h143 from L151 ((rc ro + 1) + 1) (rc ro + 1) (nI (rc ro)) 0 0 f wy _ (Nat.lt_succ_self _) (Or.inr ⟨_, bw, rfl, rfl, Nat.and_self _⟩) (zI_0 hR hco hf) (rfl) (hwf) hJ hJ_1 hJ_2 hJ_3 hu hv (rng_rf J (J + 5) h)
  intro mm
  induction mm with
  | zero =>
    intro t tv tt sv f1 wy1 h143 hmm ht hz hsv hw1 f144 f145 f146 f147 f148 f149 k150
    exact absurd hmm (Nat.not_lt_zero _)
  | succ mm ih151 =>
    intro t tv tt sv f1 wy1 h143 hmm ht hz hsv hw1 f144 f145 f146 f147 f148 f149 k150
    rcases ht with ⟨rfl, rfl⟩ | ⟨s, bs_, rfl, rfl, hss⟩
    · refine aw_iload_n 0 dX3_sumWays_4 rfl rfl ?_
      refine aw_if_lt 46 dX3_sumWays_5 (by decide) (fun c5 => ?_) (fun c5 => absurd (by decide) c5)
      refine aw_iload_n 1 dX3_sumWays_46 rfl rfl ?_
      subst hQF
      exact aw_iret rfl dX3_sumWays_47 (by decide) (by decide) ⟨by rw [hsv, (zI_z hz).2], _, f144, f145, f146, f147, f148, f149, k150, wX_z hw1 (zI_z hz).1⟩
    · refine aw_iload_n 0 dX3_sumWays_4 rfl rfl ?_
      refine aw_if_lt 46 dX3_sumWays_5 (by decide) (fun c5 => absurd c5 (by simp only [i_lt, (nI_toInt (n := s) (by omega)), (show (0 : Int32).toInt = 0 from rfl)] <;> omega)) (fun c5 => ?_)
      refine aw_ldc (1000000) kX3_99 dX3_sumWays_8 ?_
      refine aw_iload_n 1 dX3_sumWays_10 rfl rfl ?_
      refine aw_aload_n 3 dX3_sumWays_11 rfl rfl ?_
      refine aw_get fX3_21 dX3_sumWays_12 f144 rfl ?_
      refine aw_iload_n 0 dX3_sumWays_15 rfl rfl ?_
      refine aw_iald s (rfl) (by omega) (by decide) dX3_sumWays_16 f148 ?_
      refine aw_toe (nI (min 1000000 (f1 s))) (hw1 s bs_) ?_
      refine aw_iadd dX3_sumWays_17 ?_
      refine aw_toe (nI (sv + (min 1000000 (f1 s)))) (nv_add (rfl) (rfl)) ?_
      refine aw_mmin lX3_100 dX3_sumWays_18 (Nat.le_of_ble_eq_true rfl) (by decide) (by decide) ?_
      refine aw_toe (nI (min 1000000 (sv + min 1000000 (f1 s)))) (nv_min rfl rfl (by omega) (by omega)) ?_
      refine aw_istore_n [(2, .int (nI (min 1000000 (sv + min 1000000 (f1 s))))), (3, .int (nI s)), (1, .int (nI (rc ro))), (0, .ref (G.1 + J))] dX3_sumWays_21 rfl (by decide) rfl ?_
      refine aw_aload_n 3 dX3_sumWays_22 rfl rfl ?_
      refine aw_get fX3_21 dX3_sumWays_23 f144 rfl ?_
      refine aw_iload_n 1 dX3_sumWays_26 rfl rfl ?_
      refine aw_iconst (0) dX3_sumWays_27 (by decide) ?_
      refine aw_iast s (rfl) (by omega) (by decide) dX3_sumWays_28 f148 ?_
      refine aw_iload_n 1 dX3_sumWays_29 rfl rfl ?_
      refine aw_if_ne 37 dX3_sumWays_30 (by decide) (fun c30 => ?_) (fun c30 => ?_)
      · have d30 := mt (nv_eq (a := s) (b := 0) (rfl) (rfl) (by omega) (by omega)).mpr c30
        refine aw_iload_n 1 dX3_sumWays_37 rfl rfl ?_
        refine aw_iconst (1) dX3_sumWays_38 (by decide) ?_
        refine aw_isub dX3_sumWays_39 ?_
        refine aw_toe (nI (s - 1)) (nv_sub (rfl) (rfl) (by omega)) ?_
        refine aw_iload_n 2 dX3_sumWays_40 rfl rfl ?_
        refine aw_iand dX3_sumWays_41 ?_
        refine aw_toe (nI ((s - 1) &&& (rc ro))) (nv_and (rfl) (rfl)) ?_
        refine aw_istore_n [(3, .int (nI ((s - 1) &&& (rc ro)))), (2, .int (nI (min 1000000 (sv + min 1000000 (f1 s))))), (1, .int (nI (rc ro))), (0, .ref (G.1 + J))] dX3_sumWays_42 rfl (by decide) rfl ?_
        refine aw_goto 4 dX3_sumWays_43 (by decide) ?_
        refine aw_lv [(3, .int (nI ((s - 1) &&& (rc ro)))), (2, .int (nI (min 1000000 (sv + min 1000000 (f1 s))))), (1, .int (nI (rc ro))), (0, .ref (G.1 + J))] [0, 1, 2, 3] rfl ?_
        have bq : (s - 1) &&& (rc ro) ≤ (s - 1) := Nat.and_le_left
        exact ih151 (((s - 1) &&& (rc ro)) + 1) (nI ((s - 1) &&& (rc ro))) (tt + f1 s) (min 1000000 (sv + min 1000000 (f1 s))) (un f1 s 0) (upd wy1 s 0) _ (by omega) (Or.inr ⟨_, by omega, rfl, rfl, sub_in _ _⟩) (zI_s (yI_nx hR hco (Nat.le_refl _) hss (Or.inr ⟨by omega, rfl⟩)) bs_ hz) (by rw [hsv]; exact mn_2 tt (f1 s)) (wX_u hw1 (by decide)) (gn (by omega) (f144)) (gn (by omega) (f145)) (gn (by omega) (f146)) (gn (by omega) (f147)) (gs f148) (gn (by omega) (f149)) (rng_set (k150) (by omega) (by omega))
      · have d30 := (nv_eq (a := s) (b := 0) (rfl) (rfl) (by omega) (by omega)).mp c30
        refine aw_iconst (-1) dX3_sumWays_33 (by decide) ?_
        refine aw_goto 42 dX3_sumWays_34 (by decide) ?_
        refine aw_istore_n [(3, .int (-1)), (2, .int (nI (min 1000000 (sv + min 1000000 (f1 s))))), (1, .int (nI (rc ro))), (0, .ref (G.1 + J))] dX3_sumWays_42 rfl (by decide) rfl ?_
        refine aw_goto 4 dX3_sumWays_43 (by decide) ?_
        refine aw_lv [(3, .int (-1)), (2, .int (nI (min 1000000 (sv + min 1000000 (f1 s))))), (1, .int (nI (rc ro))), (0, .ref (G.1 + J))] [0, 1, 2, 3] rfl ?_
        exact ih151 0 (-1) (tt + f1 s) (min 1000000 (sv + min 1000000 (f1 s))) (un f1 s 0) (upd wy1 s 0) _ (by omega) (Or.inl ⟨rfl, rfl⟩) (zI_s (yI_nx hR hco (Nat.le_refl _) hss (Or.inl ⟨by omega, rfl⟩)) bs_ hz) (by rw [hsv]; exact mn_2 tt (f1 s)) (wX_u hw1 (by decide)) (gn (by omega) (f144)) (gn (by omega) (f145)) (gn (by omega) (f146)) (gn (by omega) (f147)) (gs f148) (gn (by omega) (f149)) (rng_set (k150) (by omega) (by omega))
