set_option maxHeartbeats 4000000 in
theorem aX3_valueOf {l : Launch} {G : xG} {h : List va_E} {J u v ro co : Nat} {rc : Nat → Nat} {lk bs wy nw : Nat → Int32} {i s k : Nat} (hJ : h[J]? = some (oB 3 (lJ G J (.ref (G.1 + u)) (.ref (G.1 + v)) (nI ro) (nI co)))) (hJ_1 : h[J + 1]? = some (aI 100 lk)) (hJ_2 : h[J + 2]? = some (aI 11 (nA rc))) (hJ_3 : h[J + 3]? = some (aI 11264 bs)) (hu : h[u]? = some (aI 1024 wy)) (hv : h[v]? = some (aI 1024 nw)) (qu : J + 4 ≤ u ∧ u ≤ J + 5) (qv : J + 4 ≤ v ∧ v ≤ J + 5) (quv : u ≠ v) (bi : i < 10) (bs_ : s < 1024) (bk : k < 10) : CD l G yX3_valueOf cX3_valueOf 5 (some .int) 0 0 0 [.ref (G.1 + J), .int (nI i), .int (nI s), .int (nI k)] h (some (.int (vjF lk bs i s k))) h := by
  refine cm_ofQ rfl (Nat.le_of_ble_eq_true rfl) [(0, .ref (G.1 + J)), (1, .int (nI i)), (2, .int (nI s)), (3, .int (nI k))] rfl (fun QF hQF => ?_)
  have bq := or_k (a := s) (b := k) bs_ bk
  refine aw_aload_n 0 dX3_valueOf_0 rfl rfl ?_
  refine aw_get fX3_9 dX3_valueOf_1 hJ rfl ?_
  refine aw_iload_n 1 dX3_valueOf_4 rfl rfl ?_
  refine aw_bipush (10) dX3_valueOf_5 (by decide) ?_
  refine aw_imul dX3_valueOf_7 ?_
  refine aw_toe (nI (i * 10)) (nv_mul (rfl) (rfl)) ?_
  refine aw_iload_n 3 dX3_valueOf_8 rfl rfl ?_
  refine aw_iadd dX3_valueOf_9 ?_
  refine aw_toe (nI ((i * 10) + k)) (nv_add (rfl) (rfl)) ?_
  refine aw_iald ((i * 10) + k) (rfl) (by omega) (by decide) dX3_valueOf_10 hJ_1 ?_
  refine aw_istore [(4, .int (lk ((i * 10) + k))), (0, .ref (G.1 + J)), (1, .int (nI i)), (2, .int (nI s)), (3, .int (nI k))] dX3_valueOf_11 (by decide) rfl ?_
  refine aw_iload 0 dX3_valueOf_13 rfl ?_
  refine aw_if_eq 26 dX3_valueOf_15 (by decide) (fun c15 => ?_) (fun c15 => ?_)
  · refine aw_iconst (-1) dX3_valueOf_26 (by decide) ?_
    subst hQF
    exact aw_iret rfl dX3_valueOf_27 (by decide) (by decide) ⟨by unfold vjF; rw [if_pos (Or.inl c15)], rfl⟩
  · refine aw_iload_n 3 dX3_valueOf_18 rfl rfl ?_
    refine aw_iload_n 4 dX3_valueOf_19 rfl rfl ?_
    refine aw_ishr dX3_valueOf_20 ?_
    refine aw_iconst (1) dX3_valueOf_21 (by decide) ?_
    refine aw_iand dX3_valueOf_22 ?_
    refine aw_toe (if s.testBit k = true then 1 else 0) (nv_bit (rfl) (rfl) (by omega) (by omega)) ?_
    refine aw_if_eq 28 dX3_valueOf_23 (by decide) (fun c23 => ?_) (fun c23 => ?_)
    · have t23 := ite_0 c23
      refine aw_iload 0 dX3_valueOf_28 rfl ?_
      refine aw_aload_n 1 dX3_valueOf_30 rfl rfl ?_
      refine aw_get fX3_18 dX3_valueOf_31 hJ rfl ?_
      refine aw_iload_n 2 dX3_valueOf_34 rfl rfl ?_
      refine aw_iconst (1) dX3_valueOf_35 (by decide) ?_
      refine aw_iadd dX3_valueOf_36 ?_
      refine aw_toe (nI (i + 1)) (nv_add (rfl) (rfl)) ?_
      refine aw_sipush (1024) dX3_valueOf_37 (by decide) ?_
      refine aw_imul dX3_valueOf_40 ?_
      refine aw_toe (nI ((i + 1) * 1024)) (nv_mul (rfl) (rfl)) ?_
      refine aw_iload_n 3 dX3_valueOf_41 rfl rfl ?_
      refine aw_iconst (1) dX3_valueOf_42 (by decide) ?_
      refine aw_iload_n 4 dX3_valueOf_43 rfl rfl ?_
      refine aw_ishl dX3_valueOf_44 ?_
      refine aw_toe (nI (2 ^ k)) (nv_shl1 (rfl) (by omega)) ?_
      refine aw_ior dX3_valueOf_45 ?_
      refine aw_toe (nI (s ||| (2 ^ k))) (nv_or (rfl) (rfl)) ?_
      refine aw_iadd dX3_valueOf_46 ?_
      refine aw_toe (nI (((i + 1) * 1024) + (s ||| (2 ^ k)))) (nv_add (rfl) (rfl)) ?_
      refine aw_iald (((i + 1) * 1024) + (s ||| (2 ^ k))) (rfl) (by omega) (by decide) dX3_valueOf_47 hJ_3 ?_
      refine aw_iadd dX3_valueOf_48 ?_
      subst hQF
      exact aw_iret rfl dX3_valueOf_49 (by decide) (by decide) ⟨by unfold vjF; rw [if_neg (fun q => q.elim c15 t23)], rfl⟩
    · have t23 := ite_1 c23
      refine aw_iconst (-1) dX3_valueOf_26 (by decide) ?_
      subst hQF
      exact aw_iret rfl dX3_valueOf_27 (by decide) (by decide) ⟨by unfold vjF; rw [if_pos (Or.inr t23)], rfl⟩
set_option maxHeartbeats 4000000 in
theorem aX3_weighState {l : Launch} {G : xG} {h : List va_E} {J u v ro co : Nat} {rc : Nat → Nat} {lk bs wy nw : Nat → Int32} {i s : Nat} (hJ : h[J]? = some (oB 3 (lJ G J (.ref (G.1 + u)) (.ref (G.1 + v)) (nI ro) (nI co)))) (hJ_1 : h[J + 1]? = some (aI 100 lk)) (hJ_2 : h[J + 2]? = some (aI 11 (nA rc))) (hJ_3 : h[J + 3]? = some (aI 11264 bs)) (hu : h[u]? = some (aI 1024 wy)) (hv : h[v]? = some (aI 1024 nw)) (qu : J + 4 ≤ u ∧ u ≤ J + 5) (qv : J + 4 ≤ v ∧ v ≤ J + 5) (quv : u ≠ v) (hro : ro ≤ 10) (hco : co ≤ 10) (hrc : ∀ j, j < 11 → rc j < 1024) (bi : i < 10) (bs_ : s < 1024) : CD l G yX3_weighState cX3_weighState 5 (some .int) 1 0 0 [.ref (G.1 + J), .int (nI i), .int (nI s)] h (some (.int (wjF lk bs i s co))) h := by
  refine cm_ofQ rfl (Nat.le_of_ble_eq_true rfl) [(0, .ref (G.1 + J)), (1, .int (nI i)), (2, .int (nI s))] rfl (fun QF hQF => ?_)
  refine aw_aload_n 0 dX3_weighState_0 rfl rfl ?_
  refine aw_get fX3_18 dX3_weighState_1 hJ rfl ?_
  refine aw_iload_n 1 dX3_weighState_4 rfl rfl ?_
  refine aw_iconst (1) dX3_weighState_5 (by decide) ?_
  refine aw_iadd dX3_weighState_6 ?_
  refine aw_toe (nI (i + 1)) (nv_add (rfl) (rfl)) ?_
  refine aw_sipush (1024) dX3_weighState_7 (by decide) ?_
  refine aw_imul dX3_weighState_10 ?_
  refine aw_toe (nI ((i + 1) * 1024)) (nv_mul (rfl) (rfl)) ?_
  refine aw_iload_n 2 dX3_weighState_11 rfl rfl ?_
  refine aw_iadd dX3_weighState_12 ?_
  refine aw_toe (nI (((i + 1) * 1024) + s)) (nv_add (rfl) (rfl)) ?_
  refine aw_iald (((i + 1) * 1024) + s) (rfl) (by omega) (by decide) dX3_weighState_13 hJ_3 ?_
  refine aw_istore_n [(3, .int (bs (((i + 1) * 1024) + s))), (0, .ref (G.1 + J)), (1, .int (nI i)), (2, .int (nI s))] dX3_weighState_14 rfl (by decide) rfl ?_
  refine aw_iconst (0) dX3_weighState_15 (by decide) ?_
  refine aw_istore [(4, .int 0), (3, .int (bs (((i + 1) * 1024) + s))), (0, .ref (G.1 + J)), (1, .int (nI i)), (2, .int (nI s))] dX3_weighState_16 (by decide) rfl ?_
  refine aw_lv [(4, .int 0), (3, .int (bs (((i + 1) * 1024) + s))), (2, .int (nI s)), (1, .int (nI i)), (0, .ref (G.1 + J))] [0, 1, 4, 3, 2] rfl ?_
  suffices L31 : ∀ (mm : Nat) (k : Nat) (mo : Int32), co - k < mm → (k ≤ co) → (mo = wjF lk bs i s k) → AW l G yX3_weighState cX3_weighState 5 (some .int) (xR 1 0 0) (fun _ _ => True) QF 0 0 18 [(4, .int (nI k)), (3, .int mo), (2, .int (nI s)), (1, .int (nI i)), (0, .ref (G.1 + J))] [] h from L31 (co - 0 + 1) 0 (bs (((i + 1) * 1024) + s)) (Nat.lt_succ_self _) (Nat.zero_le _) (rfl)
  intro mm
  induction mm with
  | zero =>
    intro k mo hmm hk hm
    exact absurd hmm (Nat.not_lt_zero _)
  | succ mm ih31 =>
    intro k mo hmm hk hm
    refine aw_iload 0 dX3_weighState_18 rfl ?_
    refine aw_aload_n 4 dX3_weighState_20 rfl rfl ?_
    refine aw_get fX3_31 dX3_weighState_21 hJ rfl ?_
    refine aw_icmp_ge 46 dX3_weighState_24 (by decide) (fun c24 => ?_) (fun c24 => ?_)
    · have d24 := (nv_le (a := co) (b := k) (rfl) (rfl) (by omega) (by omega)).mp c24
      refine aw_iload_n 1 dX3_weighState_46 rfl rfl ?_
      subst hQF
      exact aw_iret rfl dX3_weighState_47 (by decide) (by decide) ⟨by rw [hm, show k = co by omega], rfl⟩
    · have d24 := mt (nv_le (a := co) (b := k) (rfl) (rfl) (by omega) (by omega)).mpr c24
      refine aw_iload_n 1 dX3_weighState_27 rfl rfl ?_
      refine aw_aload_n 4 dX3_weighState_28 rfl rfl ?_
      refine aw_iload_n 3 dX3_weighState_29 rfl rfl ?_
      refine aw_iload_n 2 dX3_weighState_30 rfl rfl ?_
      refine aw_iload 0 dX3_weighState_31 rfl ?_
      refine aw_dV [.int (nI i), .int (nI s), .int (nI k)] [.int mo] lX3_71 vX3_valueOf mX3_valueOf dX3_weighState_33 (aX3_valueOf (J := J) (u := u) (v := v) (ro := ro) (co := co) (rc := rc) (lk := lk) (bs := bs) (wy := wy) (nw := nw) (i := i) (s := s) (k := k) hJ hJ_1 hJ_2 hJ_3 hu hv (by omega) (by omega) (by omega) (by omega) (by omega) (by omega)) hJ rfl rfl rfl (Nat.le_of_ble_eq_true rfl) (by decide) (by decide) rfl ?_
      refine aw_mmax lX3_75 dX3_weighState_36 (Nat.le_of_ble_eq_true rfl) (by decide) (by decide) ?_
      refine aw_istore_n [(3, .int (if mo < (vjF lk bs i s k) then (vjF lk bs i s k) else mo)), (4, .int (nI k)), (2, .int (nI s)), (1, .int (nI i)), (0, .ref (G.1 + J))] dX3_weighState_39 rfl (by decide) rfl ?_
      refine aw_iinc (j := 1) (nI (k + 1)) [(4, .int (nI (k + 1))), (3, .int (if mo < (vjF lk bs i s k) then (vjF lk bs i s k) else mo)), (2, .int (nI s)), (1, .int (nI i)), (0, .ref (G.1 + J))] dX3_weighState_40 rfl (nv_inc (rfl)) (by decide) rfl ?_
      refine aw_goto 18 dX3_weighState_43 (by decide) ?_
      refine aw_lv [(4, .int (nI (k + 1))), (3, .int (if mo < (vjF lk bs i s k) then (vjF lk bs i s k) else mo)), (2, .int (nI s)), (1, .int (nI i)), (0, .ref (G.1 + J))] [0, 1, 2, 3, 4] rfl ?_
      exact ih31 (k + 1) (if mo < (vjF lk bs i s k) then (vjF lk bs i s k) else mo) (by omega) (by omega) (by rw [hm]; rfl)
