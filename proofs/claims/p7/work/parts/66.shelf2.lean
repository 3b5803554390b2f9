set_option maxHeartbeats 4000000 in
theorem aX7_valueOf {l : Launch} {G : xG} {h : List va_E} {S sz b0 y0 : Nat} {tt su : Int32} {po : Nat → Nat} {tg lf be le re gg bs to : Nat → Int32} {st la nx : Nat} (hS : h[S]? = some (oB 7 (lSh G S (nI sz) tt su (nI b0) (nI y0)))) (hS_1 : h[S + 1]? = some (aI 8 tg)) (hS_2 : h[S + 2]? = some (aI 12 (nA po))) (hS_3 : h[S + 3]? = some (aI 64 lf)) (hS_4 : h[S + 4]? = some (aI 64 be)) (hS_5 : h[S + 5]? = some (aI 8 le)) (hS_6 : h[S + 6]? = some (aI 8 re)) (hS_7 : h[S + 7]? = some (aI 8 gg)) (hS_8 : h[S + 8]? = some (aI 2048 bs)) (hS_9 : h[S + 9]? = some (aI 8 to)) (bst : st < 256) (bla : la < 8) (bnx : nx < 8) : CD l G yX7_valueOf cX7_valueOf 5 (some .int) 0 0 0 [.ref (G.1 + S), .int (nI st), .int (nI la), .int (nI nx)] h (some (.int (vaF gg bs be st la nx))) h := by
  refine cm_ofQ rfl (Nat.le_of_ble_eq_true rfl) [(0, .ref (G.1 + S)), (1, .int (nI st)), (2, .int (nI la)), (3, .int (nI nx))] rfl (fun QF hQF => ?_)
  have bq := or_lt8' (a := st) (b := nx) bst bnx
  refine aw_aload_n 0 dX7_valueOf_0 rfl rfl ?_
  refine aw_get fX7_30 dX7_valueOf_1 hS rfl ?_
  refine aw_iload_n 3 dX7_valueOf_4 rfl rfl ?_
  refine aw_iald nx (rfl) (by omega) (by decide) dX7_valueOf_5 hS_7 ?_
  refine aw_aload_n 0 dX7_valueOf_6 rfl rfl ?_
  refine aw_get fX7_33 dX7_valueOf_7 hS rfl ?_
  refine aw_iload_n 1 dX7_valueOf_10 rfl rfl ?_
  refine aw_iconst (1) dX7_valueOf_11 (by decide) ?_
  refine aw_iload_n 3 dX7_valueOf_12 rfl rfl ?_
  refine aw_ishl dX7_valueOf_13 ?_
  refine aw_toe (nI (2 ^ nx)) (nv_shl1 (rfl) (by omega)) ?_
  refine aw_ior dX7_valueOf_14 ?_
  refine aw_toe (nI (st ||| (2 ^ nx))) (nv_or (rfl) (rfl)) ?_
  refine aw_bipush (8) dX7_valueOf_15 (by decide) ?_
  refine aw_imul dX7_valueOf_17 ?_
  refine aw_iload_n 3 dX7_valueOf_18 rfl rfl ?_
  refine aw_iadd dX7_valueOf_19 ?_
  refine aw_iald (((st ||| (2 ^ nx)) * 8) + nx) (nv_add (nv_mul (rfl) (rfl)) (rfl)) (by omega) (by decide) dX7_valueOf_20 hS_8 ?_
  refine aw_iadd dX7_valueOf_21 ?_
  refine aw_istore [(4, .int ((gg nx) + (bs (((st ||| (2 ^ nx)) * 8) + nx)))), (0, .ref (G.1 + S)), (1, .int (nI st)), (2, .int (nI la)), (3, .int (nI nx))] dX7_valueOf_22 (by decide) rfl ?_
  refine aw_iload_n 2 dX7_valueOf_24 rfl rfl ?_
  refine aw_if_ne 33 dX7_valueOf_25 (by decide) (fun c25 => ?_) (fun c25 => ?_)
  · have d25 := mt (nv_eq (a := st) (b := 0) (rfl) (rfl) (by omega) (by omega)).mpr c25
    refine aw_iload 0 dX7_valueOf_33 rfl ?_
    refine aw_aload_n 1 dX7_valueOf_35 rfl rfl ?_
    refine aw_get fX7_21 dX7_valueOf_36 hS rfl ?_
    refine aw_iload_n 3 dX7_valueOf_39 rfl rfl ?_
    refine aw_bipush (8) dX7_valueOf_40 (by decide) ?_
    refine aw_imul dX7_valueOf_42 ?_
    refine aw_iload_n 4 dX7_valueOf_43 rfl rfl ?_
    refine aw_iadd dX7_valueOf_44 ?_
    refine aw_iald ((la * 8) + nx) (nv_add (nv_mul (rfl) (rfl)) (rfl)) (by omega) (by decide) dX7_valueOf_45 hS_4 ?_
    refine aw_iadd dX7_valueOf_46 ?_
    subst hQF
    exact aw_iret rfl dX7_valueOf_47 (by decide) (by decide) ⟨by unfold vaF; rw [if_neg d25], rfl⟩
  · have d25 := (nv_eq (a := st) (b := 0) (rfl) (rfl) (by omega) (by omega)).mp c25
    refine aw_iload 0 dX7_valueOf_28 rfl ?_
    refine aw_goto 47 dX7_valueOf_30 (by decide) ?_
    subst hQF
    exact aw_iret rfl dX7_valueOf_47 (by decide) (by decide) ⟨by unfold vaF; rw [if_pos d25], rfl⟩
set_option maxHeartbeats 4000000 in
theorem aX7_weighState {l : Launch} {G : xG} {h : List va_E} {S sz b0 y0 : Nat} {tt su : Int32} {po : Nat → Nat} {tg lf be le re gg bs to : Nat → Int32} {st la : Nat} (hS : h[S]? = some (oB 7 (lSh G S (nI sz) tt su (nI b0) (nI y0)))) (hS_1 : h[S + 1]? = some (aI 8 tg)) (hS_2 : h[S + 2]? = some (aI 12 (nA po))) (hS_3 : h[S + 3]? = some (aI 64 lf)) (hS_4 : h[S + 4]? = some (aI 64 be)) (hS_5 : h[S + 5]? = some (aI 8 le)) (hS_6 : h[S + 6]? = some (aI 8 re)) (hS_7 : h[S + 7]? = some (aI 8 gg)) (hS_8 : h[S + 8]? = some (aI 2048 bs)) (hS_9 : h[S + 9]? = some (aI 8 to)) (hsz : sz ≤ 8) (bst : st < 256) (bla : la < 8) : CD l G yX7_weighState cX7_weighState 5 (some .int) 1 0 0 [.ref (G.1 + S), .int (nI st), .int (nI la)] h (some (.int (wsF gg bs be st la sz))) h := by
  refine cm_ofQ rfl (Nat.le_of_ble_eq_true rfl) [(0, .ref (G.1 + S)), (1, .int (nI st)), (2, .int (nI la))] rfl (fun QF hQF => ?_)
  refine aw_iconst (0) dX7_weighState_0 (by decide) ?_
  refine aw_istore_n [(3, .int 0), (0, .ref (G.1 + S)), (1, .int (nI st)), (2, .int (nI la))] dX7_weighState_1 rfl (by decide) rfl ?_
  refine aw_iconst (0) dX7_weighState_2 (by decide) ?_
  refine aw_istore [(4, .int 0), (3, .int 0), (0, .ref (G.1 + S)), (1, .int (nI st)), (2, .int (nI la))] dX7_weighState_3 (by decide) rfl ?_
  refine aw_lv [(4, .int 0), (3, .int 0), (2, .int (nI la)), (1, .int (nI st)), (0, .ref (G.1 + S))] [0, 1, 4, 3, 2] rfl ?_
  suffices L68 : ∀ (mm : Nat) (i : Nat) (mo : Int32), sz - i < mm → (i ≤ sz) → (mo = (wsF gg bs be st la i)) → AW l G yX7_weighState cX7_weighState 5 (some .int) (xR 1 0 0) (fun _ _ => True) QF 0 0 5 [(4, .int (nI i)), (3, .int mo), (2, .int (nI la)), (1, .int (nI st)), (0, .ref (G.1 + S))] [] h from L68 (sz - 0 + 1) 0 0 (Nat.lt_succ_self _) (Nat.zero_le _) (rfl)
  intro mm
  induction mm with
  | zero =>
    intro i mo hmm hi hm
    exact absurd hmm (Nat.not_lt_zero _)
  | succ mm ih68 =>
    intro i mo hmm hi hm
    refine aw_iload 0 dX7_weighState_5 rfl ?_
    refine aw_aload_n 4 dX7_weighState_7 rfl rfl ?_
    refine aw_get fX7_39 dX7_weighState_8 hS rfl ?_
    refine aw_icmp_ge 42 dX7_weighState_11 (by decide) (fun c11 => ?_) (fun c11 => ?_)
    · have d11 := (nv_le (a := sz) (b := i) (rfl) (rfl) (by omega) (by omega)).mp c11
      refine aw_iload_n 1 dX7_weighState_42 rfl rfl ?_
      subst hQF
      exact aw_iret rfl dX7_weighState_43 (by decide) (by decide) ⟨by rw [hm, show i = sz by omega], rfl⟩
    · have d11 := mt (nv_le (a := sz) (b := i) (rfl) (rfl) (by omega) (by omega)).mpr c11
      refine aw_iload_n 3 dX7_weighState_14 rfl rfl ?_
      refine aw_iload 0 dX7_weighState_15 rfl ?_
      refine aw_ishr dX7_weighState_17 ?_
      refine aw_iconst (1) dX7_weighState_18 (by decide) ?_
      refine aw_iand dX7_weighState_19 ?_
      refine aw_toe (if st.testBit i = true then 1 else 0) (nv_bit (rfl) (rfl) (by omega) (by omega)) ?_
      refine aw_if_ne 36 dX7_weighState_20 (by decide) (fun c20 => ?_) (fun c20 => ?_)
      · have t20 := ite_1 c20
        refine aw_iinc (j := 0) (nI (i + 1)) [(4, .int (nI (i + 1))), (3, .int mo), (2, .int (nI la)), (1, .int (nI st)), (0, .ref (G.1 + S))] dX7_weighState_36 rfl (nv_inc (rfl)) (by decide) rfl ?_
        refine aw_goto 5 dX7_weighState_39 (by decide) ?_
        refine aw_lv [(4, .int (nI (i + 1))), (3, .int mo), (2, .int (nI la)), (1, .int (nI st)), (0, .ref (G.1 + S))] [0, 1, 2, 3, 4] rfl ?_
        exact ih68 (i + 1) mo (by omega) (by omega) (by simp only [wsF]; rw [if_pos t20]; exact hm)
      · have t20 := ite_0 c20
        refine aw_iload_n 1 dX7_weighState_23 rfl rfl ?_
        refine aw_aload_n 4 dX7_weighState_24 rfl rfl ?_
        refine aw_iload_n 3 dX7_weighState_25 rfl rfl ?_
        refine aw_iload_n 2 dX7_weighState_26 rfl rfl ?_
        refine aw_iload 0 dX7_weighState_27 rfl ?_
        refine aw_dV [.int (nI st), .int (nI la), .int (nI i)] [.int mo] lX7_96 vX7_valueOf mX7_valueOf dX7_weighState_29 (aX7_valueOf (S := S) (sz := sz) (b0 := b0) (y0 := y0) (tt := tt) (su := su) (po := po) (tg := tg) (lf := lf) (be := be) (le := le) (re := re) (gg := gg) (bs := bs) (to := to) (st := st) (la := la) (nx := i) hS hS_1 hS_2 hS_3 hS_4 hS_5 hS_6 hS_7 hS_8 hS_9 (by omega) (by omega) (by omega)) hS rfl rfl rfl (Nat.le_of_ble_eq_true rfl) (by decide) (by decide) rfl ?_
        refine aw_mmax lX7_100 dX7_weighState_32 (Nat.le_of_ble_eq_true rfl) (by decide) (by decide) ?_
        refine aw_istore_n [(3, .int (if mo < (vaF gg bs be st la i) then (vaF gg bs be st la i) else mo)), (4, .int (nI i)), (2, .int (nI la)), (1, .int (nI st)), (0, .ref (G.1 + S))] dX7_weighState_35 rfl (by decide) rfl ?_
        refine aw_iinc (j := 1) (nI (i + 1)) [(4, .int (nI (i + 1))), (3, .int (if mo < (vaF gg bs be st la i) then (vaF gg bs be st la i) else mo)), (2, .int (nI la)), (1, .int (nI st)), (0, .ref (G.1 + S))] dX7_weighState_36 rfl (nv_inc (rfl)) (by decide) rfl ?_
        refine aw_goto 5 dX7_weighState_39 (by decide) ?_
        refine aw_lv [(4, .int (nI (i + 1))), (3, .int (if mo < (vaF gg bs be st la i) then (vaF gg bs be st la i) else mo)), (2, .int (nI la)), (1, .int (nI st)), (0, .ref (G.1 + S))] [0, 1, 2, 3, 4] rfl ?_
        exact ih68 (i + 1) (if mo < (vaF gg bs be st la i) then (vaF gg bs be st la i) else mo) (by omega) (by omega) (by simp only [wsF]; rw [if_neg t20, ← hm])
set_option maxHeartbeats 4000000 in
theorem aX7_firstBest {l : Launch} {G : xG} {h : List va_E} {S sz b0 y0 : Nat} {tt su : Int32} {po : Nat → Nat} {tg lf be le re gg bs to : Nat → Int32} {st la : Nat} (hS : h[S]? = some (oB 7 (lSh G S (nI sz) tt su (nI b0) (nI y0)))) (hS_1 : h[S + 1]? = some (aI 8 tg)) (hS_2 : h[S + 2]? = some (aI 12 (nA po))) (hS_3 : h[S + 3]? = some (aI 64 lf)) (hS_4 : h[S + 4]? = some (aI 64 be)) (hS_5 : h[S + 5]? = some (aI 8 le)) (hS_6 : h[S + 6]? = some (aI 8 re)) (hS_7 : h[S + 7]? = some (aI 8 gg)) (hS_8 : h[S + 8]? = some (aI 2048 bs)) (hS_9 : h[S + 9]? = some (aI 8 to)) (hsz : sz ≤ 8) (bst : st < 256) (bla : la < 8) : CD l G yX7_firstBest cX7_firstBest 5 (some .int) 2 0 0 [.ref (G.1 + S), .int (nI st), .int (nI la)] h (some (.int (nI (fbF gg bs be st la (wsF gg bs be st la sz) sz 0)))) h := by
  refine cm_ofQ rfl (Nat.le_of_ble_eq_true rfl) [(0, .ref (G.1 + S)), (1, .int (nI st)), (2, .int (nI la))] rfl (fun QF hQF => ?_)
  refine aw_aload_n 0 dX7_firstBest_0 rfl rfl ?_
  refine aw_iload_n 1 dX7_firstBest_1 rfl rfl ?_
  refine aw_iload_n 2 dX7_firstBest_2 rfl rfl ?_
  refine aw_dV [.int (nI st), .int (nI la)] [] lX7_92 vX7_weighState mX7_weighState dX7_firstBest_3 (aX7_weighState (S := S) (sz := sz) (b0 := b0) (y0 := y0) (tt := tt) (su := su) (po := po) (tg := tg) (lf := lf) (be := be) (le := le) (re := re) (gg := gg) (bs := bs) (to := to) (st := st) (la := la) hS hS_1 hS_2 hS_3 hS_4 hS_5 hS_6 hS_7 hS_8 hS_9 (by omega) (by omega) (by omega)) hS rfl rfl rfl (Nat.le_of_ble_eq_true rfl) (by decide) (by decide) rfl ?_
  refine aw_istore_n [(3, .int (wsF gg bs be st la sz)), (0, .ref (G.1 + S)), (1, .int (nI st)), (2, .int (nI la))] dX7_firstBest_6 rfl (by decide) rfl ?_
  refine aw_iconst (0) dX7_firstBest_7 (by decide) ?_
  refine aw_istore [(4, .int 0), (3, .int (wsF gg bs be st la sz)), (0, .ref (G.1 + S)), (1, .int (nI st)), (2, .int (nI la))] dX7_firstBest_8 (by decide) rfl ?_
  refine aw_lv [(4, .int 0), (3, .int (wsF gg bs be st la sz)), (2, .int (nI la)), (1, .int (nI st)), (0, .ref (G.1 + S))] [0, 1, 4, 3, 2] rfl ?_
  suffices L69 : ∀ (mm : Nat) (i : Nat), sz - i < mm → (i ≤ sz) → ((fbF gg bs be st la (wsF gg bs be st la sz) sz 0) = fbF gg bs be st la (wsF gg bs be st la sz) (sz - i) i) → AW l G yX7_firstBest cX7_firstBest 5 (some .int) (xR 2 0 0) (fun _ _ => True) QF 0 0 10 [(4, .int (nI i)), (3, .int (wsF gg bs be st la sz)), (2, .int (nI la)), (1, .int (nI st)), (0, .ref (G.1 + S))] [] h from L69 (sz - 0 + 1) 0 (Nat.lt_succ_self _) (Nat.zero_le _) (rfl)
  intro mm
  induction mm with
  | zero =>
    intro i hmm hi hm
    exact absurd hmm (Nat.not_lt_zero _)
  | succ mm ih69 =>
    intro i hmm hi hm
    refine aw_iload 0 dX7_firstBest_10 rfl ?_
    refine aw_aload_n 4 dX7_firstBest_12 rfl rfl ?_
    refine aw_get fX7_39 dX7_firstBest_13 hS rfl ?_
    refine aw_icmp_ge 49 dX7_firstBest_16 (by decide) (fun c16 => ?_) (fun c16 => ?_)
    · have d16 := (nv_le (a := sz) (b := i) (rfl) (rfl) (by omega) (by omega)).mp c16
      refine aw_iconst (0) dX7_firstBest_49 (by decide) ?_
      subst hQF
      exact aw_iret rfl dX7_firstBest_50 (by decide) (by decide) ⟨by rw [hm, show sz - i = 0 by omega]; rfl, rfl⟩
    · have d16 := mt (nv_le (a := sz) (b := i) (rfl) (rfl) (by omega) (by omega)).mpr c16
      refine aw_iload_n 3 dX7_firstBest_19 rfl rfl ?_
      refine aw_iload 0 dX7_firstBest_20 rfl ?_
      refine aw_ishr dX7_firstBest_22 ?_
      refine aw_iconst (1) dX7_firstBest_23 (by decide) ?_
      refine aw_iand dX7_firstBest_24 ?_
      refine aw_toe (if st.testBit i = true then 1 else 0) (nv_bit (rfl) (rfl) (by omega) (by omega)) ?_
      refine aw_if_ne 43 dX7_firstBest_25 (by decide) (fun c25 => ?_) (fun c25 => ?_)
      · have t25 := ite_1 c25
        refine aw_iinc (j := 0) (nI (i + 1)) [(4, .int (nI (i + 1))), (3, .int (wsF gg bs be st la sz)), (2, .int (nI la)), (1, .int (nI st)), (0, .ref (G.1 + S))] dX7_firstBest_43 rfl (nv_inc (rfl)) (by decide) rfl ?_
        refine aw_goto 10 dX7_firstBest_46 (by decide) ?_
        refine aw_lv [(4, .int (nI (i + 1))), (3, .int (wsF gg bs be st la sz)), (2, .int (nI la)), (1, .int (nI st)), (0, .ref (G.1 + S))] [0, 1, 2, 3, 4] rfl ?_
        exact ih69 (i + 1) (by omega) (by omega) (by rw [hm, show sz - i = (sz - (i + 1)) + 1 by omega]; simp only [fbF]; rw [if_pos t25])
      · have t25 := ite_0 c25
        refine aw_aload_n 4 dX7_firstBest_28 rfl rfl ?_
        refine aw_iload_n 3 dX7_firstBest_29 rfl rfl ?_
        refine aw_iload_n 2 dX7_firstBest_30 rfl rfl ?_
        refine aw_iload 0 dX7_firstBest_31 rfl ?_
        refine aw_dV [.int (nI st), .int (nI la), .int (nI i)] [] lX7_96 vX7_valueOf mX7_valueOf dX7_firstBest_33 (aX7_valueOf (S := S) (sz := sz) (b0 := b0) (y0 := y0) (tt := tt) (su := su) (po := po) (tg := tg) (lf := lf) (be := be) (le := le) (re := re) (gg := gg) (bs := bs) (to := to) (st := st) (la := la) (nx := i) hS hS_1 hS_2 hS_3 hS_4 hS_5 hS_6 hS_7 hS_8 hS_9 (by omega) (by omega) (by omega)) hS rfl rfl rfl (Nat.le_of_ble_eq_true rfl) (by decide) (by decide) rfl ?_
        refine aw_iload_n 1 dX7_firstBest_36 rfl rfl ?_
        refine aw_icmp_ne 43 dX7_firstBest_37 (by decide) (fun c37 => ?_) (fun c37 => ?_)
        · refine aw_iinc (j := 0) (nI (i + 1)) [(4, .int (nI (i + 1))), (3, .int (wsF gg bs be st la sz)), (2, .int (nI la)), (1, .int (nI st)), (0, .ref (G.1 + S))] dX7_firstBest_43 rfl (nv_inc (rfl)) (by decide) rfl ?_
          refine aw_goto 10 dX7_firstBest_46 (by decide) ?_
          refine aw_lv [(4, .int (nI (i + 1))), (3, .int (wsF gg bs be st la sz)), (2, .int (nI la)), (1, .int (nI st)), (0, .ref (G.1 + S))] [0, 1, 2, 3, 4] rfl ?_
          exact ih69 (i + 1) (by omega) (by omega) (by rw [hm, show sz - i = (sz - (i + 1)) + 1 by omega]; simp only [fbF]; rw [if_neg t25, if_neg c37])
        · refine aw_iload 0 dX7_firstBest_40 rfl ?_
          subst hQF
          exact aw_iret rfl dX7_firstBest_42 (by decide) (by decide) ⟨by rw [hm, show sz - i = (sz - (i + 1)) + 1 by omega]; simp only [fbF]; rw [if_neg t25, if_pos c37], rfl⟩
theorem wt_s {le re lf be : Nat → Int32} {sz w : Nat} {b2 g1 b3 : Nat → Int32} (h : 0 < w) (e : b3 = wlF (gaF le re lf sz w g1 sz) be sz w b2 sz) : wtF le re lf be sz w (b2, g1) = wtF le re lf be sz (w - 1) (b3, gaF le re lf sz w g1 sz) := by
  obtain ⟨v, rfl⟩ : ∃ v, w = v + 1 := ⟨w - 1, by omega⟩
  rw [e]; rfl
set_option maxHeartbeats 4000000 in
theorem aX7_weighStates {l : Launch} {G : xG} {h : List va_E} {S sz b0 y0 : Nat} {tt su : Int32} {po : Nat → Nat} {tg lf be le re gg bs to : Nat → Int32} (hS : h[S]? = some (oB 7 (lSh G S (nI sz) tt su (nI b0) (nI y0)))) (hS_1 : h[S + 1]? = some (aI 8 tg)) (hS_2 : h[S + 2]? = some (aI 12 (nA po))) (hS_3 : h[S + 3]? = some (aI 64 lf)) (hS_4 : h[S + 4]? = some (aI 64 be)) (hS_5 : h[S + 5]? = some (aI 8 le)) (hS_6 : h[S + 6]? = some (aI 8 re)) (hS_7 : h[S + 7]? = some (aI 8 gg)) (hS_8 : h[S + 8]? = some (aI 2048 bs)) (hS_9 : h[S + 9]? = some (aI 8 to)) (hsz : sz ≤ 8) (h0 : 0 < sz) : CE l G yX7_weighStates cX7_weighStates 4 none 2 0 0 [.ref (G.1 + S)] h none (fun h1 => ∃ su1 : Int32, ∃ gg1 : Nat → Int32, ∃ bs1 : Nat → Int32, h1[S]? = some (oB 7 (lSh G S (nI sz) tt su1 (nI b0) (nI y0))) ∧ h1[S + 1]? = some (aI 8 tg) ∧ h1[S + 2]? = some (aI 12 (nA po)) ∧ h1[S + 3]? = some (aI 64 lf) ∧ h1[S + 4]? = some (aI 64 be) ∧ h1[S + 5]? = some (aI 8 le) ∧ h1[S + 6]? = some (aI 8 re) ∧ h1[S + 7]? = some (aI 8 gg1) ∧ h1[S + 8]? = some (aI 2048 bs1) ∧ h1[S + 9]? = some (aI 8 to) ∧ rng S (S + 9) h h1 ∧ bs1 = (wtF le re lf be sz (2 ^ sz - 1 - 1) (wzF (2 ^ sz - 1) bs sz, gg)).1 ∧ gg1 = (gaF le re lf sz 0 (wtF le re lf be sz (2 ^ sz - 1 - 1) (wzF (2 ^ sz - 1) bs sz, gg)).2 sz) ∧ su1 = wsF gg1 bs1 be 0 0 sz) := by
  refine cm_ofQ rfl (Nat.le_of_ble_eq_true rfl) [(0, .ref (G.1 + S))] rfl (fun QF hQF => ?_)
  have bp := pw8 sz hsz
  have bp2 := pw2 sz hsz h0
  refine aw_iconst (1) dX7_weighStates_0 (by decide) ?_
  refine aw_aload_n 0 dX7_weighStates_1 rfl rfl ?_
  refine aw_get fX7_39 dX7_weighStates_2 hS rfl ?_
  refine aw_ishl dX7_weighStates_5 ?_
  refine aw_toe (nI (2 ^ sz)) (nv_shl1 (rfl) (by omega)) ?_
  refine aw_iconst (1) dX7_weighStates_6 (by decide) ?_
  refine aw_isub dX7_weighStates_7 ?_
  refine aw_toe (nI ((2 ^ sz) - 1)) (nv_sub (rfl) (rfl) (by omega)) ?_
  refine aw_istore_n [(1, .int (nI ((2 ^ sz) - 1))), (0, .ref (G.1 + S))] dX7_weighStates_8 rfl (by decide) rfl ?_
  refine aw_iconst (0) dX7_weighStates_9 (by decide) ?_
  refine aw_istore_n [(2, .int 0), (1, .int (nI ((2 ^ sz) - 1))), (0, .ref (G.1 + S))] dX7_weighStates_10 rfl (by decide) rfl ?_
  refine aw_lv [(2, .int 0), (1, .int (nI ((2 ^ sz) - 1))), (0, .ref (G.1 + S))] [0, 1, 2] rfl ?_
  suffices L82 : ∀ (mm : Nat) (i : Nat) (b1 : Nat → Int32) (h70 : List va_E), sz - i < mm → (i ≤ sz) → (b1 = wzF (2 ^ sz - 1) bs i) → h70[S]? = some (oB 7 (lSh G S (nI sz) tt su (nI b0) (nI y0))) → h70[S + 1]? = some (aI 8 tg) → h70[S + 2]? = some (aI 12 (nA po)) → h70[S + 3]? = some (aI 64 lf) → h70[S + 4]? = some (aI 64 be) → h70[S + 5]? = some (aI 8 le) → h70[S + 6]? = some (aI 8 re) → h70[S + 7]? = some (aI 8 gg) → h70[S + 8]? = some (aI 2048 b1) → h70[S + 9]? = some (aI 8 to) → rng S (S + 9) h h70 → AW l G yX7_weighStates cX7_weighStates 4 none (xR 2 0 0) (fun _ _ => True) QF 0 0 11 [(2, .int (nI i)), (1, .int (nI (2 ^ sz - 1))), (0, .ref (G.1 + S))] [] h70 from L82 (sz - 0 + 1) 0 bs _ (Nat.lt_succ_self _) (Nat.zero_le _) (rfl) hS hS_1 hS_2 hS_3 hS_4 hS_5 hS_6 hS_7 hS_8 hS_9 (rng_rf S (S + 9) h)
  intro mm
  induction mm with
  | zero =>
    intro i b1 h70 hmm hi hz f71 f72 f73 f74 f75 f76 f77 f78 f79 f80 k81
    exact absurd hmm (Nat.not_lt_zero _)
  | succ mm ih82 =>
    intro i b1 h70 hmm hi hz f71 f72 f73 f74 f75 f76 f77 f78 f79 f80 k81
    refine aw_iload_n 0 dX7_weighStates_11 rfl rfl ?_
    refine aw_aload_n 2 dX7_weighStates_12 rfl rfl ?_
    refine aw_get fX7_39 dX7_weighStates_13 f71 rfl ?_
    refine aw_icmp_ge 37 dX7_weighStates_16 (by decide) (fun c16 => ?_) (fun c16 => ?_)
    · have d16 := (nv_le (a := sz) (b := i) (rfl) (rfl) (by omega) (by omega)).mp c16
      refine aw_iload_n 1 dX7_weighStates_37 rfl rfl ?_
      refine aw_iconst (1) dX7_weighStates_38 (by decide) ?_
      refine aw_isub dX7_weighStates_39 ?_
      refine aw_toe (nI ((2 ^ sz - 1) - 1)) (nv_sub (rfl) (rfl) (by omega)) ?_
      refine aw_istore_n [(2, .int (nI ((2 ^ sz - 1) - 1))), (1, .int (nI (2 ^ sz - 1))), (0, .ref (G.1 + S))] dX7_weighStates_40 rfl (by decide) rfl ?_
      have hz2 : b1 = wzF (2 ^ sz - 1) bs sz := by rw [hz, show i = sz by omega]
      refine aw_lv [(2, .int (nI ((2 ^ sz - 1) - 1))), (1, .int (nI (2 ^ sz - 1))), (0, .ref (G.1 + S))] [0, 1, 2] rfl ?_
      suffices L95 : ∀ (mm : Nat) (w : Nat) (g1 : Nat → Int32) (b2 : Nat → Int32) (h83 : List va_E), w < mm → (w < 256) → (wtF le re lf be sz (2 ^ sz - 1 - 1) (wzF (2 ^ sz - 1) bs sz, gg) = wtF le re lf be sz w (b2, g1)) → h83[S]? = some (oB 7 (lSh G S (nI sz) tt su (nI b0) (nI y0))) → h83[S + 1]? = some (aI 8 tg) → h83[S + 2]? = some (aI 12 (nA po)) → h83[S + 3]? = some (aI 64 lf) → h83[S + 4]? = some (aI 64 be) → h83[S + 5]? = some (aI 8 le) → h83[S + 6]? = some (aI 8 re) → h83[S + 7]? = some (aI 8 g1) → h83[S + 8]? = some (aI 2048 b2) → h83[S + 9]? = some (aI 8 to) → rng S (S + 9) h h83 → AW l G yX7_weighStates cX7_weighStates 4 none (xR 2 0 0) (fun _ _ => True) QF 0 0 41 [(2, .int (nI w)), (1, .int (nI (2 ^ sz - 1))), (0, .ref (G.1 + S))] [] h83 from L95 ((2 ^ sz - 1 - 1) + 1) (2 ^ sz - 1 - 1) gg b1 _ (Nat.lt_succ_self _) (by omega) (by rw [hz2]) f71 f72 f73 f74 f75 f76 f77 f78 f79 f80 (k81)
      intro mm
      induction mm with
      | zero =>
        intro w g1 b2 h83 hmm bw hw f84 f85 f86 f87 f88 f89 f90 f91 f92 f93 k94
        exact absurd hmm (Nat.not_lt_zero _)
      | succ mm ih95 =>
        intro w g1 b2 h83 hmm bw hw f84 f85 f86 f87 f88 f89 f90 f91 f92 f93 k94
        refine aw_iload_n 0 dX7_weighStates_41 rfl rfl ?_
        refine aw_if_le 97 dX7_weighStates_42 (by decide) (fun c42 => ?_) (fun c42 => ?_)
        · have d42 := (nv_le (a := w) (b := 0) (rfl) (rfl) (by omega) (by omega)).mp c42
          have b0 : w = 0 := by omega
          subst b0
          have hw2 : wtF le re lf be sz (2 ^ sz - 1 - 1) (wzF (2 ^ sz - 1) bs sz, gg) = (b2, g1) := hw
          refine aw_aload_n 2 dX7_weighStates_97 rfl rfl ?_
          refine aw_iconst (0) dX7_weighStates_98 (by decide) ?_
          refine aw_eW [.int 0] [] lX7_89 vX7_readGains mX7_readGains dX7_weighStates_99 (aX7_readGains (S := S) (sz := sz) (b0 := b0) (y0 := y0) (tt := tt) (su := su) (po := po) (tg := tg) (lf := lf) (be := be) (le := le) (re := re) (gg := g1) (bs := b2) (to := to) (st := 0) f84 f85 f86 f87 f88 f89 f90 f91 f92 f93 (by omega) (by omega)) f84 rfl rfl rfl (Nat.le_of_ble_eq_true rfl) (by decide) (by decide) rfl (fun h97 q96 => ?_)
          obtain ⟨f98, f99, f100, f101, f102, f103, f104, f105, f106, f107, k108⟩ := q96
          refine aw_aload_n 2 dX7_weighStates_102 rfl rfl ?_
          refine aw_aload_n 2 dX7_weighStates_103 rfl rfl ?_
          refine aw_iconst (0) dX7_weighStates_104 (by decide) ?_
          refine aw_iconst (0) dX7_weighStates_105 (by decide) ?_
          refine aw_dV [.int 0, .int 0] [.ref (G.1 + S)] lX7_92 vX7_weighState mX7_weighState dX7_weighStates_106 (aX7_weighState (S := S) (sz := sz) (b0 := b0) (y0 := y0) (tt := tt) (su := su) (po := po) (tg := tg) (lf := lf) (be := be) (le := le) (re := re) (gg := gaF le re lf sz 0 g1 sz) (bs := b2) (to := to) (st := 0) (la := 0) f98 f99 f100 f101 f102 f103 f104 f105 f106 f107 (by omega) (by omega) (by omega)) f98 rfl rfl rfl (Nat.le_of_ble_eq_true rfl) (by decide) (by decide) rfl ?_
          refine aw_putQ fX7_46 dX7_weighStates_109 (lSh G S (nI sz) tt (wsF (gaF le re lf sz 0 g1 sz) b2 be 0 0 sz) (nI b0) (nI y0)) f98 rfl rfl rfl (Nat.le_of_ble_eq_true rfl) rfl ?_
          subst hQF
          exact aw_vret rfl dX7_weighStates_112 (by decide) (by decide) ⟨rfl, _, _, _, (gs f98), (gn (by omega) (f99)), (gn (by omega) (f100)), (gn (by omega) (f101)), (gn (by omega) (f102)), (gn (by omega) (f103)), (gn (by omega) (f104)), (gn (by omega) (f105)), (gn (by omega) (f106)), (gn (by omega) (f107)), rng_set (rng_tr (k94) (rng_w k108 (by omega) (by omega))) (by omega) (by omega), by rw [hw2], by rw [hw2], rfl⟩
        · have d42 := mt (nv_le (a := w) (b := 0) (rfl) (rfl) (by omega) (by omega)).mpr c42
          refine aw_aload_n 2 dX7_weighStates_45 rfl rfl ?_
          refine aw_iload_n 0 dX7_weighStates_46 rfl rfl ?_
          refine aw_eW [.int (nI w)] [] lX7_89 vX7_readGains mX7_readGains dX7_weighStates_47 (aX7_readGains (S := S) (sz := sz) (b0 := b0) (y0 := y0) (tt := tt) (su := su) (po := po) (tg := tg) (lf := lf) (be := be) (le := le) (re := re) (gg := g1) (bs := b2) (to := to) (st := w) f84 f85 f86 f87 f88 f89 f90 f91 f92 f93 (by omega) (by omega)) f84 rfl rfl rfl (Nat.le_of_ble_eq_true rfl) (by decide) (by decide) rfl (fun h110 q109 => ?_)
          obtain ⟨f111, f112, f113, f114, f115, f116, f117, f118, f119, f120, k121⟩ := q109
          refine aw_iconst (0) dX7_weighStates_50 (by decide) ?_
          refine aw_istore_n [(3, .int 0), (2, .int (nI w)), (1, .int (nI (2 ^ sz - 1))), (0, .ref (G.1 + S))] dX7_weighStates_51 rfl (by decide) rfl ?_
          refine aw_lv [(3, .int 0), (2, .int (nI w)), (1, .int (nI (2 ^ sz - 1))), (0, .ref (G.1 + S))] [0, 1, 2, 3] rfl ?_
          suffices L134 : ∀ (mm : Nat) (q : Nat) (b3 : Nat → Int32) (h122 : List va_E), sz - q < mm → (q ≤ sz) → (b3 = wlF (gaF le re lf sz w g1 sz) be sz w b2 q) → h122[S]? = some (oB 7 (lSh G S (nI sz) tt su (nI b0) (nI y0))) → h122[S + 1]? = some (aI 8 tg) → h122[S + 2]? = some (aI 12 (nA po)) → h122[S + 3]? = some (aI 64 lf) → h122[S + 4]? = some (aI 64 be) → h122[S + 5]? = some (aI 8 le) → h122[S + 6]? = some (aI 8 re) → h122[S + 7]? = some (aI 8 (gaF le re lf sz w g1 sz)) → h122[S + 8]? = some (aI 2048 b3) → h122[S + 9]? = some (aI 8 to) → rng S (S + 9) h h122 → AW l G yX7_weighStates cX7_weighStates 4 none (xR 2 0 0) (fun _ _ => True) QF 0 0 52 [(3, .int (nI q)), (2, .int (nI w)), (1, .int (nI (2 ^ sz - 1))), (0, .ref (G.1 + S))] [] h122 from L134 (sz - 0 + 1) 0 b2 _ (Nat.lt_succ_self _) (Nat.zero_le _) (rfl) f111 f112 f113 f114 f115 f116 f117 f118 f119 f120 (rng_tr (k94) (rng_w k121 (by omega) (by omega)))
          intro mm
          induction mm with
          | zero =>
            intro q b3 h122 hmm hq hb f123 f124 f125 f126 f127 f128 f129 f130 f131 f132 k133
            exact absurd hmm (Nat.not_lt_zero _)
          | succ mm ih134 =>
            intro q b3 h122 hmm hq hb f123 f124 f125 f126 f127 f128 f129 f130 f131 f132 k133
            refine aw_iload_n 0 dX7_weighStates_52 rfl rfl ?_
            refine aw_aload_n 3 dX7_weighStates_53 rfl rfl ?_
            refine aw_get fX7_39 dX7_weighStates_54 f123 rfl ?_
            refine aw_icmp_ge 91 dX7_weighStates_57 (by decide) (fun c57 => ?_) (fun c57 => ?_)
            · have d57 := (nv_le (a := sz) (b := q) (rfl) (rfl) (by omega) (by omega)).mp c57
              refine aw_iinc (j := 1) (nI (w - 1)) [(2, .int (nI (w - 1))), (3, .int (nI q)), (1, .int (nI (2 ^ sz - 1))), (0, .ref (G.1 + S))] dX7_weighStates_91 rfl (nv_dm (rfl) (by omega)) (by decide) rfl ?_
              refine aw_goto 41 dX7_weighStates_94 (by decide) ?_
              refine aw_lv [(2, .int (nI (w - 1))), (1, .int (nI (2 ^ sz - 1))), (0, .ref (G.1 + S))] [0, 2, 3] rfl ?_
              exact ih95 (w - 1) (gaF le re lf sz w g1 sz) b3 _ (by omega) (by omega) (hw.trans (wt_s (by omega) (by rw [hb, show q = sz by omega]))) f123 f124 f125 f126 f127 f128 f129 f130 f131 f132 (k133)
            · have d57 := mt (nv_le (a := sz) (b := q) (rfl) (rfl) (by omega) (by omega)).mpr c57
              refine aw_iload_n 1 dX7_weighStates_60 rfl rfl ?_
              refine aw_iload_n 0 dX7_weighStates_61 rfl rfl ?_
              refine aw_ishr dX7_weighStates_62 ?_
              refine aw_iconst (1) dX7_weighStates_63 (by decide) ?_
              refine aw_iand dX7_weighStates_64 ?_
              refine aw_toe (if w.testBit q = true then 1 else 0) (nv_bit (rfl) (rfl) (by omega) (by omega)) ?_
              refine aw_if_eq 85 dX7_weighStates_65 (by decide) (fun c65 => ?_) (fun c65 => ?_)
              · have t65 := ite_0 c65
                refine aw_iinc (j := 0) (nI (q + 1)) [(3, .int (nI (q + 1))), (2, .int (nI w)), (1, .int (nI (2 ^ sz - 1))), (0, .ref (G.1 + S))] dX7_weighStates_85 rfl (nv_inc (rfl)) (by decide) rfl ?_
                refine aw_goto 52 dX7_weighStates_88 (by decide) ?_
                refine aw_lv [(3, .int (nI (q + 1))), (2, .int (nI w)), (1, .int (nI (2 ^ sz - 1))), (0, .ref (G.1 + S))] [0, 1, 2, 3] rfl ?_
                exact ih134 (q + 1) b3 _ (by omega) (by omega) (by simp only [wlF]; rw [if_neg t65]; exact hb) f123 f124 f125 f126 f127 f128 f129 f130 f131 f132 (k133)
              · have t65 := ite_1 c65
                refine aw_aload_n 3 dX7_weighStates_68 rfl rfl ?_
                refine aw_get fX7_33 dX7_weighStates_69 f123 rfl ?_
                refine aw_iload_n 1 dX7_weighStates_72 rfl rfl ?_
                refine aw_bipush (8) dX7_weighStates_73 (by decide) ?_
                refine aw_imul dX7_weighStates_75 ?_
                refine aw_iload_n 0 dX7_weighStates_76 rfl rfl ?_
                refine aw_iadd dX7_weighStates_77 ?_
                refine aw_aload_n 3 dX7_weighStates_78 rfl rfl ?_
                refine aw_iload_n 1 dX7_weighStates_79 rfl rfl ?_
                refine aw_iload_n 0 dX7_weighStates_80 rfl rfl ?_
                refine aw_dV [.int (nI w), .int (nI q)] [.int (((nI w) * 8) + (nI q)), .ref (G.1 + (S + 8))] lX7_92 vX7_weighState mX7_weighState dX7_weighStates_81 (aX7_weighState (S := S) (sz := sz) (b0 := b0) (y0 := y0) (tt := tt) (su := su) (po := po) (tg := tg) (lf := lf) (be := be) (le := le) (re := re) (gg := gaF le re lf sz w g1 sz) (bs := b3) (to := to) (st := w) (la := q) f123 f124 f125 f126 f127 f128 f129 f130 f131 f132 (by omega) (by omega) (by omega)) f123 rfl rfl rfl (Nat.le_of_ble_eq_true rfl) (by decide) (by decide) rfl ?_
                refine aw_iast ((w * 8) + q) (nv_add (nv_mul (rfl) (rfl)) (rfl)) (by omega) (by decide) dX7_weighStates_84 f131 ?_
                refine aw_iinc (j := 0) (nI (q + 1)) [(3, .int (nI (q + 1))), (2, .int (nI w)), (1, .int (nI (2 ^ sz - 1))), (0, .ref (G.1 + S))] dX7_weighStates_85 rfl (nv_inc (rfl)) (by decide) rfl ?_
                refine aw_goto 52 dX7_weighStates_88 (by decide) ?_
                refine aw_lv [(3, .int (nI (q + 1))), (2, .int (nI w)), (1, .int (nI (2 ^ sz - 1))), (0, .ref (G.1 + S))] [0, 1, 2, 3] rfl ?_
                exact ih134 (q + 1) (upd b3 ((w * 8) + q) (wsF (gaF le re lf sz w g1 sz) b3 be w q sz)) _ (by omega) (by omega) (by simp only [wlF]; rw [if_pos t65, ← hb]) (gn (by omega) (f123)) (gn (by omega) (f124)) (gn (by omega) (f125)) (gn (by omega) (f126)) (gn (by omega) (f127)) (gn (by omega) (f128)) (gn (by omega) (f129)) (gn (by omega) (f130)) (gs f131) (gn (by omega) (f132)) (rng_set (k133) (by omega) (by omega))
    · have d16 := mt (nv_le (a := sz) (b := i) (rfl) (rfl) (by omega) (by omega)).mpr c16
      refine aw_aload_n 2 dX7_weighStates_19 rfl rfl ?_
      refine aw_get fX7_33 dX7_weighStates_20 f71 rfl ?_
      refine aw_iload_n 1 dX7_weighStates_23 rfl rfl ?_
      refine aw_bipush (8) dX7_weighStates_24 (by decide) ?_
      refine aw_imul dX7_weighStates_26 ?_
      refine aw_iload_n 0 dX7_weighStates_27 rfl rfl ?_
      refine aw_iadd dX7_weighStates_28 ?_
      refine aw_iconst (0) dX7_weighStates_29 (by decide) ?_
      refine aw_iast (((2 ^ sz - 1) * 8) + i) (nv_add (nv_mul (rfl) (rfl)) (rfl)) (by omega) (by decide) dX7_weighStates_30 f79 ?_
      refine aw_iinc (j := 0) (nI (i + 1)) [(2, .int (nI (i + 1))), (1, .int (nI (2 ^ sz - 1))), (0, .ref (G.1 + S))] dX7_weighStates_31 rfl (nv_inc (rfl)) (by decide) rfl ?_
      refine aw_goto 11 dX7_weighStates_34 (by decide) ?_
      refine aw_lv [(2, .int (nI (i + 1))), (1, .int (nI (2 ^ sz - 1))), (0, .ref (G.1 + S))] [0, 1, 2] rfl ?_
      exact ih82 (i + 1) (upd b1 (((2 ^ sz - 1) * 8) + i) 0) _ (by omega) (by omega) (by simp only [wzF]; rw [← hz]) (gn (by omega) (f71)) (gn (by omega) (f72)) (gn (by omega) (f73)) (gn (by omega) (f74)) (gn (by omega) (f75)) (gn (by omega) (f76)) (gn (by omega) (f77)) (gn (by omega) (f78)) (gs f79) (gn (by omega) (f80)) (rng_set (k81) (by omega) (by omega))
