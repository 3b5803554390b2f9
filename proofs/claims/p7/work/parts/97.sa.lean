/-- what a rebuilt shelf holds -/
def SHok (st : Nat) (so x y tr : Nat → Nat) (n sz : Nat) (tt su : Int32) (to : Nat → Int32) : Prop :=
  ∃ (tg0 : Nat → Int32) (po0 : Nat → Nat) (tg1 : Nat → Int32) (po1 : Nat → Nat) (lf0 be0 le0 re0 : Nat → Int32) (T1 : trT) (bs0 gg0 bs1 gg1 to0 : Nat → Int32),
    (∀ j, j < 12 → po0 j < 8) ∧ (sz, tg1, po1) = rtF st tg0 po0 12 ∧ (∀ j, j < 64 → lf0 j = 0 ∧ be0 j = 0) ∧ (∀ j, j < 8 → le0 j = 0 ∧ re0 j = 0) ∧ (tt, T1) = twF st so x y tr po1 (lf0, be0, le0, re0) n ∧
    bs1 = (wtF T1.2.2.1 T1.2.2.2 T1.1 T1.2.1 sz (2 ^ sz - 1 - 1) (wzF (2 ^ sz - 1) bs0 sz, gg0)).1 ∧ gg1 = gaF T1.2.2.1 T1.2.2.2 T1.1 sz 0 (wtF T1.2.2.1 T1.2.2.2 T1.1 T1.2.1 sz (2 ^ sz - 1 - 1) (wzF (2 ^ sz - 1) bs0 sz, gg0)).2 sz ∧ su = wsF gg1 bs1 T1.2.1 0 0 sz ∧ to = (trF T1.2.2.1 T1.2.2.2 T1.1 T1.2.1 bs1 tg1 sz gg1 to0 sz).2.2.2
set_option maxHeartbeats 4000000 in
theorem bR_h {l : Launch} {G : xG} {h : List va_E} {jv : Value} {S sz b0 y0 : Nat} {tt su : Int32} {po : Nat → Nat} {tg lf be le re gg bs to : Nat → Int32} {so x y tr : Nat → Nat} {n st : Nat} (h0 : h[0]? = some (oB 8 (lX G (jv) (.ref (G.1 + S))))) (hS : h[S]? = some (oB 7 (lSh G S (nI sz) tt su (nI b0) (nI y0)))) (hS_1 : h[S + 1]? = some (aI 8 tg)) (hS_2 : h[S + 2]? = some (aI 12 (nA po))) (hS_3 : h[S + 3]? = some (aI 64 lf)) (hS_4 : h[S + 4]? = some (aI 64 be)) (hS_5 : h[S + 5]? = some (aI 8 le)) (hS_6 : h[S + 6]? = some (aI 8 re)) (hS_7 : h[S + 7]? = some (aI 8 gg)) (hS_8 : h[S + 8]? = some (aI 2048 bs)) (hS_9 : h[S + 9]? = some (aI 8 to)) (h79 : h[79]? = some (oB 6 (lS G (nI n)))) (h80 : h[80]? = some (aI 40 (nA so))) (h81 : h[81]? = some (aI 40 (nA x))) (h82 : h[82]? = some (aI 40 (nA y))) (h83 : h[83]? = some (aI 40 (nA tr))) (bst : st < 4096) (hst : st ≠ 0) (hpo : ∀ j, j < 12 → po j < 8) (bb0 : b0 < 4096) (by0 : y0 ≤ 40) (hS1 : 125 ≤ S) (hsz : sz ≤ 8) (hn : n ≤ 40) (bso : ∀ j, j < 40 → so j < 4) (bx : ∀ j, j < 40 → x j < 12) (by_ : ∀ j, j < 40 → y j < 12) (hb : b0 = st ∧ y0 = n) : CD l G yX8_bestRow cX8_bestRow 2 (some (.object RX7)) 5 0 0 [.ref (G.1 + 0), .int (nI st)] h (some (.ref (G.1 + S))) h := by
  refine cm_ofQ rfl (Nat.le_of_ble_eq_true rfl) [(0, .ref (G.1 + 0)), (1, .int (nI st))] rfl (fun QF hQF => ?_)
  refine aw_aload_n 0 dX8_bestRow_0 rfl rfl ?_
  refine aw_get fX8_13 dX8_bestRow_1 h0 rfl ?_
  refine aw_nonnull 18 dX8_bestRow_4 (by decide) ?_
  refine aw_aload_n 0 dX8_bestRow_18 rfl rfl ?_
  refine aw_get fX8_13 dX8_bestRow_19 h0 rfl ?_
  refine aw_iload_n 1 dX8_bestRow_22 rfl rfl ?_
  refine aw_aload_n 0 dX8_bestRow_23 rfl rfl ?_
  refine aw_get fX8_51 dX8_bestRow_24 h0 rfl ?_
  refine aw_dW [.int (nI st), .ref (G.1 + 79)] [] lX8_268 vX7_rebuild mX7_rebuild dX8_bestRow_27 (aX7_rebuild_h (S := S) (sz := sz) (b0 := b0) (y0 := y0) (tt := tt) (su := su) (po := po) (tg := tg) (lf := lf) (be := be) (le := le) (re := re) (gg := gg) (bs := bs) (to := to) (so := so) (x := x) (y := y) (tr := tr) (n := n) (st := st) hS hS_1 hS_2 hS_3 hS_4 hS_5 hS_6 hS_7 hS_8 hS_9 h79 h80 h81 h82 h83 (by omega) (by omega) hpo (by omega) (by omega) (by omega) (by omega) bso bx by_ (by omega)) hS rfl rfl rfl (Nat.le_of_ble_eq_true rfl) (by decide) (by decide) rfl ?_
  refine aw_aload_n 0 dX8_bestRow_30 rfl rfl ?_
  refine aw_get fX8_13 dX8_bestRow_31 h0 rfl ?_
  subst hQF
  exact aw_aret rfl dX8_bestRow_34 (by decide) (by decide) ⟨rfl, rfl⟩
set_option maxHeartbeats 4000000 in
theorem bR_m {l : Launch} {G : xG} {h : List va_E} {jv : Value} {S sz b0 y0 : Nat} {tt su : Int32} {po : Nat → Nat} {tg lf be le re gg bs to : Nat → Int32} {so x y tr : Nat → Nat} {n st : Nat} (h0 : h[0]? = some (oB 8 (lX G (jv) (.ref (G.1 + S))))) (hS : h[S]? = some (oB 7 (lSh G S (nI sz) tt su (nI b0) (nI y0)))) (hS_1 : h[S + 1]? = some (aI 8 tg)) (hS_2 : h[S + 2]? = some (aI 12 (nA po))) (hS_3 : h[S + 3]? = some (aI 64 lf)) (hS_4 : h[S + 4]? = some (aI 64 be)) (hS_5 : h[S + 5]? = some (aI 8 le)) (hS_6 : h[S + 6]? = some (aI 8 re)) (hS_7 : h[S + 7]? = some (aI 8 gg)) (hS_8 : h[S + 8]? = some (aI 2048 bs)) (hS_9 : h[S + 9]? = some (aI 8 to)) (h79 : h[79]? = some (oB 6 (lS G (nI n)))) (h80 : h[80]? = some (aI 40 (nA so))) (h81 : h[81]? = some (aI 40 (nA x))) (h82 : h[82]? = some (aI 40 (nA y))) (h83 : h[83]? = some (aI 40 (nA tr))) (bst : st < 4096) (hst : st ≠ 0) (hpo : ∀ j, j < 12 → po j < 8) (bb0 : b0 < 4096) (by0 : y0 ≤ 40) (hS1 : 125 ≤ S) (hsz : sz ≤ 8) (hn : n ≤ 40) (bso : ∀ j, j < 40 → so j < 4) (bx : ∀ j, j < 40 → x j < 12) (by_ : ∀ j, j < 40 → y j < 12) (hb : ¬ (b0 = st ∧ y0 = n)) : CE l G yX8_bestRow cX8_bestRow 2 (some (.object RX7)) 5 0 0 [.ref (G.1 + 0), .int (nI st)] h (some (.ref (G.1 + S))) (fun h1 => ∃ sz1 : Nat, ∃ tt1 : Int32, ∃ su1 : Int32, ∃ po1 : Nat → Nat, ∃ tg1 : Nat → Int32, ∃ lf1 : Nat → Int32, ∃ be1 : Nat → Int32, ∃ le1 : Nat → Int32, ∃ re1 : Nat → Int32, ∃ gg1 : Nat → Int32, ∃ bs1 : Nat → Int32, ∃ to1 : Nat → Int32, h1[S]? = some (oB 7 (lSh G S (nI sz1) tt1 su1 (nI st) (nI n))) ∧ h1[S + 1]? = some (aI 8 tg1) ∧ h1[S + 2]? = some (aI 12 (nA po1)) ∧ h1[S + 3]? = some (aI 64 lf1) ∧ h1[S + 4]? = some (aI 64 be1) ∧ h1[S + 5]? = some (aI 8 le1) ∧ h1[S + 6]? = some (aI 8 re1) ∧ h1[S + 7]? = some (aI 8 gg1) ∧ h1[S + 8]? = some (aI 2048 bs1) ∧ h1[S + 9]? = some (aI 8 to1) ∧ rng S (S + 9) h h1 ∧ (∀ j, j < 12 → po1 j < 8) ∧ sz1 ≤ 8 ∧ SHok st so x y tr n sz1 tt1 su1 to1) := by
  refine cm_ofQ rfl (Nat.le_of_ble_eq_true rfl) [(0, .ref (G.1 + 0)), (1, .int (nI st))] rfl (fun QF hQF => ?_)
  refine aw_aload_n 0 dX8_bestRow_0 rfl rfl ?_
  refine aw_get fX8_13 dX8_bestRow_1 h0 rfl ?_
  refine aw_nonnull 18 dX8_bestRow_4 (by decide) ?_
  refine aw_aload_n 0 dX8_bestRow_18 rfl rfl ?_
  refine aw_get fX8_13 dX8_bestRow_19 h0 rfl ?_
  refine aw_iload_n 1 dX8_bestRow_22 rfl rfl ?_
  refine aw_aload_n 0 dX8_bestRow_23 rfl rfl ?_
  refine aw_get fX8_51 dX8_bestRow_24 h0 rfl ?_
  refine aw_eW [.int (nI st), .ref (G.1 + 79)] [] lX8_268 vX7_rebuild mX7_rebuild dX8_bestRow_27 (aX7_rebuild_m (S := S) (sz := sz) (b0 := b0) (y0 := y0) (tt := tt) (su := su) (po := po) (tg := tg) (lf := lf) (be := be) (le := le) (re := re) (gg := gg) (bs := bs) (to := to) (so := so) (x := x) (y := y) (tr := tr) (n := n) (st := st) hS hS_1 hS_2 hS_3 hS_4 hS_5 hS_6 hS_7 hS_8 hS_9 h79 h80 h81 h82 h83 (by omega) (by omega) hpo (by omega) (by omega) (by omega) (by omega) bso bx by_ (by omega)) hS rfl rfl rfl (Nat.le_of_ble_eq_true rfl) (by decide) (by decide) rfl (fun h5333 q5332 => ?_)
  obtain ⟨sz15318, tt15319, su15320, po15321, tg15322, lf05323, be05324, le05325, re05326, T15327, gg15328, gg25329, bs15330, to15331, f5334, f5335, f5336, f5337, f5338, f5339, f5340, f5341, f5342, f5343, k5344, p5345, p5346, p5347, p5348, p5349, p5350, p5351, p5352⟩ := q5332
  have f5353 := rng_at k5344 (by omega) h0
  have f5354 := rng_at k5344 (by omega) h79
  have f5355 := rng_at k5344 (by omega) h80
  have f5356 := rng_at k5344 (by omega) h81
  have f5357 := rng_at k5344 (by omega) h82
  have f5358 := rng_at k5344 (by omega) h83
  refine aw_aload_n 0 dX8_bestRow_30 rfl rfl ?_
  refine aw_get fX8_13 dX8_bestRow_31 f5353 rfl ?_
  subst hQF
  exact aw_aret rfl dX8_bestRow_34 (by decide) (by decide) ⟨rfl, _, _, _, _, _, _, _, _, _, _, _, _, f5334, f5335, f5336, f5337, f5338, f5339, f5340, f5341, f5342, f5343, rng_tr (rng_rf S (S + 9) h) (rng_w k5344 (by omega) (by omega)), by have q := (rtF_ok (st := st) (tg := tg) (po := po) hpo 12).2; rw [← p5345] at q; exact q, by have q := (rtF_ok (st := st) (tg := tg) (po := po) hpo 12).1; rw [← p5345] at q; exact q, ⟨tg, po, _, _, _, _, _, _, _, bs, gg, _, _, to, hpo, p5345, p5346, p5347, p5348, p5349, p5350, p5351, p5352⟩⟩
