set_option maxHeartbeats 4000000 in
theorem oX8_quarrel_r {l : Launch} {G : xG} {h : List va_E} {jv bv : Value} {rf : Nat → Int32} {w : Int32} (h0 : h[0]? = some (oB 8 (lX G (jv) (bv)))) (h87 : h[87]? = some (aI 7 rf)) (hr : ¬ shR w = 0) : CE l G yX8_quarrel cX8_quarrel 4 (some .int) 3 0 0 [.ref (G.1 + 0), .int w] h (some (.int (shR w))) (fun h1 => ∃ rf1 : Nat → Int32, h1[87]? = some (aI 7 rf1) ∧ rng 87 87 h h1) := by
  refine cm_ofQ rfl (Nat.le_of_ble_eq_true rfl) [(0, .ref (G.1 + 0)), (1, .int w)] rfl (fun QF hQF => ?_)
  refine aw_iload_n 1 dX8_quarrel_0 rfl rfl ?_
  refine aw_dS [.int w] [] lX8_208 sX8_shelfRefusal mX8_shelfRefusal dX8_quarrel_1 (bX8_shelfRefusal (x := w) ) rfl (Nat.le_of_ble_eq_true rfl) (by decide) (by decide) rfl ?_
  refine aw_istore_n [(2, .int (shR w)), (0, .ref (G.1 + 0)), (1, .int w)] dX8_quarrel_4 rfl (by decide) rfl ?_
  refine aw_iload_n 0 dX8_quarrel_5 rfl rfl ?_
  refine aw_if_eq 15 dX8_quarrel_6 (by decide) (fun c6 => absurd c6 (hr)) (fun c6 => ?_)
  have c6_ := hr
  refine aw_aload_n 1 dX8_quarrel_9 rfl rfl ?_
  refine aw_iload_n 0 dX8_quarrel_10 rfl rfl ?_
  obtain ⟨q5572, bq5572, eq5572⟩ := Or.resolve_left (shR_q w) (by assumption)
  refine aw_eV [.int (shR w)] [] lX8_70 vX8_refuse mX8_refuse dX8_quarrel_11 (bX8_refuse (jv := jv) (bv := bv) (rf := rf) (x := (shR w)) (q := q5572) h0 h87 bq5572 eq5572) h0 rfl rfl rfl (Nat.le_of_ble_eq_true rfl) (by decide) (by decide) rfl (fun h5575 q5574 => ?_)
  obtain ⟨rf15573, f5576, k5577⟩ := q5574
  have f5578 := rng_at k5577 (by decide) h0
  subst hQF
  exact aw_iret rfl dX8_quarrel_14 (by decide) (by decide) ⟨rfl, _, f5576, rng_tr (rng_rf 87 87 h) (rng_w k5577 (by decide) (by decide))⟩
set_option maxHeartbeats 4000000 in
theorem oX8_quarrel_o {l : Launch} {G : xG} {h : List va_E} {jv : Value} {S sz b0 y0 : Nat} {tt su : Int32} {po : Nat → Nat} {tg lf be le re gg bs to : Nat → Int32} {so x y tr : Nat → Nat} {n st : Nat} (h0 : h[0]? = some (oB 8 (lX G (jv) (.ref (G.1 + S))))) (hS : h[S]? = some (oB 7 (lSh G S (nI sz) tt su (nI b0) (nI y0)))) (hS_1 : h[S + 1]? = some (aI 8 tg)) (hS_2 : h[S + 2]? = some (aI 12 (nA po))) (hS_3 : h[S + 3]? = some (aI 64 lf)) (hS_4 : h[S + 4]? = some (aI 64 be)) (hS_5 : h[S + 5]? = some (aI 8 le)) (hS_6 : h[S + 6]? = some (aI 8 re)) (hS_7 : h[S + 7]? = some (aI 8 gg)) (hS_8 : h[S + 8]? = some (aI 2048 bs)) (hS_9 : h[S + 9]? = some (aI 8 to)) (h79 : h[79]? = some (oB 6 (lS G (nI n)))) (h80 : h[80]? = some (aI 40 (nA so))) (h81 : h[81]? = some (aI 40 (nA x))) (h82 : h[82]? = some (aI 40 (nA y))) (h83 : h[83]? = some (aI 40 (nA tr))) (bst : st < 4096) (hst : st ≠ 0) (hpo : ∀ j, j < 12 → po j < 8) (bb0 : b0 < 4096) (by0 : y0 ≤ 40) (hS1 : 125 ≤ S) (hsz : sz ≤ 8) (hn : n ≤ 40) (bso : ∀ j, j < 40 → so j < 4) (bx : ∀ j, j < 40 → x j < 12) (by_ : ∀ j, j < 40 → y j < 12) (hok : b0 = st → y0 = n → SHok st so x y tr n sz tt su to) (hz : shR (nI st) = 0) : CU l G yX8_quarrel cX8_quarrel 4 (some .int) 6 0 0 [.ref (G.1 + 0), .int (nI st)] h (fun r h1 => ∃ sz1 : Nat, ∃ tt1 : Int32, ∃ su1 : Int32, ∃ po1 : Nat → Nat, ∃ tg1 : Nat → Int32, ∃ lf1 : Nat → Int32, ∃ be1 : Nat → Int32, ∃ le1 : Nat → Int32, ∃ re1 : Nat → Int32, ∃ gg1 : Nat → Int32, ∃ bs1 : Nat → Int32, ∃ to1 : Nat → Int32, h1[S]? = some (oB 7 (lSh G S (nI sz1) tt1 su1 (nI st) (nI n))) ∧ h1[S + 1]? = some (aI 8 tg1) ∧ h1[S + 2]? = some (aI 12 (nA po1)) ∧ h1[S + 3]? = some (aI 64 lf1) ∧ h1[S + 4]? = some (aI 64 be1) ∧ h1[S + 5]? = some (aI 8 le1) ∧ h1[S + 6]? = some (aI 8 re1) ∧ h1[S + 7]? = some (aI 8 gg1) ∧ h1[S + 8]? = some (aI 2048 bs1) ∧ h1[S + 9]? = some (aI 8 to1) ∧ rng S (S + 9) h h1 ∧ (∀ j, j < 12 → po1 j < 8) ∧ sz1 ≤ 8 ∧ SHok st so x y tr n sz1 tt1 su1 to1 ∧ r = tt1 - su1) := by
  refine cm_ofQ rfl (Nat.le_of_ble_eq_true rfl) [(0, .ref (G.1 + 0)), (1, .int (nI st))] rfl (fun QF hQF => ?_)
  refine aw_iload_n 1 dX8_quarrel_0 rfl rfl ?_
  refine aw_dS [.int (nI st)] [] lX8_208 sX8_shelfRefusal mX8_shelfRefusal dX8_quarrel_1 (bX8_shelfRefusal (x := (nI st)) ) rfl (Nat.le_of_ble_eq_true rfl) (by decide) (by decide) rfl ?_
  refine aw_istore_n [(2, .int (shR (nI st))), (0, .ref (G.1 + 0)), (1, .int (nI st))] dX8_quarrel_4 rfl (by decide) rfl ?_
  refine aw_iload_n 0 dX8_quarrel_5 rfl rfl ?_
  refine aw_if_eq 15 dX8_quarrel_6 (by decide) (fun c6 => ?_) (fun c6 => absurd (hz) c6)
  refine aw_aload_n 1 dX8_quarrel_15 rfl rfl ?_
  refine aw_iload_n 2 dX8_quarrel_16 rfl rfl ?_
  refine aw_eV [.int (nI st)] [] lX8_211 vX8_bestRow mX8_bestRow dX8_quarrel_17 (bR (jv := jv) (S := S) (sz := sz) (b0 := b0) (y0 := y0) (tt := tt) (su := su) (po := po) (tg := tg) (lf := lf) (be := be) (le := le) (re := re) (gg := gg) (bs := bs) (to := to) (so := so) (x := x) (y := y) (tr := tr) (n := n) (st := st) h0 hS hS_1 hS_2 hS_3 hS_4 hS_5 hS_6 hS_7 hS_8 hS_9 h79 h80 h81 h82 h83 (by omega) (by omega) hpo (by omega) (by omega) (by omega) (by omega) (by omega) bso bx by_ hok) h0 rfl rfl rfl (Nat.le_of_ble_eq_true rfl) (by decide) (by decide) rfl (fun h5592 q5591 => ?_)
  obtain ⟨sz15579, tt15580, su15581, po15582, tg15583, lf15584, be15585, le15586, re15587, gg15588, bs15589, to15590, f5593, f5594, f5595, f5596, f5597, f5598, f5599, f5600, f5601, f5602, k5603, p5604, p5605, p5606⟩ := q5591
  have f5607 := rng_at k5603 (by omega) h0
  have f5608 := rng_at k5603 (by omega) h79
  have f5609 := rng_at k5603 (by omega) h80
  have f5610 := rng_at k5603 (by omega) h81
  have f5611 := rng_at k5603 (by omega) h82
  have f5612 := rng_at k5603 (by omega) h83
  refine aw_astore_n [(3, .ref (G.1 + S)), (2, .int (shR (nI st))), (0, .ref (G.1 + 0)), (1, .int (nI st))] dX8_quarrel_20 rfl (by decide) rfl ?_
  refine aw_aload_n 0 dX8_quarrel_21 rfl rfl ?_
  refine aw_get fX8_224 dX8_quarrel_22 f5593 rfl ?_
  refine aw_aload_n 0 dX8_quarrel_25 rfl rfl ?_
  refine aw_get fX8_215 dX8_quarrel_26 f5593 rfl ?_
  refine aw_isub dX8_quarrel_29 ?_
  subst hQF
  exact aw_iret rfl dX8_quarrel_30 (by decide) (by decide) ⟨_, rfl, _, _, _, _, _, _, _, _, _, _, _, _, f5593, f5594, f5595, f5596, f5597, f5598, f5599, f5600, f5601, f5602, rng_tr (rng_rf S (S + 9) h) (rng_w k5603 (by omega) (by omega)), p5604, p5605, p5606, rfl⟩
set_option maxHeartbeats 4000000 in
theorem oX8_quarrel_n {l : Launch} {G : xG} {h : List va_E} {jv : Value} {S : Nat} {so x y tr : Nat → Nat} {n st : Nat} (h0 : h[0]? = some (oB 8 (lX G (jv) (.null)))) (h79 : h[79]? = some (oB 6 (lS G (nI n)))) (h80 : h[80]? = some (aI 40 (nA so))) (h81 : h[81]? = some (aI 40 (nA x))) (h82 : h[82]? = some (aI 40 (nA y))) (h83 : h[83]? = some (aI 40 (nA tr))) (hl : h.length = S) (bst : st < 4096) (hst : st ≠ 0) (hS1 : 125 ≤ S) (hn : n ≤ 40) (bso : ∀ j, j < 40 → so j < 4) (bx : ∀ j, j < 40 → x j < 12) (by_ : ∀ j, j < 40 → y j < 12) (hz : shR (nI st) = 0) : CU l G yX8_quarrel cX8_quarrel 4 (some .int) 6 10 2242 [.ref (G.1 + 0), .int (nI st)] h (fun r h1 => ∃ sz1 : Nat, ∃ tt1 : Int32, ∃ su1 : Int32, ∃ po1 : Nat → Nat, ∃ tg1 : Nat → Int32, ∃ lf1 : Nat → Int32, ∃ be1 : Nat → Int32, ∃ le1 : Nat → Int32, ∃ re1 : Nat → Int32, ∃ gg1 : Nat → Int32, ∃ bs1 : Nat → Int32, ∃ to1 : Nat → Int32, h1[0]? = some (oB 8 (lX G (jv) (.ref (G.1 + S)))) ∧ h1[S]? = some (oB 7 (lSh G S (nI sz1) tt1 su1 (nI st) (nI n))) ∧ h1[S + 1]? = some (aI 8 tg1) ∧ h1[S + 2]? = some (aI 12 (nA po1)) ∧ h1[S + 3]? = some (aI 64 lf1) ∧ h1[S + 4]? = some (aI 64 be1) ∧ h1[S + 5]? = some (aI 8 le1) ∧ h1[S + 6]? = some (aI 8 re1) ∧ h1[S + 7]? = some (aI 8 gg1) ∧ h1[S + 8]? = some (aI 2048 bs1) ∧ h1[S + 9]? = some (aI 8 to1) ∧ grw 0 0 0 0 h h1 ∧ (∀ j, j < 12 → po1 j < 8) ∧ sz1 ≤ 8 ∧ SHok st so x y tr n sz1 tt1 su1 to1 ∧ h1.length = S + 10 ∧ r = tt1 - su1) := by
  refine cm_ofQ rfl (Nat.le_of_ble_eq_true rfl) [(0, .ref (G.1 + 0)), (1, .int (nI st))] rfl (fun QF hQF => ?_)
  refine aw_iload_n 1 dX8_quarrel_0 rfl rfl ?_
  refine aw_dS [.int (nI st)] [] lX8_208 sX8_shelfRefusal mX8_shelfRefusal dX8_quarrel_1 (bX8_shelfRefusal (x := (nI st)) ) rfl (Nat.le_of_ble_eq_true rfl) (by decide) (by decide) rfl ?_
  refine aw_istore_n [(2, .int (shR (nI st))), (0, .ref (G.1 + 0)), (1, .int (nI st))] dX8_quarrel_4 rfl (by decide) rfl ?_
  refine aw_iload_n 0 dX8_quarrel_5 rfl rfl ?_
  refine aw_if_eq 15 dX8_quarrel_6 (by decide) (fun c6 => ?_) (fun c6 => absurd (hz) c6)
  refine aw_aload_n 1 dX8_quarrel_15 rfl rfl ?_
  refine aw_iload_n 2 dX8_quarrel_16 rfl rfl ?_
  refine aw_eV [.int (nI st)] [] lX8_211 vX8_bestRow mX8_bestRow dX8_quarrel_17 (bR_n (jv := jv) (so := so) (x := x) (y := y) (tr := tr) (n := n) (st := st) h0 h79 h80 h81 h82 h83 (by omega) (by omega) (by omega) (by omega) (by omega) bso bx by_) h0 rfl rfl rfl (Nat.le_of_ble_eq_true rfl) (by decide) (by decide) rfl (fun h5626 q5625 => ?_)
  obtain ⟨sz15613, tt15614, su15615, po15616, tg15617, lf15618, be15619, le15620, re15621, gg15622, bs15623, to15624, f5627, f5628, f5629, f5630, f5631, f5632, f5633, f5634, f5635, f5636, f5637, k5638, p5639, p5640, p5641, p5642⟩ := q5625
  have f5643 := grw_at k5638 (by decide) h79
  have f5644 := grw_at k5638 (by decide) h80
  have f5645 := grw_at k5638 (by decide) h81
  have f5646 := grw_at k5638 (by decide) h82
  have f5647 := grw_at k5638 (by decide) h83
  refine aw_astore_n [(3, .ref (G.1 + S)), (2, .int (shR (nI st))), (0, .ref (G.1 + 0)), (1, .int (nI st))] dX8_quarrel_20 rfl (by decide) rfl ?_
  refine aw_aload_n 0 dX8_quarrel_21 rfl rfl ?_
  refine aw_get fX8_224 dX8_quarrel_22 f5628 rfl ?_
  refine aw_aload_n 0 dX8_quarrel_25 rfl rfl ?_
  refine aw_get fX8_215 dX8_quarrel_26 f5628 rfl ?_
  refine aw_isub dX8_quarrel_29 ?_
  subst hQF
  exact aw_iret rfl dX8_quarrel_30 (by decide) (by decide) ⟨_, rfl, _, _, _, _, _, _, _, _, _, _, _, _, f5627, f5628, f5629, f5630, f5631, f5632, f5633, f5634, f5635, f5636, f5637, grw_gg (grw_rf 0 0 0 0 h) k5638 (fun j q1 q2 => by omega), p5639, p5640, p5641, p5642, rfl⟩
