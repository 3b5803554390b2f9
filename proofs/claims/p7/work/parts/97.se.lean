set_option maxHeartbeats 4000000 in
theorem oX8_row_r {l : Launch} {G : xG} {h : List va_E} {jv bv : Value} {rf : Nat → Int32} {w k : Int32} (h0 : h[0]? = some (oB 8 (lX G (jv) (bv)))) (h87 : h[87]? = some (aI 7 rf)) (hr : ¬ shR w = 0) : CE l G yX8_row cX8_row 5 (some .int) 3 0 0 [.ref (G.1 + 0), .int w, .int k] h (some (.int (shR w))) (fun h1 => ∃ rf1 : Nat → Int32, h1[87]? = some (aI 7 rf1) ∧ rng 87 87 h h1) := by
  refine cm_ofQ rfl (Nat.le_of_ble_eq_true rfl) [(0, .ref (G.1 + 0)), (1, .int w), (2, .int k)] rfl (fun QF hQF => ?_)
  refine aw_iload_n 1 dX8_row_0 rfl rfl ?_
  refine aw_dS [.int w] [] lX8_208 sX8_shelfRefusal mX8_shelfRefusal dX8_row_1 (bX8_shelfRefusal (x := w) ) rfl (Nat.le_of_ble_eq_true rfl) (by decide) (by decide) rfl ?_
  refine aw_istore_n [(3, .int (shR w)), (0, .ref (G.1 + 0)), (1, .int w), (2, .int k)] dX8_row_4 rfl (by decide) rfl ?_
  refine aw_iload_n 0 dX8_row_5 rfl rfl ?_
  refine aw_if_eq 15 dX8_row_6 (by decide) (fun c6 => absurd c6 (hr)) (fun c6 => ?_)
  have c6_ := hr
  refine aw_aload_n 1 dX8_row_9 rfl rfl ?_
  refine aw_iload_n 0 dX8_row_10 rfl rfl ?_
  obtain ⟨q5496, bq5496, eq5496⟩ := Or.resolve_left (shR_q w) (by assumption)
  refine aw_eV [.int (shR w)] [] lX8_70 vX8_refuse mX8_refuse dX8_row_11 (bX8_refuse (jv := jv) (bv := bv) (rf := rf) (x := (shR w)) (q := q5496) h0 h87 bq5496 eq5496) h0 rfl rfl rfl (Nat.le_of_ble_eq_true rfl) (by decide) (by decide) rfl (fun h5499 q5498 => ?_)
  obtain ⟨rf15497, f5500, k5501⟩ := q5498
  have f5502 := rng_at k5501 (by decide) h0
  subst hQF
  exact aw_iret rfl dX8_row_14 (by decide) (by decide) ⟨rfl, _, f5500, rng_tr (rng_rf 87 87 h) (rng_w k5501 (by decide) (by decide))⟩
set_option maxHeartbeats 4000000 in
theorem oX8_row_o {l : Launch} {G : xG} {h : List va_E} {jv : Value} {S sz b0 y0 : Nat} {tt su : Int32} {po : Nat → Nat} {tg lf be le re gg bs to : Nat → Int32} {so x y tr : Nat → Nat} {n st : Nat} {k : Int32} (h0 : h[0]? = some (oB 8 (lX G (jv) (.ref (G.1 + S))))) (hS : h[S]? = some (oB 7 (lSh G S (nI sz) tt su (nI b0) (nI y0)))) (hS_1 : h[S + 1]? = some (aI 8 tg)) (hS_2 : h[S + 2]? = some (aI 12 (nA po))) (hS_3 : h[S + 3]? = some (aI 64 lf)) (hS_4 : h[S + 4]? = some (aI 64 be)) (hS_5 : h[S + 5]? = some (aI 8 le)) (hS_6 : h[S + 6]? = some (aI 8 re)) (hS_7 : h[S + 7]? = some (aI 8 gg)) (hS_8 : h[S + 8]? = some (aI 2048 bs)) (hS_9 : h[S + 9]? = some (aI 8 to)) (h79 : h[79]? = some (oB 6 (lS G (nI n)))) (h80 : h[80]? = some (aI 40 (nA so))) (h81 : h[81]? = some (aI 40 (nA x))) (h82 : h[82]? = some (aI 40 (nA y))) (h83 : h[83]? = some (aI 40 (nA tr))) (bst : st < 4096) (hst : st ≠ 0) (hpo : ∀ j, j < 12 → po j < 8) (bb0 : b0 < 4096) (by0 : y0 ≤ 40) (hS1 : 125 ≤ S) (hsz : sz ≤ 8) (hn : n ≤ 40) (bso : ∀ j, j < 40 → so j < 4) (bx : ∀ j, j < 40 → x j < 12) (by_ : ∀ j, j < 40 → y j < 12) (hok : b0 = st → y0 = n → SHok st so x y tr n sz tt su to) (hz : shR (nI st) = 0) : CU l G yX8_row cX8_row 5 (some .int) 6 0 0 [.ref (G.1 + 0), .int (nI st), .int k] h (fun r h1 => ∃ sz1 : Nat, ∃ tt1 : Int32, ∃ su1 : Int32, ∃ po1 : Nat → Nat, ∃ tg1 : Nat → Int32, ∃ lf1 : Nat → Int32, ∃ be1 : Nat → Int32, ∃ le1 : Nat → Int32, ∃ re1 : Nat → Int32, ∃ gg1 : Nat → Int32, ∃ bs1 : Nat → Int32, ∃ to1 : Nat → Int32, h1[S]? = some (oB 7 (lSh G S (nI sz1) tt1 su1 (nI st) (nI n))) ∧ h1[S + 1]? = some (aI 8 tg1) ∧ h1[S + 2]? = some (aI 12 (nA po1)) ∧ h1[S + 3]? = some (aI 64 lf1) ∧ h1[S + 4]? = some (aI 64 be1) ∧ h1[S + 5]? = some (aI 8 le1) ∧ h1[S + 6]? = some (aI 8 re1) ∧ h1[S + 7]? = some (aI 8 gg1) ∧ h1[S + 8]? = some (aI 2048 bs1) ∧ h1[S + 9]? = some (aI 8 to1) ∧ rng S (S + 9) h h1 ∧ (∀ j, j < 12 → po1 j < 8) ∧ sz1 ≤ 8 ∧ SHok st so x y tr n sz1 tt1 su1 to1 ∧ r = (if 0 ≤ k.toInt ∧ k.toInt < (sz1 : Int) then to1 (tn k) else -9)) := by
  refine cm_ofQ rfl (Nat.le_of_ble_eq_true rfl) [(0, .ref (G.1 + 0)), (1, .int (nI st)), (2, .int k)] rfl (fun QF hQF => ?_)
  refine aw_iload_n 1 dX8_row_0 rfl rfl ?_
  refine aw_dS [.int (nI st)] [] lX8_208 sX8_shelfRefusal mX8_shelfRefusal dX8_row_1 (bX8_shelfRefusal (x := (nI st)) ) rfl (Nat.le_of_ble_eq_true rfl) (by decide) (by decide) rfl ?_
  refine aw_istore_n [(3, .int (shR (nI st))), (0, .ref (G.1 + 0)), (1, .int (nI st)), (2, .int k)] dX8_row_4 rfl (by decide) rfl ?_
  refine aw_iload_n 0 dX8_row_5 rfl rfl ?_
  refine aw_if_eq 15 dX8_row_6 (by decide) (fun c6 => ?_) (fun c6 => absurd (hz) c6)
  refine aw_aload_n 1 dX8_row_15 rfl rfl ?_
  refine aw_iload_n 2 dX8_row_16 rfl rfl ?_
  refine aw_eV [.int (nI st)] [] lX8_211 vX8_bestRow mX8_bestRow dX8_row_17 (bR (jv := jv) (S := S) (sz := sz) (b0 := b0) (y0 := y0) (tt := tt) (su := su) (po := po) (tg := tg) (lf := lf) (be := be) (le := le) (re := re) (gg := gg) (bs := bs) (to := to) (so := so) (x := x) (y := y) (tr := tr) (n := n) (st := st) h0 hS hS_1 hS_2 hS_3 hS_4 hS_5 hS_6 hS_7 hS_8 hS_9 h79 h80 h81 h82 h83 (by omega) (by omega) hpo (by omega) (by omega) (by omega) (by omega) (by omega) bso bx by_ hok) h0 rfl rfl rfl (Nat.le_of_ble_eq_true rfl) (by decide) (by decide) rfl (fun h5516 q5515 => ?_)
  obtain ⟨sz15503, tt15504, su15505, po15506, tg15507, lf15508, be15509, le15510, re15511, gg15512, bs15513, to15514, f5517, f5518, f5519, f5520, f5521, f5522, f5523, f5524, f5525, f5526, k5527, p5528, p5529, p5530⟩ := q5515
  have f5531 := rng_at k5527 (by omega) h0
  have f5532 := rng_at k5527 (by omega) h79
  have f5533 := rng_at k5527 (by omega) h80
  have f5534 := rng_at k5527 (by omega) h81
  have f5535 := rng_at k5527 (by omega) h82
  have f5536 := rng_at k5527 (by omega) h83
  refine aw_astore [(4, .ref (G.1 + S)), (3, .int (shR (nI st))), (0, .ref (G.1 + 0)), (1, .int (nI st)), (2, .int k)] dX8_row_20 (by decide) rfl ?_
  have hs8 := p5529
  refine aw_iload_n 4 dX8_row_22 rfl rfl ?_
  refine aw_if_lt 35 dX8_row_23 (by decide) (fun c23 => ?_) (fun c23 => ?_)
  · have d23 := (j_lt (a := k.toInt) (b := (0)) (rfl) (rfl)).mp c23
    refine aw_bipush (-9) dX8_row_35 (by decide) ?_
    refine aw_goto 47 dX8_row_37 (by decide) ?_
    subst hQF
    exact aw_iret rfl dX8_row_47 (by decide) (by decide) ⟨_, rfl, _, _, _, _, _, _, _, _, _, _, _, _, f5517, f5518, f5519, f5520, f5521, f5522, f5523, f5524, f5525, f5526, rng_tr (rng_rf S (S + 9) h) (rng_w k5527 (by omega) (by omega)), p5528, p5529, p5530, by rw [if_neg (by omega)]⟩
  · have d23 := mt (j_lt (a := k.toInt) (b := (0)) (rfl) (rfl)).mpr c23
    refine aw_iload_n 4 dX8_row_26 rfl rfl ?_
    refine aw_aload 0 dX8_row_27 rfl ?_
    refine aw_get fX8_218 dX8_row_29 f5517 rfl ?_
    refine aw_icmp_lt 40 dX8_row_32 (by decide) (fun c32 => ?_) (fun c32 => ?_)
    · have d32 := (j_lt (a := k.toInt) (b := ((sz15503 : Nat) : Int)) (rfl) (i_toNat (rfl) (by omega))).mp c32
      obtain ⟨k0, bb_k0, ee_k0⟩ := i_nat (x := k) (N := 8) (by omega) (by omega)
      subst ee_k0
      have tt_k0 : (nI k0).toInt = (k0 : Int) := nI_toInt (by omega)
      have nn_k0 : tn (nI k0) = k0 := tn_nI (by omega)
      refine aw_aload 0 dX8_row_40 rfl ?_
      refine aw_get fX8_221 dX8_row_42 f5517 rfl ?_
      refine aw_iload_n 4 dX8_row_45 rfl rfl ?_
      refine aw_iald k0 (rfl) (by omega) (by decide) dX8_row_46 f5526 ?_
      subst hQF
      exact aw_iret rfl dX8_row_47 (by decide) (by decide) ⟨_, rfl, _, _, _, _, _, _, _, _, _, _, _, _, f5517, f5518, f5519, f5520, f5521, f5522, f5523, f5524, f5525, f5526, rng_tr (rng_rf S (S + 9) h) (rng_w k5527 (by omega) (by omega)), p5528, p5529, p5530, by rw [if_pos (by omega), nn_k0]⟩
    · have d32 := mt (j_lt (a := k.toInt) (b := ((sz15503 : Nat) : Int)) (rfl) (i_toNat (rfl) (by omega))).mpr c32
      refine aw_bipush (-9) dX8_row_35 (by decide) ?_
      refine aw_goto 47 dX8_row_37 (by decide) ?_
      subst hQF
      exact aw_iret rfl dX8_row_47 (by decide) (by decide) ⟨_, rfl, _, _, _, _, _, _, _, _, _, _, _, _, f5517, f5518, f5519, f5520, f5521, f5522, f5523, f5524, f5525, f5526, rng_tr (rng_rf S (S + 9) h) (rng_w k5527 (by omega) (by omega)), p5528, p5529, p5530, by rw [if_neg (by omega)]⟩
set_option maxHeartbeats 4000000 in
theorem oX8_row_n {l : Launch} {G : xG} {h : List va_E} {jv : Value} {S : Nat} {so x y tr : Nat → Nat} {n st : Nat} {k : Int32} (h0 : h[0]? = some (oB 8 (lX G (jv) (.null)))) (h79 : h[79]? = some (oB 6 (lS G (nI n)))) (h80 : h[80]? = some (aI 40 (nA so))) (h81 : h[81]? = some (aI 40 (nA x))) (h82 : h[82]? = some (aI 40 (nA y))) (h83 : h[83]? = some (aI 40 (nA tr))) (hl : h.length = S) (bst : st < 4096) (hst : st ≠ 0) (hS1 : 125 ≤ S) (hn : n ≤ 40) (bso : ∀ j, j < 40 → so j < 4) (bx : ∀ j, j < 40 → x j < 12) (by_ : ∀ j, j < 40 → y j < 12) (hz : shR (nI st) = 0) : CU l G yX8_row cX8_row 5 (some .int) 6 10 2242 [.ref (G.1 + 0), .int (nI st), .int k] h (fun r h1 => ∃ sz1 : Nat, ∃ tt1 : Int32, ∃ su1 : Int32, ∃ po1 : Nat → Nat, ∃ tg1 : Nat → Int32, ∃ lf1 : Nat → Int32, ∃ be1 : Nat → Int32, ∃ le1 : Nat → Int32, ∃ re1 : Nat → Int32, ∃ gg1 : Nat → Int32, ∃ bs1 : Nat → Int32, ∃ to1 : Nat → Int32, h1[0]? = some (oB 8 (lX G (jv) (.ref (G.1 + S)))) ∧ h1[S]? = some (oB 7 (lSh G S (nI sz1) tt1 su1 (nI st) (nI n))) ∧ h1[S + 1]? = some (aI 8 tg1) ∧ h1[S + 2]? = some (aI 12 (nA po1)) ∧ h1[S + 3]? = some (aI 64 lf1) ∧ h1[S + 4]? = some (aI 64 be1) ∧ h1[S + 5]? = some (aI 8 le1) ∧ h1[S + 6]? = some (aI 8 re1) ∧ h1[S + 7]? = some (aI 8 gg1) ∧ h1[S + 8]? = some (aI 2048 bs1) ∧ h1[S + 9]? = some (aI 8 to1) ∧ grw 0 0 0 0 h h1 ∧ (∀ j, j < 12 → po1 j < 8) ∧ sz1 ≤ 8 ∧ SHok st so x y tr n sz1 tt1 su1 to1 ∧ h1.length = S + 10 ∧ r = (if 0 ≤ k.toInt ∧ k.toInt < (sz1 : Int) then to1 (tn k) else -9)) := by
  refine cm_ofQ rfl (Nat.le_of_ble_eq_true rfl) [(0, .ref (G.1 + 0)), (1, .int (nI st)), (2, .int k)] rfl (fun QF hQF => ?_)
  refine aw_iload_n 1 dX8_row_0 rfl rfl ?_
  refine aw_dS [.int (nI st)] [] lX8_208 sX8_shelfRefusal mX8_shelfRefusal dX8_row_1 (bX8_shelfRefusal (x := (nI st)) ) rfl (Nat.le_of_ble_eq_true rfl) (by decide) (by decide) rfl ?_
  refine aw_istore_n [(3, .int (shR (nI st))), (0, .ref (G.1 + 0)), (1, .int (nI st)), (2, .int k)] dX8_row_4 rfl (by decide) rfl ?_
  refine aw_iload_n 0 dX8_row_5 rfl rfl ?_
  refine aw_if_eq 15 dX8_row_6 (by decide) (fun c6 => ?_) (fun c6 => absurd (hz) c6)
  refine aw_aload_n 1 dX8_row_15 rfl rfl ?_
  refine aw_iload_n 2 dX8_row_16 rfl rfl ?_
  refine aw_eV [.int (nI st)] [] lX8_211 vX8_bestRow mX8_bestRow dX8_row_17 (bR_n (jv := jv) (so := so) (x := x) (y := y) (tr := tr) (n := n) (st := st) h0 h79 h80 h81 h82 h83 (by omega) (by omega) (by omega) (by omega) (by omega) bso bx by_) h0 rfl rfl rfl (Nat.le_of_ble_eq_true rfl) (by decide) (by decide) rfl (fun h5550 q5549 => ?_)
  obtain ⟨sz15537, tt15538, su15539, po15540, tg15541, lf15542, be15543, le15544, re15545, gg15546, bs15547, to15548, f5551, f5552, f5553, f5554, f5555, f5556, f5557, f5558, f5559, f5560, f5561, k5562, p5563, p5564, p5565, p5566⟩ := q5549
  have f5567 := grw_at k5562 (by decide) h79
  have f5568 := grw_at k5562 (by decide) h80
  have f5569 := grw_at k5562 (by decide) h81
  have f5570 := grw_at k5562 (by decide) h82
  have f5571 := grw_at k5562 (by decide) h83
  refine aw_astore [(4, .ref (G.1 + S)), (3, .int (shR (nI st))), (0, .ref (G.1 + 0)), (1, .int (nI st)), (2, .int k)] dX8_row_20 (by decide) rfl ?_
  have hs8 := p5564
  refine aw_iload_n 4 dX8_row_22 rfl rfl ?_
  refine aw_if_lt 35 dX8_row_23 (by decide) (fun c23 => ?_) (fun c23 => ?_)
  · have d23 := (j_lt (a := k.toInt) (b := (0)) (rfl) (rfl)).mp c23
    refine aw_bipush (-9) dX8_row_35 (by decide) ?_
    refine aw_goto 47 dX8_row_37 (by decide) ?_
    subst hQF
    exact aw_iret rfl dX8_row_47 (by decide) (by decide) ⟨_, rfl, _, _, _, _, _, _, _, _, _, _, _, _, f5551, f5552, f5553, f5554, f5555, f5556, f5557, f5558, f5559, f5560, f5561, grw_gg (grw_rf 0 0 0 0 h) k5562 (fun j q1 q2 => by omega), p5563, p5564, p5565, p5566, by rw [if_neg (by omega)]⟩
  · have d23 := mt (j_lt (a := k.toInt) (b := (0)) (rfl) (rfl)).mpr c23
    refine aw_iload_n 4 dX8_row_26 rfl rfl ?_
    refine aw_aload 0 dX8_row_27 rfl ?_
    refine aw_get fX8_218 dX8_row_29 f5552 rfl ?_
    refine aw_icmp_lt 40 dX8_row_32 (by decide) (fun c32 => ?_) (fun c32 => ?_)
    · have d32 := (j_lt (a := k.toInt) (b := ((sz15537 : Nat) : Int)) (rfl) (i_toNat (rfl) (by omega))).mp c32
      obtain ⟨k0, bb_k0, ee_k0⟩ := i_nat (x := k) (N := 8) (by omega) (by omega)
      subst ee_k0
      have tt_k0 : (nI k0).toInt = (k0 : Int) := nI_toInt (by omega)
      have nn_k0 : tn (nI k0) = k0 := tn_nI (by omega)
      refine aw_aload 0 dX8_row_40 rfl ?_
      refine aw_get fX8_221 dX8_row_42 f5552 rfl ?_
      refine aw_iload_n 4 dX8_row_45 rfl rfl ?_
      refine aw_iald k0 (rfl) (by omega) (by decide) dX8_row_46 f5561 ?_
      subst hQF
      exact aw_iret rfl dX8_row_47 (by decide) (by decide) ⟨_, rfl, _, _, _, _, _, _, _, _, _, _, _, _, f5551, f5552, f5553, f5554, f5555, f5556, f5557, f5558, f5559, f5560, f5561, grw_gg (grw_rf 0 0 0 0 h) k5562 (fun j q1 q2 => by omega), p5563, p5564, p5565, p5566, by rw [if_pos (by omega), nn_k0]⟩
    · have d32 := mt (j_lt (a := k.toInt) (b := ((sz15537 : Nat) : Int)) (rfl) (i_toNat (rfl) (by omega))).mpr c32
      refine aw_bipush (-9) dX8_row_35 (by decide) ?_
      refine aw_goto 47 dX8_row_37 (by decide) ?_
      subst hQF
      exact aw_iret rfl dX8_row_47 (by decide) (by decide) ⟨_, rfl, _, _, _, _, _, _, _, _, _, _, _, _, f5551, f5552, f5553, f5554, f5555, f5556, f5557, f5558, f5559, f5560, f5561, grw_gg (grw_rf 0 0 0 0 h) k5562 (fun j q1 q2 => by omega), p5563, p5564, p5565, p5566, by rw [if_neg (by omega)]⟩
