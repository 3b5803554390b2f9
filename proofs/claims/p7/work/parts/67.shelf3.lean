theorem rtF_len {st : Nat} {tg : Nat → Int32} {po : Nat → Nat} : ∀ a, (rtF st tg po a).1 = min 8 (thL st a).length := by
  intro a
  induction a with
  | zero => rfl
  | succ a ih =>
    rw [rtF_s]
    cases h : st.testBit a
    · rw [if_neg (fun q => by simp at q), thL_f h, ih]
    · rw [thL_t h]
      by_cases c : (rtF st tg po a).1 < 8
      · rw [if_pos ⟨rfl, c⟩]; simp; omega
      · rw [if_neg (fun q => c q.2)]; simp; omega
theorem rtF_pos {st : Nat} {tg : Nat → Int32} {po : Nat → Nat} (h : st < 4096) (h0 : st ≠ 0) : 0 < (rtF st tg po 12).1 := by
  rw [rtF_len, ← popL]; have := pop_pos h h0; omega
set_option maxHeartbeats 4000000 in
theorem aX7_tellRow {l : Launch} {G : xG} {h : List va_E} {S sz b0 y0 : Nat} {tt su : Int32} {po : Nat → Nat} {tg lf be le re gg bs to : Nat → Int32} (hS : h[S]? = some (oB 7 (lSh G S (nI sz) tt su (nI b0) (nI y0)))) (hS_1 : h[S + 1]? = some (aI 8 tg)) (hS_2 : h[S + 2]? = some (aI 12 (nA po))) (hS_3 : h[S + 3]? = some (aI 64 lf)) (hS_4 : h[S + 4]? = some (aI 64 be)) (hS_5 : h[S + 5]? = some (aI 8 le)) (hS_6 : h[S + 6]? = some (aI 8 re)) (hS_7 : h[S + 7]? = some (aI 8 gg)) (hS_8 : h[S + 8]? = some (aI 2048 bs)) (hS_9 : h[S + 9]? = some (aI 8 to)) (hsz : sz ≤ 8) (h0 : 0 < sz) : CE l G yX7_tellRow cX7_tellRow 5 none 3 0 0 [.ref (G.1 + S)] h none (fun h1 => ∃ gg1 : Nat → Int32, ∃ to1 : Nat → Int32, h1[S]? = some (oB 7 (lSh G S (nI sz) tt su (nI b0) (nI y0))) ∧ h1[S + 1]? = some (aI 8 tg) ∧ h1[S + 2]? = some (aI 12 (nA po)) ∧ h1[S + 3]? = some (aI 64 lf) ∧ h1[S + 4]? = some (aI 64 be) ∧ h1[S + 5]? = some (aI 8 le) ∧ h1[S + 6]? = some (aI 8 re) ∧ h1[S + 7]? = some (aI 8 gg1) ∧ h1[S + 8]? = some (aI 2048 bs) ∧ h1[S + 9]? = some (aI 8 to1) ∧ rng S (S + 9) h h1 ∧ to1 = (trF le re lf be bs tg sz gg to sz).2.2.2) := by
  refine cm_ofQ rfl (Nat.le_of_ble_eq_true rfl) [(0, .ref (G.1 + S))] rfl (fun QF hQF => ?_)
  refine aw_iconst (0) dX7_tellRow_0 (by decide) ?_
  refine aw_istore_n [(1, .int 0), (0, .ref (G.1 + S))] dX7_tellRow_1 rfl (by decide) rfl ?_
  refine aw_iconst (0) dX7_tellRow_2 (by decide) ?_
  refine aw_istore_n [(2, .int 0), (1, .int 0), (0, .ref (G.1 + S))] dX7_tellRow_3 rfl (by decide) rfl ?_
  refine aw_iconst (0) dX7_tellRow_4 (by decide) ?_
  refine aw_istore_n [(3, .int 0), (2, .int 0), (1, .int 0), (0, .ref (G.1 + S))] dX7_tellRow_5 rfl (by decide) rfl ?_
  refine aw_lv [(3, .int 0), (2, .int 0), (1, .int 0), (0, .ref (G.1 + S))] [0, 1, 2, 3] rfl ?_
  suffices L147 : ∀ (mm : Nat) (a : Nat) (st : Nat) (la : Nat) (g1 : Nat → Int32) (t1 : Nat → Int32) (h135 : List va_E), sz - a < mm → (a ≤ sz) → ((st, la, g1, t1) = trF le re lf be bs tg sz gg to a) → h135[S]? = some (oB 7 (lSh G S (nI sz) tt su (nI b0) (nI y0))) → h135[S + 1]? = some (aI 8 tg) → h135[S + 2]? = some (aI 12 (nA po)) → h135[S + 3]? = some (aI 64 lf) → h135[S + 4]? = some (aI 64 be) → h135[S + 5]? = some (aI 8 le) → h135[S + 6]? = some (aI 8 re) → h135[S + 7]? = some (aI 8 g1) → h135[S + 8]? = some (aI 2048 bs) → h135[S + 9]? = some (aI 8 t1) → rng S (S + 9) h h135 → AW l G yX7_tellRow cX7_tellRow 5 none (xR 3 0 0) (fun _ _ => True) QF 0 0 6 [(3, .int (nI a)), (2, .int (nI la)), (1, .int (nI st)), (0, .ref (G.1 + S))] [] h135 from L147 (sz - 0 + 1) 0 0 0 gg to _ (Nat.lt_succ_self _) (Nat.zero_le _) (rfl) hS hS_1 hS_2 hS_3 hS_4 hS_5 hS_6 hS_7 hS_8 hS_9 (rng_rf S (S + 9) h)
  intro mm
  induction mm with
  | zero =>
    intro a st la g1 t1 h135 hmm ha hq f136 f137 f138 f139 f140 f141 f142 f143 f144 f145 k146
    exact absurd hmm (Nat.not_lt_zero _)
  | succ mm ih147 =>
    intro a st la g1 t1 h135 hmm ha hq f136 f137 f138 f139 f140 f141 f142 f143 f144 f145 k146
    have b9 := trF_ok (le := le) (re := re) (lf := lf) (be := be) (bs := bs) (tg := tg) (gn := gg) (to := to) hsz h0 a
    rw [← hq] at b9
    have b8 := b9.1
    have b7 := b9.2
    dsimp only at b7 b8
    refine aw_iload_n 0 dX7_tellRow_6 rfl rfl ?_
    refine aw_aload_n 3 dX7_tellRow_7 rfl rfl ?_
    refine aw_get fX7_39 dX7_tellRow_8 f136 rfl ?_
    refine aw_icmp_ge 56 dX7_tellRow_11 (by decide) (fun c11 => ?_) (fun c11 => ?_)
    · have d11 := (nv_le (a := sz) (b := a) (rfl) (rfl) (by omega) (by omega)).mp c11
      subst hQF
      exact aw_vret rfl dX7_tellRow_56 (by decide) (by decide) ⟨rfl, _, _, f136, f137, f138, f139, f140, f141, f142, f143, f144, f145, k146, by rw [(by omega : a = sz)] at hq; rw [← hq]⟩
    · have d11 := mt (nv_le (a := sz) (b := a) (rfl) (rfl) (by omega) (by omega)).mpr c11
      refine aw_aload_n 3 dX7_tellRow_14 rfl rfl ?_
      refine aw_iload_n 2 dX7_tellRow_15 rfl rfl ?_
      refine aw_eW [.int (nI st)] [] lX7_89 vX7_readGains mX7_readGains dX7_tellRow_16 (aX7_readGains (S := S) (sz := sz) (b0 := b0) (y0 := y0) (tt := tt) (su := su) (po := po) (tg := tg) (lf := lf) (be := be) (le := le) (re := re) (gg := g1) (bs := bs) (to := t1) (st := st) f136 f137 f138 f139 f140 f141 f142 f143 f144 f145 (by omega) (by omega)) f136 rfl rfl rfl (Nat.le_of_ble_eq_true rfl) (by decide) (by decide) rfl (fun h149 q148 => ?_)
      obtain ⟨f150, f151, f152, f153, f154, f155, f156, f157, f158, f159, k160⟩ := q148
      refine aw_aload_n 3 dX7_tellRow_19 rfl rfl ?_
      refine aw_iload_n 2 dX7_tellRow_20 rfl rfl ?_
      refine aw_iload_n 1 dX7_tellRow_21 rfl rfl ?_
      refine aw_dV [.int (nI st), .int (nI la)] [] lX7_105 vX7_firstBest mX7_firstBest dX7_tellRow_22 (aX7_firstBest (S := S) (sz := sz) (b0 := b0) (y0 := y0) (tt := tt) (su := su) (po := po) (tg := tg) (lf := lf) (be := be) (le := le) (re := re) (gg := gaF le re lf sz st g1 sz) (bs := bs) (to := t1) (st := st) (la := la) f150 f151 f152 f153 f154 f155 f156 f157 f158 f159 (by omega) (by omega) (by omega)) f150 rfl rfl rfl (Nat.le_of_ble_eq_true rfl) (by decide) (by decide) rfl ?_
      obtain ⟨kk, ek⟩ : ∃ x, x = fbF (gaF le re lf sz st g1 sz) bs be st la (wsF (gaF le re lf sz st g1 sz) bs be st la sz) sz 0 := ⟨_, rfl⟩
      have bkk : kk < 8 := by have q := fbF_lt (gn := gaF le re lf sz st g1 sz) (bs := bs) (be := be) (st := st) (la := la) (mo := wsF (gaF le re lf sz st g1 sz) bs be st la sz) sz 0; rw [← ek] at q; omega
      refine aw_toe (nI kk) (by rw [ek]) ?_
      refine aw_istore [(4, .int (nI kk)), (3, .int (nI a)), (2, .int (nI la)), (1, .int (nI st)), (0, .ref (G.1 + S))] dX7_tellRow_25 (by decide) rfl ?_
      refine aw_aload_n 4 dX7_tellRow_27 rfl rfl ?_
      refine aw_get fX7_36 dX7_tellRow_28 f150 rfl ?_
      refine aw_iload_n 1 dX7_tellRow_31 rfl rfl ?_
      refine aw_aload_n 4 dX7_tellRow_32 rfl rfl ?_
      refine aw_get fX7_9 dX7_tellRow_33 f150 rfl ?_
      refine aw_iload 0 dX7_tellRow_36 rfl ?_
      refine aw_iald kk (rfl) (by omega) (by decide) dX7_tellRow_38 f151 ?_
      refine aw_iast a (rfl) (by omega) (by decide) dX7_tellRow_39 f159 ?_
      refine aw_iload_n 3 dX7_tellRow_40 rfl rfl ?_
      refine aw_iconst (1) dX7_tellRow_41 (by decide) ?_
      refine aw_iload 0 dX7_tellRow_42 rfl ?_
      refine aw_ishl dX7_tellRow_44 ?_
      refine aw_toe (nI (2 ^ kk)) (nv_shl1 (rfl) (by omega)) ?_
      refine aw_ior dX7_tellRow_45 ?_
      refine aw_toe (nI (st ||| (2 ^ kk))) (nv_or (rfl) (rfl)) ?_
      refine aw_istore_n [(1, .int (nI (st ||| (2 ^ kk)))), (4, .int (nI kk)), (3, .int (nI a)), (2, .int (nI la)), (0, .ref (G.1 + S))] dX7_tellRow_46 rfl (by decide) rfl ?_
      refine aw_iload 1 dX7_tellRow_47 rfl ?_
      refine aw_istore_n [(2, .int (nI kk)), (1, .int (nI (st ||| (2 ^ kk)))), (4, .int (nI kk)), (3, .int (nI a)), (0, .ref (G.1 + S))] dX7_tellRow_49 rfl (by decide) rfl ?_
      refine aw_iinc (j := 3) (nI (a + 1)) [(3, .int (nI (a + 1))), (2, .int (nI kk)), (1, .int (nI (st ||| (2 ^ kk)))), (4, .int (nI kk)), (0, .ref (G.1 + S))] dX7_tellRow_50 rfl (nv_inc (rfl)) (by decide) rfl ?_
      refine aw_goto 6 dX7_tellRow_53 (by decide) ?_
      refine aw_lv [(3, .int (nI (a + 1))), (2, .int (nI kk)), (1, .int (nI (st ||| (2 ^ kk)))), (0, .ref (G.1 + S))] [0, 1, 2, 4] rfl ?_
      exact ih147 (a + 1) (st ||| (2 ^ kk)) kk (gaF le re lf sz st g1 sz) (upd t1 a (tg kk)) _ (by omega) (by omega) (by simp only [trF]; rw [← hq]; dsimp only; rw [← ek]) (gn (by omega) (f150)) (gn (by omega) (f151)) (gn (by omega) (f152)) (gn (by omega) (f153)) (gn (by omega) (f154)) (gn (by omega) (f155)) (gn (by omega) (f156)) (gn (by omega) (f157)) (gn (by omega) (f158)) (gs f159) (rng_set (rng_tr (k146) (rng_w k160 (by omega) (by omega))) (by omega) (by omega))
set_option maxHeartbeats 4000000 in
theorem aX7_rebuild_h {l : Launch} {G : xG} {h : List va_E} {S sz b0 y0 : Nat} {tt su : Int32} {po : Nat → Nat} {tg lf be le re gg bs to : Nat → Int32} {so x y tr : Nat → Nat} {n st : Nat} (hS : h[S]? = some (oB 7 (lSh G S (nI sz) tt su (nI b0) (nI y0)))) (hS_1 : h[S + 1]? = some (aI 8 tg)) (hS_2 : h[S + 2]? = some (aI 12 (nA po))) (hS_3 : h[S + 3]? = some (aI 64 lf)) (hS_4 : h[S + 4]? = some (aI 64 be)) (hS_5 : h[S + 5]? = some (aI 8 le)) (hS_6 : h[S + 6]? = some (aI 8 re)) (hS_7 : h[S + 7]? = some (aI 8 gg)) (hS_8 : h[S + 8]? = some (aI 2048 bs)) (hS_9 : h[S + 9]? = some (aI 8 to)) (h79 : h[79]? = some (oB 6 (lS G (nI n)))) (h80 : h[80]? = some (aI 40 (nA so))) (h81 : h[81]? = some (aI 40 (nA x))) (h82 : h[82]? = some (aI 40 (nA y))) (h83 : h[83]? = some (aI 40 (nA tr))) (bst : st < 4096) (hst : st ≠ 0) (hpo : ∀ j, j < 12 → po j < 8) (bb0 : b0 < 4096) (by0 : y0 ≤ 40) (hS1 : 125 ≤ S) (hn : n ≤ 40) (bso : ∀ j, j < 40 → so j < 4) (bx : ∀ j, j < 40 → x j < 12) (by_ : ∀ j, j < 40 → y j < 12) (hb : b0 = st ∧ y0 = n) : CD l G yX7_rebuild cX7_rebuild 4 none 0 0 0 [.ref (G.1 + S), .int (nI st), .ref (G.1 + 79)] h none h := by
  refine cm_ofQ rfl (Nat.le_of_ble_eq_true rfl) [(0, .ref (G.1 + S)), (1, .int (nI st)), (2, .ref (G.1 + 79))] rfl (fun QF hQF => ?_)
  refine aw_iload_n 1 dX7_rebuild_0 rfl rfl ?_
  refine aw_aload_n 0 dX7_rebuild_1 rfl rfl ?_
  refine aw_get fX7_49 dX7_rebuild_2 hS rfl ?_
  refine aw_icmp_ne 20 dX7_rebuild_5 (by decide) (fun c5 => absurd (by rw [hb.1]) c5) (fun c5 => ?_)
  refine aw_aload_n 2 dX7_rebuild_8 rfl rfl ?_
  refine aw_get fX7_55 dX7_rebuild_9 h79 rfl ?_
  refine aw_aload_n 0 dX7_rebuild_12 rfl rfl ?_
  refine aw_get fX7_52 dX7_rebuild_13 hS rfl ?_
  refine aw_icmp_ne 20 dX7_rebuild_16 (by decide) (fun c16 => absurd (by rw [hb.2]) c16) (fun c16 => ?_)
  subst hQF
  exact aw_vret rfl dX7_rebuild_19 (by decide) (by decide) ⟨rfl, rfl⟩
set_option maxHeartbeats 4000000 in
theorem aX7_rebuild_m {l : Launch} {G : xG} {h : List va_E} {S sz b0 y0 : Nat} {tt su : Int32} {po : Nat → Nat} {tg lf be le re gg bs to : Nat → Int32} {so x y tr : Nat → Nat} {n st : Nat} (hS : h[S]? = some (oB 7 (lSh G S (nI sz) tt su (nI b0) (nI y0)))) (hS_1 : h[S + 1]? = some (aI 8 tg)) (hS_2 : h[S + 2]? = some (aI 12 (nA po))) (hS_3 : h[S + 3]? = some (aI 64 lf)) (hS_4 : h[S + 4]? = some (aI 64 be)) (hS_5 : h[S + 5]? = some (aI 8 le)) (hS_6 : h[S + 6]? = some (aI 8 re)) (hS_7 : h[S + 7]? = some (aI 8 gg)) (hS_8 : h[S + 8]? = some (aI 2048 bs)) (hS_9 : h[S + 9]? = some (aI 8 to)) (h79 : h[79]? = some (oB 6 (lS G (nI n)))) (h80 : h[80]? = some (aI 40 (nA so))) (h81 : h[81]? = some (aI 40 (nA x))) (h82 : h[82]? = some (aI 40 (nA y))) (h83 : h[83]? = some (aI 40 (nA tr))) (bst : st < 4096) (hst : st ≠ 0) (hpo : ∀ j, j < 12 → po j < 8) (bb0 : b0 < 4096) (by0 : y0 ≤ 40) (hS1 : 125 ≤ S) (hn : n ≤ 40) (bso : ∀ j, j < 40 → so j < 4) (bx : ∀ j, j < 40 → x j < 12) (by_ : ∀ j, j < 40 → y j < 12) (hb : ¬ (b0 = st ∧ y0 = n)) : CE l G yX7_rebuild cX7_rebuild 4 none 4 0 0 [.ref (G.1 + S), .int (nI st), .ref (G.1 + 79)] h none (fun h1 => ∃ sz1 : Nat, ∃ tt1 : Int32, ∃ su1 : Int32, ∃ po1 : Nat → Nat, ∃ tg1 : Nat → Int32, ∃ lf0 : Nat → Int32, ∃ be0 : Nat → Int32, ∃ le0 : Nat → Int32, ∃ re0 : Nat → Int32, ∃ T1 : trT, ∃ gg1 : Nat → Int32, ∃ gg2 : Nat → Int32, ∃ bs1 : Nat → Int32, ∃ to1 : Nat → Int32, h1[S]? = some (oB 7 (lSh G S (nI sz1) tt1 su1 (nI st) (nI n))) ∧ h1[S + 1]? = some (aI 8 tg1) ∧ h1[S + 2]? = some (aI 12 (nA po1)) ∧ h1[S + 3]? = some (aI 64 T1.1) ∧ h1[S + 4]? = some (aI 64 T1.2.1) ∧ h1[S + 5]? = some (aI 8 T1.2.2.1) ∧ h1[S + 6]? = some (aI 8 T1.2.2.2) ∧ h1[S + 7]? = some (aI 8 gg2) ∧ h1[S + 8]? = some (aI 2048 bs1) ∧ h1[S + 9]? = some (aI 8 to1) ∧ rng S (S + 9) h h1 ∧ (sz1, tg1, po1) = rtF st tg po 12 ∧ (∀ j, j < 64 → lf0 j = 0 ∧ be0 j = 0) ∧ (∀ j, j < 8 → le0 j = 0 ∧ re0 j = 0) ∧ (tt1, T1) = twF st so x y tr po1 (lf0, be0, le0, re0) n ∧ bs1 = (wtF T1.2.2.1 T1.2.2.2 T1.1 T1.2.1 sz1 (2 ^ sz1 - 1 - 1) (wzF (2 ^ sz1 - 1) bs sz1, gg)).1 ∧ gg1 = gaF T1.2.2.1 T1.2.2.2 T1.1 sz1 0 (wtF T1.2.2.1 T1.2.2.2 T1.1 T1.2.1 sz1 (2 ^ sz1 - 1 - 1) (wzF (2 ^ sz1 - 1) bs sz1, gg)).2 sz1 ∧ su1 = wsF gg1 bs1 T1.2.1 0 0 sz1 ∧ to1 = (trF T1.2.2.1 T1.2.2.2 T1.1 T1.2.1 bs1 tg1 sz1 gg1 to sz1).2.2.2) := by
  refine cm_ofQ rfl (Nat.le_of_ble_eq_true rfl) [(0, .ref (G.1 + S)), (1, .int (nI st)), (2, .ref (G.1 + 79))] rfl (fun QF hQF => ?_)
  refine aw_iload_n 1 dX7_rebuild_0 rfl rfl ?_
  refine aw_aload_n 0 dX7_rebuild_1 rfl rfl ?_
  refine aw_get fX7_49 dX7_rebuild_2 hS rfl ?_
  refine aw_icmp_ne 20 dX7_rebuild_5 (by decide) (fun c5 => ?_) (fun c5 => ?_)
  · have d5 := mt (nv_eq (a := st) (b := b0) (rfl) (rfl) (by omega) (by omega)).mpr c5
    refine aw_aload_n 0 dX7_rebuild_20 rfl rfl ?_
    refine aw_iload_n 1 dX7_rebuild_21 rfl rfl ?_
    refine aw_putQ fX7_49 dX7_rebuild_22 (lSh G S (nI sz) tt su (nI st) (nI y0)) hS rfl rfl rfl (Nat.le_of_ble_eq_true rfl) rfl ?_
    refine aw_aload_n 0 dX7_rebuild_25 rfl rfl ?_
    refine aw_aload_n 2 dX7_rebuild_26 rfl rfl ?_
    refine aw_get fX7_55 dX7_rebuild_27 (gn (by omega) (h79)) rfl ?_
    refine aw_putQ fX7_52 dX7_rebuild_30 (lSh G S (nI sz) tt su (nI st) (nI n)) (gs hS) rfl rfl rfl (Nat.le_of_ble_eq_true rfl) rfl ?_
    refine aw_aload_n 0 dX7_rebuild_33 rfl rfl ?_
    refine aw_iload_n 1 dX7_rebuild_34 rfl rfl ?_
    refine aw_eW [.int (nI st)] [] lX7_60 vX7_readThings mX7_readThings dX7_rebuild_35 (aX7_readThings (S := S) (sz := sz) (b0 := st) (y0 := n) (tt := tt) (su := su) (po := po) (tg := tg) (lf := lf) (be := be) (le := le) (re := re) (gg := gg) (bs := bs) (to := to) (st := st) (gs (gs hS)) (gn (by omega) (gn (by omega) (hS_1))) (gn (by omega) (gn (by omega) (hS_2))) (gn (by omega) (gn (by omega) (hS_3))) (gn (by omega) (gn (by omega) (hS_4))) (gn (by omega) (gn (by omega) (hS_5))) (gn (by omega) (gn (by omega) (hS_6))) (gn (by omega) (gn (by omega) (hS_7))) (gn (by omega) (gn (by omega) (hS_8))) (gn (by omega) (gn (by omega) (hS_9))) hpo (by omega)) (gs (gs hS)) rfl rfl rfl (Nat.le_of_ble_eq_true rfl) (by decide) (by decide) rfl (fun h165 q164 => ?_)
    obtain ⟨sz1161, tg1162, po1163, f166, f167, f168, f169, f170, f171, f172, f173, f174, f175, k176, p177⟩ := q164
    have f178 := rng_at k176 (by omega) (gn (by omega) (gn (by omega) (h79)))
    have f179 := rng_at k176 (by omega) (gn (by omega) (gn (by omega) (h80)))
    have f180 := rng_at k176 (by omega) (gn (by omega) (gn (by omega) (h81)))
    have f181 := rng_at k176 (by omega) (gn (by omega) (gn (by omega) (h82)))
    have f182 := rng_at k176 (by omega) (gn (by omega) (gn (by omega) (h83)))
    refine aw_aload_n 0 dX7_rebuild_38 rfl rfl ?_
    refine aw_eW [] [] lX7_64 vX7_clearTrust mX7_clearTrust dX7_rebuild_39 (aX7_clearTrust (S := S) (sz := sz1161) (b0 := st) (y0 := n) (tt := tt) (su := su) (po := po1163) (tg := tg1162) (lf := lf) (be := be) (le := le) (re := re) (gg := gg) (bs := bs) (to := to) f166 f167 f168 f169 f170 f171 f172 f173 f174 f175) f166 rfl rfl rfl (Nat.le_of_ble_eq_true rfl) (by decide) (by decide) rfl (fun h188 q187 => ?_)
    obtain ⟨lf1183, be1184, le1185, re1186, f189, f190, f191, f192, f193, f194, f195, f196, f197, f198, k199, p200, p201⟩ := q187
    have f202 := rng_at k199 (by omega) f178
    have f203 := rng_at k199 (by omega) f179
    have f204 := rng_at k199 (by omega) f180
    have f205 := rng_at k199 (by omega) f181
    have f206 := rng_at k199 (by omega) f182
    refine aw_aload_n 0 dX7_rebuild_42 rfl rfl ?_
    refine aw_iconst (0) dX7_rebuild_43 (by decide) ?_
    refine aw_putQ fX7_43 dX7_rebuild_44 (lSh G S (nI sz1161) 0 su (nI st) (nI n)) f189 rfl rfl rfl (Nat.le_of_ble_eq_true rfl) rfl ?_
    refine aw_iconst (0) dX7_rebuild_47 (by decide) ?_
    refine aw_istore_n [(3, .int 0), (0, .ref (G.1 + S)), (1, .int (nI st)), (2, .ref (G.1 + 79))] dX7_rebuild_48 rfl (by decide) rfl ?_
    have hpo1 := (rtF_ok (st := st) (tg := tg) hpo 12).2
    rw [← p177] at hpo1
    dsimp only at hpo1
    refine aw_lv [(3, .int 0), (2, .ref (G.1 + 79)), (1, .int (nI st)), (0, .ref (G.1 + S))] [0, 3, 2, 1] rfl ?_
    suffices L224 : ∀ (mm : Nat) (i : Nat) (t0 : Int32) (T : trT) (h207 : List va_E), n - i < mm → (i ≤ n) → ((t0, T) = twF st so x y tr po1163 (lf1183, be1184, le1185, re1186) i) → h207[S]? = some (oB 7 (lSh G S (nI sz1161) t0 su (nI st) (nI n))) → h207[S + 1]? = some (aI 8 tg1162) → h207[S + 2]? = some (aI 12 (nA po1163)) → h207[S + 3]? = some (aI 64 T.1) → h207[S + 4]? = some (aI 64 T.2.1) → h207[S + 5]? = some (aI 8 T.2.2.1) → h207[S + 6]? = some (aI 8 T.2.2.2) → h207[S + 7]? = some (aI 8 gg) → h207[S + 8]? = some (aI 2048 bs) → h207[S + 9]? = some (aI 8 to) → h207[79]? = some (oB 6 (lS G (nI n))) → h207[80]? = some (aI 40 (nA so)) → h207[81]? = some (aI 40 (nA x)) → h207[82]? = some (aI 40 (nA y)) → h207[83]? = some (aI 40 (nA tr)) → rng S (S + 9) h h207 → AW l G yX7_rebuild cX7_rebuild 4 none (xR 4 0 0) (fun _ _ => True) QF 0 0 49 [(3, .int (nI i)), (2, .ref (G.1 + 79)), (1, .int (nI st)), (0, .ref (G.1 + S))] [] h207 from L224 (n - 0 + 1) 0 0 (lf1183, be1184, le1185, re1186) _ (Nat.lt_succ_self _) (Nat.zero_le _) (rfl) (gs f189) (gn (by omega) (f190)) (gn (by omega) (f191)) (gn (by omega) (f192)) (gn (by omega) (f193)) (gn (by omega) (f194)) (gn (by omega) (f195)) (gn (by omega) (f196)) (gn (by omega) (f197)) (gn (by omega) (f198)) (gn (by omega) (f202)) (gn (by omega) (f203)) (gn (by omega) (f204)) (gn (by omega) (f205)) (gn (by omega) (f206)) (rng_set (rng_tr (rng_tr (rng_set (rng_set (rng_rf S (S + 9) h) (by omega) (by omega)) (by omega) (by omega)) (rng_w k176 (by omega) (by omega))) (rng_w k199 (by omega) (by omega))) (by omega) (by omega))
    intro mm
    induction mm with
    | zero =>
      intro i t0 T h207 hmm hi hT f208 f209 f210 f211 f212 f213 f214 f215 f216 f217 f218 f219 f220 f221 f222 k223
      exact absurd hmm (Nat.not_lt_zero _)
    | succ mm ih224 =>
      intro i t0 T h207 hmm hi hT f208 f209 f210 f211 f212 f213 f214 f215 f216 f217 f218 f219 f220 f221 f222 k223
      refine aw_iload_n 0 dX7_rebuild_49 rfl rfl ?_
      refine aw_aload_n 1 dX7_rebuild_50 rfl rfl ?_
      refine aw_get fX7_55 dX7_rebuild_51 f218 rfl ?_
      refine aw_icmp_ge 142 dX7_rebuild_54 (by decide) (fun c54 => ?_) (fun c54 => ?_)
      · have d54 := (nv_le (a := n) (b := i) (rfl) (rfl) (by omega) (by omega)).mp c54
        have hsz9 := (rtF_ok (st := st) (tg := tg) hpo 12).1
        rw [← p177] at hsz9
        dsimp only at hsz9
        have hsz8 := rtF_pos (tg := tg) (po := po) bst hst
        rw [← p177] at hsz8
        dsimp only at hsz8
        refine aw_aload_n 3 dX7_rebuild_142 rfl rfl ?_
        refine aw_eW [] [] lX7_83 vX7_weighStates mX7_weighStates dX7_rebuild_143 (aX7_weighStates (S := S) (sz := sz1161) (b0 := st) (y0 := n) (tt := t0) (su := su) (po := po1163) (tg := tg1162) (lf := T.1) (be := T.2.1) (le := T.2.2.1) (re := T.2.2.2) (gg := gg) (bs := bs) (to := to) f208 f209 f210 f211 f212 f213 f214 f215 f216 f217 hsz9 hsz8) f208 rfl rfl rfl (Nat.le_of_ble_eq_true rfl) (by decide) (by decide) rfl (fun h229 q228 => ?_)
        obtain ⟨su1225, gg1226, bs1227, f230, f231, f232, f233, f234, f235, f236, f237, f238, f239, k240, p241, p242, p243⟩ := q228
        have f244 := rng_at k240 (by omega) f218
        have f245 := rng_at k240 (by omega) f219
        have f246 := rng_at k240 (by omega) f220
        have f247 := rng_at k240 (by omega) f221
        have f248 := rng_at k240 (by omega) f222
        refine aw_aload_n 3 dX7_rebuild_146 rfl rfl ?_
        refine aw_eW [] [] lX7_86 vX7_tellRow mX7_tellRow dX7_rebuild_147 (aX7_tellRow (S := S) (sz := sz1161) (b0 := st) (y0 := n) (tt := t0) (su := su1225) (po := po1163) (tg := tg1162) (lf := T.1) (be := T.2.1) (le := T.2.2.1) (re := T.2.2.2) (gg := gg1226) (bs := bs1227) (to := to) f230 f231 f232 f233 f234 f235 f236 f237 f238 f239 hsz9 hsz8) f230 rfl rfl rfl (Nat.le_of_ble_eq_true rfl) (by decide) (by decide) rfl (fun h252 q251 => ?_)
        obtain ⟨gg1249, to1250, f253, f254, f255, f256, f257, f258, f259, f260, f261, f262, k263, p264⟩ := q251
        have f265 := rng_at k263 (by omega) f244
        have f266 := rng_at k263 (by omega) f245
        have f267 := rng_at k263 (by omega) f246
        have f268 := rng_at k263 (by omega) f247
        have f269 := rng_at k263 (by omega) f248
        subst hQF
        exact aw_vret rfl dX7_rebuild_150 (by decide) (by decide) ⟨rfl, _, _, _, _, _, _, _, _, _, _, _, _, _, _, f253, f254, f255, f256, f257, f258, f259, f260, f261, f262, rng_tr (rng_tr (k223) (rng_w k240 (by omega) (by omega))) (rng_w k263 (by omega) (by omega)), p177, p200, p201, by rw [show n = i by omega]; exact hT, p241, p242, p243, p264⟩
      · have d54 := mt (nv_le (a := n) (b := i) (rfl) (rfl) (by omega) (by omega)).mpr c54
        refine aw_iload_n 2 dX7_rebuild_57 rfl rfl ?_
        refine aw_aload_n 1 dX7_rebuild_58 rfl rfl ?_
        refine aw_get fX7_67 dX7_rebuild_59 f218 rfl ?_
        refine aw_iload_n 0 dX7_rebuild_62 rfl rfl ?_
        refine aw_iald i (rfl) (by omega) (by decide) dX7_rebuild_63 f220 ?_
        refine aw_toe (nI (x i)) (rfl) ?_
        have b270 := bx i (by omega)
        refine aw_ishr dX7_rebuild_64 ?_
        refine aw_iconst (1) dX7_rebuild_65 (by decide) ?_
        refine aw_iand dX7_rebuild_66 ?_
        refine aw_toe (if st.testBit (x i) = true then 1 else 0) (nv_bit (rfl) (rfl) (by omega) (by omega)) ?_
        refine aw_if_eq 136 dX7_rebuild_67 (by decide) (fun c67 => ?_) (fun c67 => ?_)
        · have t67 := ite_0 c67
          refine aw_iinc (j := 0) (nI (i + 1)) [(3, .int (nI (i + 1))), (2, .ref (G.1 + 79)), (1, .int (nI st)), (0, .ref (G.1 + S))] dX7_rebuild_136 rfl (nv_inc (rfl)) (by decide) rfl ?_
          refine aw_goto 49 dX7_rebuild_139 (by decide) ?_
          refine aw_lv [(3, .int (nI (i + 1))), (2, .ref (G.1 + 79)), (1, .int (nI st)), (0, .ref (G.1 + S))] [0, 1, 2, 3] rfl ?_
          exact ih224 (i + 1) t0 T _ (by omega) (by omega) (by rw [twF_s, if_neg (fun q => t67 q.1)]; exact hT) f208 f209 f210 f211 f212 f213 f214 f215 f216 f217 f218 f219 f220 f221 f222 (k223)
        · have t67 := ite_1 c67
          refine aw_iload_n 2 dX7_rebuild_70 rfl rfl ?_
          refine aw_aload_n 1 dX7_rebuild_71 rfl rfl ?_
          refine aw_get fX7_70 dX7_rebuild_72 f218 rfl ?_
          refine aw_iload_n 0 dX7_rebuild_75 rfl rfl ?_
          refine aw_iald i (rfl) (by omega) (by decide) dX7_rebuild_76 f221 ?_
          refine aw_toe (nI (y i)) (rfl) ?_
          have b271 := by_ i (by omega)
          refine aw_ishr dX7_rebuild_77 ?_
          refine aw_iconst (1) dX7_rebuild_78 (by decide) ?_
          refine aw_iand dX7_rebuild_79 ?_
          refine aw_toe (if st.testBit (y i) = true then 1 else 0) (nv_bit (rfl) (rfl) (by omega) (by omega)) ?_
          refine aw_if_eq 136 dX7_rebuild_80 (by decide) (fun c80 => ?_) (fun c80 => ?_)
          · have t80 := ite_0 c80
            refine aw_iinc (j := 0) (nI (i + 1)) [(3, .int (nI (i + 1))), (2, .ref (G.1 + 79)), (1, .int (nI st)), (0, .ref (G.1 + S))] dX7_rebuild_136 rfl (nv_inc (rfl)) (by decide) rfl ?_
            refine aw_goto 49 dX7_rebuild_139 (by decide) ?_
            refine aw_lv [(3, .int (nI (i + 1))), (2, .ref (G.1 + 79)), (1, .int (nI st)), (0, .ref (G.1 + S))] [0, 1, 2, 3] rfl ?_
            exact ih224 (i + 1) t0 T _ (by omega) (by omega) (by rw [twF_s, if_neg (fun q => t80 q.2)]; exact hT) f208 f209 f210 f211 f212 f213 f214 f215 f216 f217 f218 f219 f220 f221 f222 (k223)
          · have t80 := ite_1 c80
            refine aw_aload_n 3 dX7_rebuild_83 rfl rfl ?_
            refine aw_dup dX7_rebuild_84 rfl ?_
            refine aw_get fX7_43 dX7_rebuild_85 f208 rfl ?_
            refine aw_aload_n 1 dX7_rebuild_88 rfl rfl ?_
            refine aw_get fX7_73 dX7_rebuild_89 f218 rfl ?_
            refine aw_iload_n 0 dX7_rebuild_92 rfl rfl ?_
            refine aw_iald i (rfl) (by omega) (by decide) dX7_rebuild_93 f222 ?_
            refine aw_toe (nI (tr i)) (rfl) ?_
            refine aw_iadd dX7_rebuild_94 ?_
            refine aw_putQ fX7_43 dX7_rebuild_95 (lSh G S (nI sz1161) (t0 + (nI (tr i))) su (nI st) (nI n)) f208 rfl rfl rfl (Nat.le_of_ble_eq_true rfl) rfl ?_
            refine aw_aload_n 3 dX7_rebuild_98 rfl rfl ?_
            refine aw_aload_n 1 dX7_rebuild_99 rfl rfl ?_
            refine aw_get fX7_76 dX7_rebuild_100 (gn (by omega) (f218)) rfl ?_
            refine aw_iload_n 0 dX7_rebuild_103 rfl rfl ?_
            refine aw_iald i (rfl) (by omega) (by decide) dX7_rebuild_104 (gn (by omega) (f219)) ?_
            refine aw_toe (nI (so i)) (rfl) ?_
            have b272 := bso i (by omega)
            refine aw_aload_n 3 dX7_rebuild_105 rfl rfl ?_
            refine aw_get fX7_15 dX7_rebuild_106 (gs f208) rfl ?_
            refine aw_aload_n 1 dX7_rebuild_109 rfl rfl ?_
            refine aw_get fX7_67 dX7_rebuild_110 (gn (by omega) (f218)) rfl ?_
            refine aw_iload_n 0 dX7_rebuild_113 rfl rfl ?_
            refine aw_iald i (rfl) (by omega) (by decide) dX7_rebuild_114 (gn (by omega) (f220)) ?_
            refine aw_toe (nI (x i)) (rfl) ?_
            have b273 := bx i (by omega)
            refine aw_iald (x i) (rfl) (by omega) (by decide) dX7_rebuild_115 (gn (by omega) (f210)) ?_
            refine aw_toe (nI (po1163 (x i))) (rfl) ?_
            refine aw_aload_n 3 dX7_rebuild_116 rfl rfl ?_
            refine aw_get fX7_15 dX7_rebuild_117 (gs f208) rfl ?_
            refine aw_aload_n 1 dX7_rebuild_120 rfl rfl ?_
            refine aw_get fX7_70 dX7_rebuild_121 (gn (by omega) (f218)) rfl ?_
            refine aw_iload_n 0 dX7_rebuild_124 rfl rfl ?_
            refine aw_iald i (rfl) (by omega) (by decide) dX7_rebuild_125 (gn (by omega) (f221)) ?_
            refine aw_toe (nI (y i)) (rfl) ?_
            have b274 := by_ i (by omega)
            refine aw_iald (y i) (rfl) (by omega) (by decide) dX7_rebuild_126 (gn (by omega) (f210)) ?_
            refine aw_toe (nI (po1163 (y i))) (rfl) ?_
            refine aw_aload_n 1 dX7_rebuild_127 rfl rfl ?_
            refine aw_get fX7_73 dX7_rebuild_128 (gn (by omega) (f218)) rfl ?_
            refine aw_iload_n 0 dX7_rebuild_131 rfl rfl ?_
            refine aw_iald i (rfl) (by omega) (by decide) dX7_rebuild_132 (gn (by omega) (f222)) ?_
            refine aw_toe (nI (tr i)) (rfl) ?_
            refine aw_eW [.int (nI (so i)), .int (nI (po1163 (x i))), .int (nI (po1163 (y i))), .int (nI (tr i))] [] lX7_79 vX7_addTrust mX7_addTrust dX7_rebuild_133 (aX7_addTrust (S := S) (sz := sz1161) (b0 := st) (y0 := n) (tt := t0 + (nI (tr i))) (su := su) (po := po1163) (tg := tg1162) (lf := T.1) (be := T.2.1) (le := T.2.2.1) (re := T.2.2.2) (gg := gg) (bs := bs) (to := to) (s := so i) (o := po1163 (x i)) (k := po1163 (y i)) (t := (nI (tr i))) (gs f208) (gn (by omega) (f209)) (gn (by omega) (f210)) (gn (by omega) (f211)) (gn (by omega) (f212)) (gn (by omega) (f213)) (gn (by omega) (f214)) (gn (by omega) (f215)) (gn (by omega) (f216)) (gn (by omega) (f217)) (by omega) (hpo1 _ (by omega)) (hpo1 _ (by omega))) (gs f208) rfl rfl rfl (Nat.le_of_ble_eq_true rfl) (by decide) (by decide) rfl (fun h276 q275 => ?_)
            obtain ⟨f277, f278, f279, f280, f281, f282, f283, f284, f285, f286, k287⟩ := q275
            have f288 := rng_at k287 (by omega) (gn (by omega) (f218))
            have f289 := rng_at k287 (by omega) (gn (by omega) (f219))
            have f290 := rng_at k287 (by omega) (gn (by omega) (f220))
            have f291 := rng_at k287 (by omega) (gn (by omega) (f221))
            have f292 := rng_at k287 (by omega) (gn (by omega) (f222))
            refine aw_iinc (j := 0) (nI (i + 1)) [(3, .int (nI (i + 1))), (2, .ref (G.1 + 79)), (1, .int (nI st)), (0, .ref (G.1 + S))] dX7_rebuild_136 rfl (nv_inc (rfl)) (by decide) rfl ?_
            refine aw_goto 49 dX7_rebuild_139 (by decide) ?_
            refine aw_lv [(3, .int (nI (i + 1))), (2, .ref (G.1 + 79)), (1, .int (nI st)), (0, .ref (G.1 + S))] [0, 1, 2, 3] rfl ?_
            exact ih224 (i + 1) (t0 + (nI (tr i))) (atF (so i) (po1163 (x i)) (po1163 (y i)) (nI (tr i)) T) _ (by omega) (by omega) (by rw [twF_s, if_pos ⟨t67, t80⟩, ← hT]) f277 f278 f279 f280 f281 f282 f283 f284 f285 f286 f288 f289 f290 f291 f292 (rng_tr (rng_set (k223) (by omega) (by omega)) (rng_w k287 (by omega) (by omega)))
  · have d5 := (nv_eq (a := st) (b := b0) (rfl) (rfl) (by omega) (by omega)).mp c5
    refine aw_aload_n 2 dX7_rebuild_8 rfl rfl ?_
    refine aw_get fX7_55 dX7_rebuild_9 h79 rfl ?_
    refine aw_aload_n 0 dX7_rebuild_12 rfl rfl ?_
    refine aw_get fX7_52 dX7_rebuild_13 hS rfl ?_
    refine aw_icmp_ne 20 dX7_rebuild_16 (by decide) (fun c16 => ?_) (fun c16 => ?_)
    · have d16 := mt (nv_eq (a := n) (b := y0) (rfl) (rfl) (by omega) (by omega)).mpr c16
      refine aw_aload_n 0 dX7_rebuild_20 rfl rfl ?_
      refine aw_iload_n 1 dX7_rebuild_21 rfl rfl ?_
      refine aw_putQ fX7_49 dX7_rebuild_22 (lSh G S (nI sz) tt su (nI st) (nI y0)) hS rfl rfl rfl (Nat.le_of_ble_eq_true rfl) rfl ?_
      refine aw_aload_n 0 dX7_rebuild_25 rfl rfl ?_
      refine aw_aload_n 2 dX7_rebuild_26 rfl rfl ?_
      refine aw_get fX7_55 dX7_rebuild_27 (gn (by omega) (h79)) rfl ?_
      refine aw_putQ fX7_52 dX7_rebuild_30 (lSh G S (nI sz) tt su (nI st) (nI n)) (gs hS) rfl rfl rfl (Nat.le_of_ble_eq_true rfl) rfl ?_
      refine aw_aload_n 0 dX7_rebuild_33 rfl rfl ?_
      refine aw_iload_n 1 dX7_rebuild_34 rfl rfl ?_
      refine aw_eW [.int (nI st)] [] lX7_60 vX7_readThings mX7_readThings dX7_rebuild_35 (aX7_readThings (S := S) (sz := sz) (b0 := st) (y0 := n) (tt := tt) (su := su) (po := po) (tg := tg) (lf := lf) (be := be) (le := le) (re := re) (gg := gg) (bs := bs) (to := to) (st := st) (gs (gs hS)) (gn (by omega) (gn (by omega) (hS_1))) (gn (by omega) (gn (by omega) (hS_2))) (gn (by omega) (gn (by omega) (hS_3))) (gn (by omega) (gn (by omega) (hS_4))) (gn (by omega) (gn (by omega) (hS_5))) (gn (by omega) (gn (by omega) (hS_6))) (gn (by omega) (gn (by omega) (hS_7))) (gn (by omega) (gn (by omega) (hS_8))) (gn (by omega) (gn (by omega) (hS_9))) hpo (by omega)) (gs (gs hS)) rfl rfl rfl (Nat.le_of_ble_eq_true rfl) (by decide) (by decide) rfl (fun h297 q296 => ?_)
      obtain ⟨sz1293, tg1294, po1295, f298, f299, f300, f301, f302, f303, f304, f305, f306, f307, k308, p309⟩ := q296
      have f310 := rng_at k308 (by omega) (gn (by omega) (gn (by omega) (h79)))
      have f311 := rng_at k308 (by omega) (gn (by omega) (gn (by omega) (h80)))
      have f312 := rng_at k308 (by omega) (gn (by omega) (gn (by omega) (h81)))
      have f313 := rng_at k308 (by omega) (gn (by omega) (gn (by omega) (h82)))
      have f314 := rng_at k308 (by omega) (gn (by omega) (gn (by omega) (h83)))
      refine aw_aload_n 0 dX7_rebuild_38 rfl rfl ?_
      refine aw_eW [] [] lX7_64 vX7_clearTrust mX7_clearTrust dX7_rebuild_39 (aX7_clearTrust (S := S) (sz := sz1293) (b0 := st) (y0 := n) (tt := tt) (su := su) (po := po1295) (tg := tg1294) (lf := lf) (be := be) (le := le) (re := re) (gg := gg) (bs := bs) (to := to) f298 f299 f300 f301 f302 f303 f304 f305 f306 f307) f298 rfl rfl rfl (Nat.le_of_ble_eq_true rfl) (by decide) (by decide) rfl (fun h320 q319 => ?_)
      obtain ⟨lf1315, be1316, le1317, re1318, f321, f322, f323, f324, f325, f326, f327, f328, f329, f330, k331, p332, p333⟩ := q319
      have f334 := rng_at k331 (by omega) f310
      have f335 := rng_at k331 (by omega) f311
      have f336 := rng_at k331 (by omega) f312
      have f337 := rng_at k331 (by omega) f313
      have f338 := rng_at k331 (by omega) f314
      refine aw_aload_n 0 dX7_rebuild_42 rfl rfl ?_
      refine aw_iconst (0) dX7_rebuild_43 (by decide) ?_
      refine aw_putQ fX7_43 dX7_rebuild_44 (lSh G S (nI sz1293) 0 su (nI st) (nI n)) f321 rfl rfl rfl (Nat.le_of_ble_eq_true rfl) rfl ?_
      refine aw_iconst (0) dX7_rebuild_47 (by decide) ?_
      refine aw_istore_n [(3, .int 0), (0, .ref (G.1 + S)), (1, .int (nI st)), (2, .ref (G.1 + 79))] dX7_rebuild_48 rfl (by decide) rfl ?_
      have hpo1 := (rtF_ok (st := st) (tg := tg) hpo 12).2
      rw [← p309] at hpo1
      dsimp only at hpo1
      refine aw_lv [(3, .int 0), (2, .ref (G.1 + 79)), (1, .int (nI st)), (0, .ref (G.1 + S))] [0, 3, 2, 1] rfl ?_
      suffices L356 : ∀ (mm : Nat) (i : Nat) (t0 : Int32) (T : trT) (h339 : List va_E), n - i < mm → (i ≤ n) → ((t0, T) = twF st so x y tr po1295 (lf1315, be1316, le1317, re1318) i) → h339[S]? = some (oB 7 (lSh G S (nI sz1293) t0 su (nI st) (nI n))) → h339[S + 1]? = some (aI 8 tg1294) → h339[S + 2]? = some (aI 12 (nA po1295)) → h339[S + 3]? = some (aI 64 T.1) → h339[S + 4]? = some (aI 64 T.2.1) → h339[S + 5]? = some (aI 8 T.2.2.1) → h339[S + 6]? = some (aI 8 T.2.2.2) → h339[S + 7]? = some (aI 8 gg) → h339[S + 8]? = some (aI 2048 bs) → h339[S + 9]? = some (aI 8 to) → h339[79]? = some (oB 6 (lS G (nI n))) → h339[80]? = some (aI 40 (nA so)) → h339[81]? = some (aI 40 (nA x)) → h339[82]? = some (aI 40 (nA y)) → h339[83]? = some (aI 40 (nA tr)) → rng S (S + 9) h h339 → AW l G yX7_rebuild cX7_rebuild 4 none (xR 4 0 0) (fun _ _ => True) QF 0 0 49 [(3, .int (nI i)), (2, .ref (G.1 + 79)), (1, .int (nI st)), (0, .ref (G.1 + S))] [] h339 from L356 (n - 0 + 1) 0 0 (lf1315, be1316, le1317, re1318) _ (Nat.lt_succ_self _) (Nat.zero_le _) (rfl) (gs f321) (gn (by omega) (f322)) (gn (by omega) (f323)) (gn (by omega) (f324)) (gn (by omega) (f325)) (gn (by omega) (f326)) (gn (by omega) (f327)) (gn (by omega) (f328)) (gn (by omega) (f329)) (gn (by omega) (f330)) (gn (by omega) (f334)) (gn (by omega) (f335)) (gn (by omega) (f336)) (gn (by omega) (f337)) (gn (by omega) (f338)) (rng_set (rng_tr (rng_tr (rng_set (rng_set (rng_rf S (S + 9) h) (by omega) (by omega)) (by omega) (by omega)) (rng_w k308 (by omega) (by omega))) (rng_w k331 (by omega) (by omega))) (by omega) (by omega))
      intro mm
      induction mm with
      | zero =>
        intro i t0 T h339 hmm hi hT f340 f341 f342 f343 f344 f345 f346 f347 f348 f349 f350 f351 f352 f353 f354 k355
        exact absurd hmm (Nat.not_lt_zero _)
      | succ mm ih356 =>
        intro i t0 T h339 hmm hi hT f340 f341 f342 f343 f344 f345 f346 f347 f348 f349 f350 f351 f352 f353 f354 k355
        refine aw_iload_n 0 dX7_rebuild_49 rfl rfl ?_
        refine aw_aload_n 1 dX7_rebuild_50 rfl rfl ?_
        refine aw_get fX7_55 dX7_rebuild_51 f350 rfl ?_
        refine aw_icmp_ge 142 dX7_rebuild_54 (by decide) (fun c54 => ?_) (fun c54 => ?_)
        · have d54 := (nv_le (a := n) (b := i) (rfl) (rfl) (by omega) (by omega)).mp c54
          have hsz9 := (rtF_ok (st := st) (tg := tg) hpo 12).1
          rw [← p309] at hsz9
          dsimp only at hsz9
          have hsz8 := rtF_pos (tg := tg) (po := po) bst hst
          rw [← p309] at hsz8
          dsimp only at hsz8
          refine aw_aload_n 3 dX7_rebuild_142 rfl rfl ?_
          refine aw_eW [] [] lX7_83 vX7_weighStates mX7_weighStates dX7_rebuild_143 (aX7_weighStates (S := S) (sz := sz1293) (b0 := st) (y0 := n) (tt := t0) (su := su) (po := po1295) (tg := tg1294) (lf := T.1) (be := T.2.1) (le := T.2.2.1) (re := T.2.2.2) (gg := gg) (bs := bs) (to := to) f340 f341 f342 f343 f344 f345 f346 f347 f348 f349 hsz9 hsz8) f340 rfl rfl rfl (Nat.le_of_ble_eq_true rfl) (by decide) (by decide) rfl (fun h361 q360 => ?_)
          obtain ⟨su1357, gg1358, bs1359, f362, f363, f364, f365, f366, f367, f368, f369, f370, f371, k372, p373, p374, p375⟩ := q360
          have f376 := rng_at k372 (by omega) f350
          have f377 := rng_at k372 (by omega) f351
          have f378 := rng_at k372 (by omega) f352
          have f379 := rng_at k372 (by omega) f353
          have f380 := rng_at k372 (by omega) f354
          refine aw_aload_n 3 dX7_rebuild_146 rfl rfl ?_
          refine aw_eW [] [] lX7_86 vX7_tellRow mX7_tellRow dX7_rebuild_147 (aX7_tellRow (S := S) (sz := sz1293) (b0 := st) (y0 := n) (tt := t0) (su := su1357) (po := po1295) (tg := tg1294) (lf := T.1) (be := T.2.1) (le := T.2.2.1) (re := T.2.2.2) (gg := gg1358) (bs := bs1359) (to := to) f362 f363 f364 f365 f366 f367 f368 f369 f370 f371 hsz9 hsz8) f362 rfl rfl rfl (Nat.le_of_ble_eq_true rfl) (by decide) (by decide) rfl (fun h384 q383 => ?_)
          obtain ⟨gg1381, to1382, f385, f386, f387, f388, f389, f390, f391, f392, f393, f394, k395, p396⟩ := q383
          have f397 := rng_at k395 (by omega) f376
          have f398 := rng_at k395 (by omega) f377
          have f399 := rng_at k395 (by omega) f378
          have f400 := rng_at k395 (by omega) f379
          have f401 := rng_at k395 (by omega) f380
          subst hQF
          exact aw_vret rfl dX7_rebuild_150 (by decide) (by decide) ⟨rfl, _, _, _, _, _, _, _, _, _, _, _, _, _, _, f385, f386, f387, f388, f389, f390, f391, f392, f393, f394, rng_tr (rng_tr (k355) (rng_w k372 (by omega) (by omega))) (rng_w k395 (by omega) (by omega)), p309, p332, p333, by rw [show n = i by omega]; exact hT, p373, p374, p375, p396⟩
        · have d54 := mt (nv_le (a := n) (b := i) (rfl) (rfl) (by omega) (by omega)).mpr c54
          refine aw_iload_n 2 dX7_rebuild_57 rfl rfl ?_
          refine aw_aload_n 1 dX7_rebuild_58 rfl rfl ?_
          refine aw_get fX7_67 dX7_rebuild_59 f350 rfl ?_
          refine aw_iload_n 0 dX7_rebuild_62 rfl rfl ?_
          refine aw_iald i (rfl) (by omega) (by decide) dX7_rebuild_63 f352 ?_
          refine aw_toe (nI (x i)) (rfl) ?_
          have b402 := bx i (by omega)
          refine aw_ishr dX7_rebuild_64 ?_
          refine aw_iconst (1) dX7_rebuild_65 (by decide) ?_
          refine aw_iand dX7_rebuild_66 ?_
          refine aw_toe (if st.testBit (x i) = true then 1 else 0) (nv_bit (rfl) (rfl) (by omega) (by omega)) ?_
          refine aw_if_eq 136 dX7_rebuild_67 (by decide) (fun c67 => ?_) (fun c67 => ?_)
          · have t67 := ite_0 c67
            refine aw_iinc (j := 0) (nI (i + 1)) [(3, .int (nI (i + 1))), (2, .ref (G.1 + 79)), (1, .int (nI st)), (0, .ref (G.1 + S))] dX7_rebuild_136 rfl (nv_inc (rfl)) (by decide) rfl ?_
            refine aw_goto 49 dX7_rebuild_139 (by decide) ?_
            refine aw_lv [(3, .int (nI (i + 1))), (2, .ref (G.1 + 79)), (1, .int (nI st)), (0, .ref (G.1 + S))] [0, 1, 2, 3] rfl ?_
            exact ih356 (i + 1) t0 T _ (by omega) (by omega) (by rw [twF_s, if_neg (fun q => t67 q.1)]; exact hT) f340 f341 f342 f343 f344 f345 f346 f347 f348 f349 f350 f351 f352 f353 f354 (k355)
          · have t67 := ite_1 c67
            refine aw_iload_n 2 dX7_rebuild_70 rfl rfl ?_
            refine aw_aload_n 1 dX7_rebuild_71 rfl rfl ?_
            refine aw_get fX7_70 dX7_rebuild_72 f350 rfl ?_
            refine aw_iload_n 0 dX7_rebuild_75 rfl rfl ?_
            refine aw_iald i (rfl) (by omega) (by decide) dX7_rebuild_76 f353 ?_
            refine aw_toe (nI (y i)) (rfl) ?_
            have b403 := by_ i (by omega)
            refine aw_ishr dX7_rebuild_77 ?_
            refine aw_iconst (1) dX7_rebuild_78 (by decide) ?_
            refine aw_iand dX7_rebuild_79 ?_
            refine aw_toe (if st.testBit (y i) = true then 1 else 0) (nv_bit (rfl) (rfl) (by omega) (by omega)) ?_
            refine aw_if_eq 136 dX7_rebuild_80 (by decide) (fun c80 => ?_) (fun c80 => ?_)
            · have t80 := ite_0 c80
              refine aw_iinc (j := 0) (nI (i + 1)) [(3, .int (nI (i + 1))), (2, .ref (G.1 + 79)), (1, .int (nI st)), (0, .ref (G.1 + S))] dX7_rebuild_136 rfl (nv_inc (rfl)) (by decide) rfl ?_
              refine aw_goto 49 dX7_rebuild_139 (by decide) ?_
              refine aw_lv [(3, .int (nI (i + 1))), (2, .ref (G.1 + 79)), (1, .int (nI st)), (0, .ref (G.1 + S))] [0, 1, 2, 3] rfl ?_
              exact ih356 (i + 1) t0 T _ (by omega) (by omega) (by rw [twF_s, if_neg (fun q => t80 q.2)]; exact hT) f340 f341 f342 f343 f344 f345 f346 f347 f348 f349 f350 f351 f352 f353 f354 (k355)
            · have t80 := ite_1 c80
              refine aw_aload_n 3 dX7_rebuild_83 rfl rfl ?_
              refine aw_dup dX7_rebuild_84 rfl ?_
              refine aw_get fX7_43 dX7_rebuild_85 f340 rfl ?_
              refine aw_aload_n 1 dX7_rebuild_88 rfl rfl ?_
              refine aw_get fX7_73 dX7_rebuild_89 f350 rfl ?_
              refine aw_iload_n 0 dX7_rebuild_92 rfl rfl ?_
              refine aw_iald i (rfl) (by omega) (by decide) dX7_rebuild_93 f354 ?_
              refine aw_toe (nI (tr i)) (rfl) ?_
              refine aw_iadd dX7_rebuild_94 ?_
              refine aw_putQ fX7_43 dX7_rebuild_95 (lSh G S (nI sz1293) (t0 + (nI (tr i))) su (nI st) (nI n)) f340 rfl rfl rfl (Nat.le_of_ble_eq_true rfl) rfl ?_
              refine aw_aload_n 3 dX7_rebuild_98 rfl rfl ?_
              refine aw_aload_n 1 dX7_rebuild_99 rfl rfl ?_
              refine aw_get fX7_76 dX7_rebuild_100 (gn (by omega) (f350)) rfl ?_
              refine aw_iload_n 0 dX7_rebuild_103 rfl rfl ?_
              refine aw_iald i (rfl) (by omega) (by decide) dX7_rebuild_104 (gn (by omega) (f351)) ?_
              refine aw_toe (nI (so i)) (rfl) ?_
              have b404 := bso i (by omega)
              refine aw_aload_n 3 dX7_rebuild_105 rfl rfl ?_
              refine aw_get fX7_15 dX7_rebuild_106 (gs f340) rfl ?_
              refine aw_aload_n 1 dX7_rebuild_109 rfl rfl ?_
              refine aw_get fX7_67 dX7_rebuild_110 (gn (by omega) (f350)) rfl ?_
              refine aw_iload_n 0 dX7_rebuild_113 rfl rfl ?_
              refine aw_iald i (rfl) (by omega) (by decide) dX7_rebuild_114 (gn (by omega) (f352)) ?_
              refine aw_toe (nI (x i)) (rfl) ?_
              have b405 := bx i (by omega)
              refine aw_iald (x i) (rfl) (by omega) (by decide) dX7_rebuild_115 (gn (by omega) (f342)) ?_
              refine aw_toe (nI (po1295 (x i))) (rfl) ?_
              refine aw_aload_n 3 dX7_rebuild_116 rfl rfl ?_
              refine aw_get fX7_15 dX7_rebuild_117 (gs f340) rfl ?_
              refine aw_aload_n 1 dX7_rebuild_120 rfl rfl ?_
              refine aw_get fX7_70 dX7_rebuild_121 (gn (by omega) (f350)) rfl ?_
              refine aw_iload_n 0 dX7_rebuild_124 rfl rfl ?_
              refine aw_iald i (rfl) (by omega) (by decide) dX7_rebuild_125 (gn (by omega) (f353)) ?_
              refine aw_toe (nI (y i)) (rfl) ?_
              have b406 := by_ i (by omega)
              refine aw_iald (y i) (rfl) (by omega) (by decide) dX7_rebuild_126 (gn (by omega) (f342)) ?_
              refine aw_toe (nI (po1295 (y i))) (rfl) ?_
              refine aw_aload_n 1 dX7_rebuild_127 rfl rfl ?_
              refine aw_get fX7_73 dX7_rebuild_128 (gn (by omega) (f350)) rfl ?_
              refine aw_iload_n 0 dX7_rebuild_131 rfl rfl ?_
              refine aw_iald i (rfl) (by omega) (by decide) dX7_rebuild_132 (gn (by omega) (f354)) ?_
              refine aw_toe (nI (tr i)) (rfl) ?_
              refine aw_eW [.int (nI (so i)), .int (nI (po1295 (x i))), .int (nI (po1295 (y i))), .int (nI (tr i))] [] lX7_79 vX7_addTrust mX7_addTrust dX7_rebuild_133 (aX7_addTrust (S := S) (sz := sz1293) (b0 := st) (y0 := n) (tt := t0 + (nI (tr i))) (su := su) (po := po1295) (tg := tg1294) (lf := T.1) (be := T.2.1) (le := T.2.2.1) (re := T.2.2.2) (gg := gg) (bs := bs) (to := to) (s := so i) (o := po1295 (x i)) (k := po1295 (y i)) (t := (nI (tr i))) (gs f340) (gn (by omega) (f341)) (gn (by omega) (f342)) (gn (by omega) (f343)) (gn (by omega) (f344)) (gn (by omega) (f345)) (gn (by omega) (f346)) (gn (by omega) (f347)) (gn (by omega) (f348)) (gn (by omega) (f349)) (by omega) (hpo1 _ (by omega)) (hpo1 _ (by omega))) (gs f340) rfl rfl rfl (Nat.le_of_ble_eq_true rfl) (by decide) (by decide) rfl (fun h408 q407 => ?_)
              obtain ⟨f409, f410, f411, f412, f413, f414, f415, f416, f417, f418, k419⟩ := q407
              have f420 := rng_at k419 (by omega) (gn (by omega) (f350))
              have f421 := rng_at k419 (by omega) (gn (by omega) (f351))
              have f422 := rng_at k419 (by omega) (gn (by omega) (f352))
              have f423 := rng_at k419 (by omega) (gn (by omega) (f353))
              have f424 := rng_at k419 (by omega) (gn (by omega) (f354))
              refine aw_iinc (j := 0) (nI (i + 1)) [(3, .int (nI (i + 1))), (2, .ref (G.1 + 79)), (1, .int (nI st)), (0, .ref (G.1 + S))] dX7_rebuild_136 rfl (nv_inc (rfl)) (by decide) rfl ?_
              refine aw_goto 49 dX7_rebuild_139 (by decide) ?_
              refine aw_lv [(3, .int (nI (i + 1))), (2, .ref (G.1 + 79)), (1, .int (nI st)), (0, .ref (G.1 + S))] [0, 1, 2, 3] rfl ?_
              exact ih356 (i + 1) (t0 + (nI (tr i))) (atF (so i) (po1295 (x i)) (po1295 (y i)) (nI (tr i)) T) _ (by omega) (by omega) (by rw [twF_s, if_pos ⟨t67, t80⟩, ← hT]) f409 f410 f411 f412 f413 f414 f415 f416 f417 f418 f420 f421 f422 f423 f424 (rng_tr (rng_set (k355) (by omega) (by omega)) (rng_w k419 (by omega) (by omega)))
    · have d16 := (nv_eq (a := n) (b := y0) (rfl) (rfl) (by omega) (by omega)).mp c16
      exact absurd ⟨by omega, by omega⟩ hb
