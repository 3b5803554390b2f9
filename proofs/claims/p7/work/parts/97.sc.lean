set_option maxHeartbeats 4000000 in
theorem bR_n {l : Launch} {G : xG} {h : List va_E} {jv : Value} {S : Nat} {so x y tr : Nat → Nat} {n st : Nat} (h0 : h[0]? = some (oB 8 (lX G (jv) (.null)))) (h79 : h[79]? = some (oB 6 (lS G (nI n)))) (h80 : h[80]? = some (aI 40 (nA so))) (h81 : h[81]? = some (aI 40 (nA x))) (h82 : h[82]? = some (aI 40 (nA y))) (h83 : h[83]? = some (aI 40 (nA tr))) (hl : h.length = S) (bst : st < 4096) (hst : st ≠ 0) (hS1 : 125 ≤ S) (hn : n ≤ 40) (bso : ∀ j, j < 40 → so j < 4) (bx : ∀ j, j < 40 → x j < 12) (by_ : ∀ j, j < 40 → y j < 12) : CE l G yX8_bestRow cX8_bestRow 2 (some (.object RX7)) 5 10 2242 [.ref (G.1 + 0), .int (nI st)] h (some (.ref (G.1 + S))) (fun h1 => ∃ sz1 : Nat, ∃ tt1 : Int32, ∃ su1 : Int32, ∃ po1 : Nat → Nat, ∃ tg1 : Nat → Int32, ∃ lf1 : Nat → Int32, ∃ be1 : Nat → Int32, ∃ le1 : Nat → Int32, ∃ re1 : Nat → Int32, ∃ gg1 : Nat → Int32, ∃ bs1 : Nat → Int32, ∃ to1 : Nat → Int32, h1[0]? = some (oB 8 (lX G (jv) (.ref (G.1 + S)))) ∧ h1[S]? = some (oB 7 (lSh G S (nI sz1) tt1 su1 (nI st) (nI n))) ∧ h1[S + 1]? = some (aI 8 tg1) ∧ h1[S + 2]? = some (aI 12 (nA po1)) ∧ h1[S + 3]? = some (aI 64 lf1) ∧ h1[S + 4]? = some (aI 64 be1) ∧ h1[S + 5]? = some (aI 8 le1) ∧ h1[S + 6]? = some (aI 8 re1) ∧ h1[S + 7]? = some (aI 8 gg1) ∧ h1[S + 8]? = some (aI 2048 bs1) ∧ h1[S + 9]? = some (aI 8 to1) ∧ grw 0 0 0 0 h h1 ∧ (∀ j, j < 12 → po1 j < 8) ∧ sz1 ≤ 8 ∧ SHok st so x y tr n sz1 tt1 su1 to1 ∧ h1.length = S + 10) := by
  refine cm_ofQ rfl (Nat.le_of_ble_eq_true rfl) [(0, .ref (G.1 + 0)), (1, .int (nI st))] rfl (fun QF hQF => ?_)
  refine aw_aload_n 0 dX8_bestRow_0 rfl rfl ?_
  refine aw_get fX8_13 dX8_bestRow_1 h0 rfl ?_
  refine aw_nonnullN dX8_bestRow_4 ?_
  refine aw_aload_n 0 dX8_bestRow_7 rfl rfl ?_
  refine aw_newQ S nX8_216 dX8_bestRow_8 [.null, .null, .null, .null, .null, .null, .null, .null, .null, .int 0, .int 0, .int 0, .int 0, .int 0] (by decide) (by decide) (by decide) (by simp [hl] <;> omega) ?_
  refine aw_dup dX8_bestRow_11 rfl ?_
  refine aw_eN [] [.ref (G.1 + S), .ref (G.1 + 0)] lX8_267 vX7_init mX7_init dX8_bestRow_12 (KX7_init (a := S) (by simp [hl]) (gp (by simp [hl] <;> omega))) rfl (Nat.le_of_ble_eq_true rfl) (by decide) (by decide) rfl (fun h5360 q5359 => ?_)
  obtain ⟨l5361, f5363, f5364, f5365, f5366, f5367, f5368, f5369, f5370, f5371, f5372, k5362⟩ := q5359
  have f5373 := lo_at k5362 (by omega) (ga (h0))
  have f5374 := lo_at k5362 (by omega) (ga (h79))
  have f5375 := lo_at k5362 (by omega) (ga (h80))
  have f5376 := lo_at k5362 (by omega) (ga (h81))
  have f5377 := lo_at k5362 (by omega) (ga (h82))
  have f5378 := lo_at k5362 (by omega) (ga (h83))
  refine aw_putQ fX8_13 dX8_bestRow_15 (lX G (jv) (.ref (G.1 + S))) f5373 rfl rfl rfl (Nat.le_of_ble_eq_true rfl) rfl ?_
  refine aw_aload_n 0 dX8_bestRow_18 rfl rfl ?_
  refine aw_get fX8_13 dX8_bestRow_19 (gs f5373) rfl ?_
  refine aw_iload_n 1 dX8_bestRow_22 rfl rfl ?_
  refine aw_aload_n 0 dX8_bestRow_23 rfl rfl ?_
  refine aw_get fX8_51 dX8_bestRow_24 (gs f5373) rfl ?_
  refine aw_eW [.int (nI st), .ref (G.1 + 79)] [] lX8_268 vX7_rebuild mX7_rebuild dX8_bestRow_27 (aX7_rebuild_m (S := S) (sz := 0) (b0 := 0) (y0 := 0) (tt := 0) (su := 0) (po := fun _ => 0) (tg := fun _ => 0) (lf := fun _ => 0) (be := fun _ => 0) (le := fun _ => 0) (re := fun _ => 0) (gg := fun _ => 0) (bs := fun _ => 0) (to := fun _ => 0) (so := so) (x := x) (y := y) (tr := tr) (n := n) (st := st) (gn (by omega) (f5363)) (gn (by omega) (f5364)) (gn (by omega) (f5365)) (gn (by omega) (f5366)) (gn (by omega) (f5367)) (gn (by omega) (f5368)) (gn (by omega) (f5369)) (gn (by omega) (f5370)) (gn (by omega) (f5371)) (gn (by omega) (f5372)) (gn (by decide) (f5374)) (gn (by decide) (f5375)) (gn (by decide) (f5376)) (gn (by decide) (f5377)) (gn (by decide) (f5378)) (by omega) (by omega) (fun _ _ => (by decide : 0 < 8)) (by decide) (by decide) (by omega) (by omega) bso bx by_ (fun q => hst q.1.symm)) (gn (by omega) (f5363)) rfl rfl rfl (Nat.le_of_ble_eq_true rfl) (by decide) (by decide) rfl (fun h5394 q5393 => ?_)
  obtain ⟨sz15379, tt15380, su15381, po15382, tg15383, lf05384, be05385, le05386, re05387, T15388, gg15389, gg25390, bs15391, to15392, f5395, f5396, f5397, f5398, f5399, f5400, f5401, f5402, f5403, f5404, k5405, p5406, p5407, p5408, p5409, p5410, p5411, p5412, p5413⟩ := q5393
  have f5414 := rng_at k5405 (by omega) (gs f5373)
  have f5415 := rng_at k5405 (by omega) (gn (by decide) (f5374))
  have f5416 := rng_at k5405 (by omega) (gn (by decide) (f5375))
  have f5417 := rng_at k5405 (by omega) (gn (by decide) (f5376))
  have f5418 := rng_at k5405 (by omega) (gn (by decide) (f5377))
  have f5419 := rng_at k5405 (by omega) (gn (by decide) (f5378))
  refine aw_aload_n 0 dX8_bestRow_30 rfl rfl ?_
  refine aw_get fX8_13 dX8_bestRow_31 f5414 rfl ?_
  subst hQF
  exact aw_aret rfl dX8_bestRow_34 (by decide) (by decide) ⟨rfl, _, _, _, _, _, _, _, _, _, _, _, _, f5414, f5395, f5396, f5397, f5398, f5399, f5400, f5401, f5402, f5403, f5404, grw_r2 (grw_set (grw_lo (grw_app (grw_rf 0 0 0 0 h)) k5362 (by omega) (by simp [hl, l5361])) (by omega)) k5405 (fun j q1 q2 => by omega), by have q := (rtF_ok (st := st) (tg := (fun _ => 0)) (po := (fun _ => 0)) (fun _ _ => (by decide : 0 < 8)) 12).2; rw [← p5406] at q; exact q, by have q := (rtF_ok (st := st) (tg := (fun _ => 0)) (po := (fun _ => 0)) (fun _ _ => (by decide : 0 < 8)) 12).1; rw [← p5406] at q; exact q, ⟨(fun _ => 0), (fun _ => 0), _, _, _, _, _, _, _, (fun _ => 0), (fun _ => 0), _, _, (fun _ => 0), (fun _ _ => (by decide : 0 < 8)), p5406, p5407, p5408, p5409, p5410, p5411, p5412, p5413⟩, by rw [k5405.1, List.length_set, l5361]⟩
