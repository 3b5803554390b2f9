set_option maxHeartbeats 4000000 in
theorem aX7_readThings {l : Launch} {G : xG} {h : List va_E} {S sz b0 y0 : Nat} {tt su : Int32} {po : Nat → Nat} {tg lf be le re gg bs to : Nat → Int32} {st : Nat} (hS : h[S]? = some (oB 7 (lSh G S (nI sz) tt su (nI b0) (nI y0)))) (hS_1 : h[S + 1]? = some (aI 8 tg)) (hS_2 : h[S + 2]? = some (aI 12 (nA po))) (hS_3 : h[S + 3]? = some (aI 64 lf)) (hS_4 : h[S + 4]? = some (aI 64 be)) (hS_5 : h[S + 5]? = some (aI 8 le)) (hS_6 : h[S + 6]? = some (aI 8 re)) (hS_7 : h[S + 7]? = some (aI 8 gg)) (hS_8 : h[S + 8]? = some (aI 2048 bs)) (hS_9 : h[S + 9]? = some (aI 8 to)) (hpo : ∀ j, j < 12 → po j < 8) (bst : st < 4096) : CE l G yX7_readThings cX7_readThings 3 none 0 0 0 [.ref (G.1 + S), .int (nI st)] h none (fun h1 => ∃ sz1 : Nat, ∃ tg1 : Nat → Int32, ∃ po1 : Nat → Nat, h1[S]? = some (oB 7 (lSh G S (nI sz1) tt su (nI b0) (nI y0))) ∧ h1[S + 1]? = some (aI 8 tg1) ∧ h1[S + 2]? = some (aI 12 (nA po1)) ∧ h1[S + 3]? = some (aI 64 lf) ∧ h1[S + 4]? = some (aI 64 be) ∧ h1[S + 5]? = some (aI 8 le) ∧ h1[S + 6]? = some (aI 8 re) ∧ h1[S + 7]? = some (aI 8 gg) ∧ h1[S + 8]? = some (aI 2048 bs) ∧ h1[S + 9]? = some (aI 8 to) ∧ rng S (S + 9) h h1 ∧ (sz1, tg1, po1) = rtF st tg po 12) := by
  refine cm_ofQ rfl (Nat.le_of_ble_eq_true rfl) [(0, .ref (G.1 + S)), (1, .int (nI st))] rfl (fun QF hQF => ?_)
  refine aw_aload_n 0 dX7_readThings_0 rfl rfl ?_
  refine aw_iconst (0) dX7_readThings_1 (by decide) ?_
  refine aw_putQ fX7_39 dX7_readThings_2 (lSh G S 0 tt su (nI b0) (nI y0)) hS rfl rfl rfl (Nat.le_of_ble_eq_true rfl) rfl ?_
  refine aw_iconst (0) dX7_readThings_5 (by decide) ?_
  refine aw_istore_n [(2, .int 0), (0, .ref (G.1 + S)), (1, .int (nI st))] dX7_readThings_6 rfl (by decide) rfl ?_
  refine aw_lv [(2, .int 0), (1, .int (nI st)), (0, .ref (G.1 + S))] [0, 2, 1] rfl ?_
  suffices L24 : ∀ (mm : Nat) (i : Nat) (z1 : Nat) (t1 : Nat → Int32) (p1 : Nat → Nat) (h12 : List va_E), 12 - i < mm → (i ≤ 12) → ((z1, t1, p1) = rtF st tg po i) → h12[S]? = some (oB 7 (lSh G S (nI z1) tt su (nI b0) (nI y0))) → h12[S + 1]? = some (aI 8 t1) → h12[S + 2]? = some (aI 12 (nA p1)) → h12[S + 3]? = some (aI 64 lf) → h12[S + 4]? = some (aI 64 be) → h12[S + 5]? = some (aI 8 le) → h12[S + 6]? = some (aI 8 re) → h12[S + 7]? = some (aI 8 gg) → h12[S + 8]? = some (aI 2048 bs) → h12[S + 9]? = some (aI 8 to) → rng S (S + 9) h h12 → AW l G yX7_readThings cX7_readThings 3 none (xR 0 0 0) (fun _ _ => True) QF 0 0 7 [(2, .int (nI i)), (1, .int (nI st)), (0, .ref (G.1 + S))] [] h12 from L24 (12 - 0 + 1) 0 0 tg po _ (Nat.lt_succ_self _) (Nat.zero_le _) (rfl) (gs hS) (gn (by omega) (hS_1)) (gn (by omega) (hS_2)) (gn (by omega) (hS_3)) (gn (by omega) (hS_4)) (gn (by omega) (hS_5)) (gn (by omega) (hS_6)) (gn (by omega) (hS_7)) (gn (by omega) (hS_8)) (gn (by omega) (hS_9)) (rng_set (rng_rf S (S + 9) h) (by omega) (by omega))
  intro mm
  induction mm with
  | zero =>
    intro i z1 t1 p1 h12 hmm hi hq f13 f14 f15 f16 f17 f18 f19 f20 f21 f22 k23
    exact absurd hmm (Nat.not_lt_zero _)
  | succ mm ih24 =>
    intro i z1 t1 p1 h12 hmm hi hq f13 f14 f15 f16 f17 f18 f19 f20 f21 f22 k23
    have b9 := (rtF_ok (st := st) (tg := tg) hpo i).1
    rw [← hq] at b9
    dsimp only at b9
    refine aw_iload_n 0 dX7_readThings_7 rfl rfl ?_
    refine aw_bipush (12) dX7_readThings_8 (by decide) ?_
    refine aw_icmp_ge 66 dX7_readThings_10 (by decide) (fun c10 => ?_) (fun c10 => ?_)
    · have d10 := (nv_le (a := 12) (b := i) (rfl) (rfl) (by omega) (by omega)).mp c10
      subst hQF
      have e12 : i = 12 := by omega
      subst e12
      exact aw_vret rfl dX7_readThings_66 (by decide) (by decide) ⟨rfl, _, _, _, f13, f14, f15, f16, f17, f18, f19, f20, f21, f22, k23, hq⟩
    · have d10 := mt (nv_le (a := 12) (b := i) (rfl) (rfl) (by omega) (by omega)).mpr c10
      refine aw_iload_n 1 dX7_readThings_13 rfl rfl ?_
      refine aw_iload_n 0 dX7_readThings_14 rfl rfl ?_
      refine aw_ishr dX7_readThings_15 ?_
      refine aw_iconst (1) dX7_readThings_16 (by decide) ?_
      refine aw_iand dX7_readThings_17 ?_
      refine aw_toe (if st.testBit i = true then 1 else 0) (nv_bit (rfl) (rfl) (by omega) (by omega)) ?_
      refine aw_if_eq 60 dX7_readThings_18 (by decide) (fun c18 => ?_) (fun c18 => ?_)
      · have t18 := ite_0 c18
        refine aw_iinc (j := 0) (nI (i + 1)) [(2, .int (nI (i + 1))), (1, .int (nI st)), (0, .ref (G.1 + S))] dX7_readThings_60 rfl (nv_inc (rfl)) (by decide) rfl ?_
        refine aw_goto 7 dX7_readThings_63 (by decide) ?_
        refine aw_lv [(2, .int (nI (i + 1))), (1, .int (nI st)), (0, .ref (G.1 + S))] [0, 1, 2] rfl ?_
        exact ih24 (i + 1) z1 t1 p1 _ (by omega) (by omega) (by rw [rtF_s, if_neg (fun q => t18 q.1)]; exact hq) f13 f14 f15 f16 f17 f18 f19 f20 f21 f22 (k23)
      · have t18 := ite_1 c18
        refine aw_aload_n 2 dX7_readThings_21 rfl rfl ?_
        refine aw_get fX7_39 dX7_readThings_22 f13 rfl ?_
        refine aw_bipush (8) dX7_readThings_25 (by decide) ?_
        refine aw_icmp_ge 60 dX7_readThings_27 (by decide) (fun c27 => ?_) (fun c27 => ?_)
        · have d27 := (nv_le (a := 8) (b := z1) (rfl) (rfl) (by omega) (by omega)).mp c27
          refine aw_iinc (j := 0) (nI (i + 1)) [(2, .int (nI (i + 1))), (1, .int (nI st)), (0, .ref (G.1 + S))] dX7_readThings_60 rfl (nv_inc (rfl)) (by decide) rfl ?_
          refine aw_goto 7 dX7_readThings_63 (by decide) ?_
          refine aw_lv [(2, .int (nI (i + 1))), (1, .int (nI st)), (0, .ref (G.1 + S))] [0, 1, 2] rfl ?_
          exact ih24 (i + 1) z1 t1 p1 _ (by omega) (by omega) (by rw [rtF_s, ← hq]; rw [if_neg (fun q => by have := q.2; dsimp only at this; omega)]) f13 f14 f15 f16 f17 f18 f19 f20 f21 f22 (k23)
        · have d27 := mt (nv_le (a := 8) (b := z1) (rfl) (rfl) (by omega) (by omega)).mpr c27
          refine aw_aload_n 2 dX7_readThings_30 rfl rfl ?_
          refine aw_get fX7_9 dX7_readThings_31 f13 rfl ?_
          refine aw_aload_n 2 dX7_readThings_34 rfl rfl ?_
          refine aw_get fX7_39 dX7_readThings_35 f13 rfl ?_
          refine aw_iload_n 0 dX7_readThings_38 rfl rfl ?_
          refine aw_iast z1 (rfl) (by omega) (by decide) dX7_readThings_39 f14 ?_
          refine aw_aload_n 2 dX7_readThings_40 rfl rfl ?_
          refine aw_get fX7_15 dX7_readThings_41 (gn (by omega) (f13)) rfl ?_
          refine aw_iload_n 0 dX7_readThings_44 rfl rfl ?_
          refine aw_aload_n 2 dX7_readThings_45 rfl rfl ?_
          refine aw_get fX7_39 dX7_readThings_46 (gn (by omega) (f13)) rfl ?_
          refine aw_iast i (rfl) (by omega) (by decide) dX7_readThings_49 (gn (by omega) (f15)) ?_
          rw [nA_u (f := p1) (i := i) (x := (nI z1)) (v := z1) (rfl)]
          refine aw_aload_n 2 dX7_readThings_50 rfl rfl ?_
          refine aw_dup dX7_readThings_51 rfl ?_
          refine aw_get fX7_39 dX7_readThings_52 (gn (by omega) (gn (by omega) (f13))) rfl ?_
          refine aw_iconst (1) dX7_readThings_55 (by decide) ?_
          refine aw_iadd dX7_readThings_56 ?_
          refine aw_toe (nI (z1 + 1)) (nv_add (rfl) (rfl)) ?_
          refine aw_putQ fX7_39 dX7_readThings_57 (lSh G S (nI (z1 + 1)) tt su (nI b0) (nI y0)) (gn (by omega) (gn (by omega) (f13))) rfl rfl rfl (Nat.le_of_ble_eq_true rfl) rfl ?_
          refine aw_iinc (j := 0) (nI (i + 1)) [(2, .int (nI (i + 1))), (1, .int (nI st)), (0, .ref (G.1 + S))] dX7_readThings_60 rfl (nv_inc (rfl)) (by decide) rfl ?_
          refine aw_goto 7 dX7_readThings_63 (by decide) ?_
          refine aw_lv [(2, .int (nI (i + 1))), (1, .int (nI st)), (0, .ref (G.1 + S))] [0, 1, 2] rfl ?_
          exact ih24 (i + 1) (z1 + 1) (upd t1 z1 (nI i)) (un p1 i z1) _ (by omega) (by omega) (by rw [rtF_s, ← hq]; rw [if_pos ⟨t18, by dsimp only; omega⟩]) (gs (gn (by omega) (gn (by omega) (f13)))) (gn (by omega) (gn (by omega) (gs f14))) (gn (by omega) (gs (gn (by omega) (f15)))) (gn (by omega) (gn (by omega) (gn (by omega) (f16)))) (gn (by omega) (gn (by omega) (gn (by omega) (f17)))) (gn (by omega) (gn (by omega) (gn (by omega) (f18)))) (gn (by omega) (gn (by omega) (gn (by omega) (f19)))) (gn (by omega) (gn (by omega) (gn (by omega) (f20)))) (gn (by omega) (gn (by omega) (gn (by omega) (f21)))) (gn (by omega) (gn (by omega) (gn (by omega) (f22)))) (rng_set (rng_set (rng_set (k23) (by omega) (by omega)) (by omega) (by omega)) (by omega) (by omega))
set_option maxHeartbeats 4000000 in
theorem aX7_clearTrust {l : Launch} {G : xG} {h : List va_E} {S sz b0 y0 : Nat} {tt su : Int32} {po : Nat → Nat} {tg lf be le re gg bs to : Nat → Int32} (hS : h[S]? = some (oB 7 (lSh G S (nI sz) tt su (nI b0) (nI y0)))) (hS_1 : h[S + 1]? = some (aI 8 tg)) (hS_2 : h[S + 2]? = some (aI 12 (nA po))) (hS_3 : h[S + 3]? = some (aI 64 lf)) (hS_4 : h[S + 4]? = some (aI 64 be)) (hS_5 : h[S + 5]? = some (aI 8 le)) (hS_6 : h[S + 6]? = some (aI 8 re)) (hS_7 : h[S + 7]? = some (aI 8 gg)) (hS_8 : h[S + 8]? = some (aI 2048 bs)) (hS_9 : h[S + 9]? = some (aI 8 to))  : CE l G yX7_clearTrust cX7_clearTrust 2 none 0 0 0 [.ref (G.1 + S)] h none (fun h1 => ∃ lf1 : Nat → Int32, ∃ be1 : Nat → Int32, ∃ le1 : Nat → Int32, ∃ re1 : Nat → Int32, h1[S]? = some (oB 7 (lSh G S (nI sz) tt su (nI b0) (nI y0))) ∧ h1[S + 1]? = some (aI 8 tg) ∧ h1[S + 2]? = some (aI 12 (nA po)) ∧ h1[S + 3]? = some (aI 64 lf1) ∧ h1[S + 4]? = some (aI 64 be1) ∧ h1[S + 5]? = some (aI 8 le1) ∧ h1[S + 6]? = some (aI 8 re1) ∧ h1[S + 7]? = some (aI 8 gg) ∧ h1[S + 8]? = some (aI 2048 bs) ∧ h1[S + 9]? = some (aI 8 to) ∧ rng S (S + 9) h h1 ∧ (∀ j, j < 64 → lf1 j = 0 ∧ be1 j = 0) ∧ (∀ j, j < 8 → le1 j = 0 ∧ re1 j = 0)) := by
  refine cm_ofQ rfl (Nat.le_of_ble_eq_true rfl) [(0, .ref (G.1 + S))] rfl (fun QF hQF => ?_)
  refine aw_iconst (0) dX7_clearTrust_0 (by decide) ?_
  refine aw_istore_n [(1, .int 0), (0, .ref (G.1 + S))] dX7_clearTrust_1 rfl (by decide) rfl ?_
  refine aw_lv [(1, .int 0), (0, .ref (G.1 + S))] [0, 1] rfl ?_
  suffices L37 : ∀ (mm : Nat) (i : Nat) (l1 : Nat → Int32) (b1 : Nat → Int32) (h25 : List va_E), 64 - i < mm → (i ≤ 64) → (∀ j, j < i → l1 j = 0) → (∀ j, j < i → b1 j = 0) → h25[S]? = some (oB 7 (lSh G S (nI sz) tt su (nI b0) (nI y0))) → h25[S + 1]? = some (aI 8 tg) → h25[S + 2]? = some (aI 12 (nA po)) → h25[S + 3]? = some (aI 64 l1) → h25[S + 4]? = some (aI 64 b1) → h25[S + 5]? = some (aI 8 le) → h25[S + 6]? = some (aI 8 re) → h25[S + 7]? = some (aI 8 gg) → h25[S + 8]? = some (aI 2048 bs) → h25[S + 9]? = some (aI 8 to) → rng S (S + 9) h h25 → AW l G yX7_clearTrust cX7_clearTrust 2 none (xR 0 0 0) (fun _ _ => True) QF 0 0 2 [(1, .int (nI i)), (0, .ref (G.1 + S))] [] h25 from L37 (64 - 0 + 1) 0 lf be _ (Nat.lt_succ_self _) (Nat.zero_le _) (fun j hj => absurd hj (by omega)) (fun j hj => absurd hj (by omega)) hS hS_1 hS_2 hS_3 hS_4 hS_5 hS_6 hS_7 hS_8 hS_9 (rng_rf S (S + 9) h)
  intro mm
  induction mm with
  | zero =>
    intro i l1 b1 h25 hmm hi h1 h2 f26 f27 f28 f29 f30 f31 f32 f33 f34 f35 k36
    exact absurd hmm (Nat.not_lt_zero _)
  | succ mm ih37 =>
    intro i l1 b1 h25 hmm hi h1 h2 f26 f27 f28 f29 f30 f31 f32 f33 f34 f35 k36
    refine aw_iload_n 0 dX7_clearTrust_2 rfl rfl ?_
    refine aw_aload_n 1 dX7_clearTrust_3 rfl rfl ?_
    refine aw_get fX7_18 dX7_clearTrust_4 f26 rfl ?_
    refine aw_alen (64) dX7_clearTrust_7 f29 rfl rfl ?_
    refine aw_icmp_ge 31 dX7_clearTrust_8 (by decide) (fun c8 => ?_) (fun c8 => ?_)
    · have d8 := (nv_le (a := 64) (b := i) (rfl) (rfl) (by omega) (by omega)).mp c8
      refine aw_iconst (0) dX7_clearTrust_31 (by decide) ?_
      refine aw_istore_n [(1, .int 0), (0, .ref (G.1 + S))] dX7_clearTrust_32 rfl (by decide) rfl ?_
      have e64 : i = 64 := by omega
      subst e64
      refine aw_lv [(1, .int 0), (0, .ref (G.1 + S))] [0, 1] rfl ?_
      suffices L50 : ∀ (mm : Nat) (k : Nat) (e1 : Nat → Int32) (r1 : Nat → Int32) (h38 : List va_E), 8 - k < mm → (k ≤ 8) → (∀ j, j < k → e1 j = 0) → (∀ j, j < k → r1 j = 0) → h38[S]? = some (oB 7 (lSh G S (nI sz) tt su (nI b0) (nI y0))) → h38[S + 1]? = some (aI 8 tg) → h38[S + 2]? = some (aI 12 (nA po)) → h38[S + 3]? = some (aI 64 l1) → h38[S + 4]? = some (aI 64 b1) → h38[S + 5]? = some (aI 8 e1) → h38[S + 6]? = some (aI 8 r1) → h38[S + 7]? = some (aI 8 gg) → h38[S + 8]? = some (aI 2048 bs) → h38[S + 9]? = some (aI 8 to) → rng S (S + 9) h h38 → AW l G yX7_clearTrust cX7_clearTrust 2 none (xR 0 0 0) (fun _ _ => True) QF 0 0 33 [(1, .int (nI k)), (0, .ref (G.1 + S))] [] h38 from L50 (8 - 0 + 1) 0 le re _ (Nat.lt_succ_self _) (Nat.zero_le _) (fun j hj => absurd hj (by omega)) (fun j hj => absurd hj (by omega)) f26 f27 f28 f29 f30 f31 f32 f33 f34 f35 (k36)
      intro mm
      induction mm with
      | zero =>
        intro k e1 r1 h38 hmm hk h3 h4 f39 f40 f41 f42 f43 f44 f45 f46 f47 f48 k49
        exact absurd hmm (Nat.not_lt_zero _)
      | succ mm ih50 =>
        intro k e1 r1 h38 hmm hk h3 h4 f39 f40 f41 f42 f43 f44 f45 f46 f47 f48 k49
        refine aw_iload_n 0 dX7_clearTrust_33 rfl rfl ?_
        refine aw_bipush (8) dX7_clearTrust_34 (by decide) ?_
        refine aw_icmp_ge 59 dX7_clearTrust_36 (by decide) (fun c36 => ?_) (fun c36 => ?_)
        · have d36 := (nv_le (a := 8) (b := k) (rfl) (rfl) (by omega) (by omega)).mp c36
          subst hQF
          exact aw_vret rfl dX7_clearTrust_59 (by decide) (by decide) ⟨rfl, _, _, _, _, f39, f40, f41, f42, f43, f44, f45, f46, f47, f48, k49, fun j hj => ⟨h1 j hj, h2 j hj⟩, fun j hj => ⟨h3 j (by omega), h4 j (by omega)⟩⟩
        · have d36 := mt (nv_le (a := 8) (b := k) (rfl) (rfl) (by omega) (by omega)).mpr c36
          refine aw_aload_n 1 dX7_clearTrust_39 rfl rfl ?_
          refine aw_get fX7_24 dX7_clearTrust_40 f39 rfl ?_
          refine aw_iload_n 0 dX7_clearTrust_43 rfl rfl ?_
          refine aw_iconst (0) dX7_clearTrust_44 (by decide) ?_
          refine aw_iast k (rfl) (by omega) (by decide) dX7_clearTrust_45 f44 ?_
          refine aw_aload_n 1 dX7_clearTrust_46 rfl rfl ?_
          refine aw_get fX7_27 dX7_clearTrust_47 (gn (by omega) (f39)) rfl ?_
          refine aw_iload_n 0 dX7_clearTrust_50 rfl rfl ?_
          refine aw_iconst (0) dX7_clearTrust_51 (by decide) ?_
          refine aw_iast k (rfl) (by omega) (by decide) dX7_clearTrust_52 (gn (by omega) (f45)) ?_
          refine aw_iinc (j := 0) (nI (k + 1)) [(1, .int (nI (k + 1))), (0, .ref (G.1 + S))] dX7_clearTrust_53 rfl (nv_inc (rfl)) (by decide) rfl ?_
          refine aw_goto 33 dX7_clearTrust_56 (by decide) ?_
          refine aw_lv [(1, .int (nI (k + 1))), (0, .ref (G.1 + S))] [0, 1] rfl ?_
          exact ih50 (k + 1) (upd e1 k 0) (upd r1 k 0) _ (by omega) (by omega) (up_all h3) (up_all h4) (gn (by omega) (gn (by omega) (f39))) (gn (by omega) (gn (by omega) (f40))) (gn (by omega) (gn (by omega) (f41))) (gn (by omega) (gn (by omega) (f42))) (gn (by omega) (gn (by omega) (f43))) (gn (by omega) (gs f44)) (gs (gn (by omega) (f45))) (gn (by omega) (gn (by omega) (f46))) (gn (by omega) (gn (by omega) (f47))) (gn (by omega) (gn (by omega) (f48))) (rng_set (rng_set (k49) (by omega) (by omega)) (by omega) (by omega))
    · have d8 := mt (nv_le (a := 64) (b := i) (rfl) (rfl) (by omega) (by omega)).mpr c8
      refine aw_aload_n 1 dX7_clearTrust_11 rfl rfl ?_
      refine aw_get fX7_18 dX7_clearTrust_12 f26 rfl ?_
      refine aw_iload_n 0 dX7_clearTrust_15 rfl rfl ?_
      refine aw_iconst (0) dX7_clearTrust_16 (by decide) ?_
      refine aw_iast i (rfl) (by omega) (by decide) dX7_clearTrust_17 f29 ?_
      refine aw_aload_n 1 dX7_clearTrust_18 rfl rfl ?_
      refine aw_get fX7_21 dX7_clearTrust_19 (gn (by omega) (f26)) rfl ?_
      refine aw_iload_n 0 dX7_clearTrust_22 rfl rfl ?_
      refine aw_iconst (0) dX7_clearTrust_23 (by decide) ?_
      refine aw_iast i (rfl) (by omega) (by decide) dX7_clearTrust_24 (gn (by omega) (f30)) ?_
      refine aw_iinc (j := 0) (nI (i + 1)) [(1, .int (nI (i + 1))), (0, .ref (G.1 + S))] dX7_clearTrust_25 rfl (nv_inc (rfl)) (by decide) rfl ?_
      refine aw_goto 2 dX7_clearTrust_28 (by decide) ?_
      refine aw_lv [(1, .int (nI (i + 1))), (0, .ref (G.1 + S))] [0, 1] rfl ?_
      exact ih37 (i + 1) (upd l1 i 0) (upd b1 i 0) _ (by omega) (by omega) (up_all h1) (up_all h2) (gn (by omega) (gn (by omega) (f26))) (gn (by omega) (gn (by omega) (f27))) (gn (by omega) (gn (by omega) (f28))) (gn (by omega) (gs f29)) (gs (gn (by omega) (f30))) (gn (by omega) (gn (by omega) (f31))) (gn (by omega) (gn (by omega) (f32))) (gn (by omega) (gn (by omega) (f33))) (gn (by omega) (gn (by omega) (f34))) (gn (by omega) (gn (by omega) (f35))) (rng_set (rng_set (k36) (by omega) (by omega)) (by omega) (by omega))
set_option maxHeartbeats 4000000 in
theorem aX7_addTrust {l : Launch} {G : xG} {h : List va_E} {S sz b0 y0 : Nat} {tt su : Int32} {po : Nat → Nat} {tg lf be le re gg bs to : Nat → Int32} {s o k : Nat} {t : Int32} (hS : h[S]? = some (oB 7 (lSh G S (nI sz) tt su (nI b0) (nI y0)))) (hS_1 : h[S + 1]? = some (aI 8 tg)) (hS_2 : h[S + 2]? = some (aI 12 (nA po))) (hS_3 : h[S + 3]? = some (aI 64 lf)) (hS_4 : h[S + 4]? = some (aI 64 be)) (hS_5 : h[S + 5]? = some (aI 8 le)) (hS_6 : h[S + 6]? = some (aI 8 re)) (hS_7 : h[S + 7]? = some (aI 8 gg)) (hS_8 : h[S + 8]? = some (aI 2048 bs)) (hS_9 : h[S + 9]? = some (aI 8 to)) (bs_ : s < 4) (bo : o < 8) (bk : k < 8) : CE l G yX7_addTrust cX7_addTrust 5 none 0 0 0 [.ref (G.1 + S), .int (nI s), .int (nI o), .int (nI k), .int t] h none (fun h1 => h1[S]? = some (oB 7 (lSh G S (nI sz) tt su (nI b0) (nI y0))) ∧ h1[S + 1]? = some (aI 8 tg) ∧ h1[S + 2]? = some (aI 12 (nA po)) ∧ h1[S + 3]? = some (aI 64 ((atF s o k t (lf, be, le, re)).1)) ∧ h1[S + 4]? = some (aI 64 ((atF s o k t (lf, be, le, re)).2.1)) ∧ h1[S + 5]? = some (aI 8 ((atF s o k t (lf, be, le, re)).2.2.1)) ∧ h1[S + 6]? = some (aI 8 ((atF s o k t (lf, be, le, re)).2.2.2)) ∧ h1[S + 7]? = some (aI 8 gg) ∧ h1[S + 8]? = some (aI 2048 bs) ∧ h1[S + 9]? = some (aI 8 to) ∧ rng S (S + 9) h h1) := by
  refine cm_ofQ rfl (Nat.le_of_ble_eq_true rfl) [(0, .ref (G.1 + S)), (1, .int (nI s)), (2, .int (nI o)), (3, .int (nI k)), (4, .int t)] rfl (fun QF hQF => ?_)
  refine aw_iload_n 1 dX7_addTrust_0 rfl rfl ?_
  refine aw_if_ne 23 dX7_addTrust_1 (by decide) (fun c1 => ?_) (fun c1 => ?_)
  · have d1 := mt (nv_eq (a := s) (b := 0) (rfl) (rfl) (by omega) (by omega)).mpr c1
    refine aw_iload_n 1 dX7_addTrust_23 rfl rfl ?_
    refine aw_iconst (1) dX7_addTrust_24 (by decide) ?_
    refine aw_icmp_ne 63 dX7_addTrust_25 (by decide) (fun c25 => ?_) (fun c25 => ?_)
    · have d25 := mt (nv_eq (a := s) (b := 1) (rfl) (rfl) (by omega) (by omega)).mpr c25
      refine aw_iload_n 1 dX7_addTrust_63 rfl rfl ?_
      refine aw_iconst (2) dX7_addTrust_64 (by decide) ?_
      refine aw_icmp_ne 82 dX7_addTrust_65 (by decide) (fun c65 => ?_) (fun c65 => ?_)
      · have d65 := mt (nv_eq (a := s) (b := 2) (rfl) (rfl) (by omega) (by omega)).mpr c65
        refine aw_aload_n 0 dX7_addTrust_82 rfl rfl ?_
        refine aw_get fX7_27 dX7_addTrust_83 hS rfl ?_
        refine aw_iload_n 2 dX7_addTrust_86 rfl rfl ?_
        refine aw_dup2 dX7_addTrust_87 rfl rfl ?_
        refine aw_iald o (rfl) (by omega) (by decide) dX7_addTrust_88 hS_6 ?_
        refine aw_iload 4 dX7_addTrust_89 rfl ?_
        refine aw_iadd dX7_addTrust_91 ?_
        refine aw_iast o (rfl) (by omega) (by decide) dX7_addTrust_92 hS_6 ?_
        subst hQF
        have eF : atF s o k t (lf, be, le, re) = (lf, be, le, upd re o ((re o) + t)) := by unfold atF; rw [if_neg (by omega), if_neg (by omega), if_neg (by omega)]
        exact aw_vret rfl dX7_addTrust_93 (by decide) (by decide) ⟨rfl, (gn (by omega) (hS)), (gn (by omega) (hS_1)), (gn (by omega) (hS_2)), by rw [eF]; exact (gn (by omega) (hS_3)), by rw [eF]; exact (gn (by omega) (hS_4)), by rw [eF]; exact (gn (by omega) (hS_5)), by rw [eF]; exact (gs hS_6), (gn (by omega) (hS_7)), (gn (by omega) (hS_8)), (gn (by omega) (hS_9)), rng_set (rng_rf S (S + 9) h) (by omega) (by omega)⟩
      · have d65 := (nv_eq (a := s) (b := 2) (rfl) (rfl) (by omega) (by omega)).mp c65
        refine aw_aload_n 0 dX7_addTrust_68 rfl rfl ?_
        refine aw_get fX7_24 dX7_addTrust_69 hS rfl ?_
        refine aw_iload_n 2 dX7_addTrust_72 rfl rfl ?_
        refine aw_dup2 dX7_addTrust_73 rfl rfl ?_
        refine aw_iald o (rfl) (by omega) (by decide) dX7_addTrust_74 hS_5 ?_
        refine aw_iload 4 dX7_addTrust_75 rfl ?_
        refine aw_iadd dX7_addTrust_77 ?_
        refine aw_iast o (rfl) (by omega) (by decide) dX7_addTrust_78 hS_5 ?_
        refine aw_goto 93 dX7_addTrust_79 (by decide) ?_
        subst hQF
        have eF : atF s o k t (lf, be, le, re) = (lf, be, upd le o ((le o) + t), re) := by unfold atF; rw [if_neg (by omega), if_neg (by omega), if_pos (by omega)]
        exact aw_vret rfl dX7_addTrust_93 (by decide) (by decide) ⟨rfl, (gn (by omega) (hS)), (gn (by omega) (hS_1)), (gn (by omega) (hS_2)), by rw [eF]; exact (gn (by omega) (hS_3)), by rw [eF]; exact (gn (by omega) (hS_4)), by rw [eF]; exact (gs hS_5), by rw [eF]; exact (gn (by omega) (hS_6)), (gn (by omega) (hS_7)), (gn (by omega) (hS_8)), (gn (by omega) (hS_9)), rng_set (rng_rf S (S + 9) h) (by omega) (by omega)⟩
    · have d25 := (nv_eq (a := s) (b := 1) (rfl) (rfl) (by omega) (by omega)).mp c25
      refine aw_aload_n 0 dX7_addTrust_28 rfl rfl ?_
      refine aw_get fX7_21 dX7_addTrust_29 hS rfl ?_
      refine aw_iload_n 2 dX7_addTrust_32 rfl rfl ?_
      refine aw_bipush (8) dX7_addTrust_33 (by decide) ?_
      refine aw_imul dX7_addTrust_35 ?_
      refine aw_iload_n 3 dX7_addTrust_36 rfl rfl ?_
      refine aw_iadd dX7_addTrust_37 ?_
      refine aw_dup2 dX7_addTrust_38 rfl rfl ?_
      refine aw_iald ((o * 8) + k) (nv_add (nv_mul (rfl) (rfl)) (rfl)) (by omega) (by decide) dX7_addTrust_39 hS_4 ?_
      refine aw_iload 4 dX7_addTrust_40 rfl ?_
      refine aw_iadd dX7_addTrust_42 ?_
      refine aw_iast ((o * 8) + k) (nv_add (nv_mul (rfl) (rfl)) (rfl)) (by omega) (by decide) dX7_addTrust_43 hS_4 ?_
      refine aw_aload_n 0 dX7_addTrust_44 rfl rfl ?_
      refine aw_get fX7_21 dX7_addTrust_45 (gn (by omega) (hS)) rfl ?_
      refine aw_iload_n 3 dX7_addTrust_48 rfl rfl ?_
      refine aw_bipush (8) dX7_addTrust_49 (by decide) ?_
      refine aw_imul dX7_addTrust_51 ?_
      refine aw_iload_n 2 dX7_addTrust_52 rfl rfl ?_
      refine aw_iadd dX7_addTrust_53 ?_
      refine aw_dup2 dX7_addTrust_54 rfl rfl ?_
      refine aw_iald ((k * 8) + o) (nv_add (nv_mul (rfl) (rfl)) (rfl)) (by omega) (by decide) dX7_addTrust_55 (gs hS_4) ?_
      refine aw_iload 4 dX7_addTrust_56 rfl ?_
      refine aw_iadd dX7_addTrust_58 ?_
      refine aw_iast ((k * 8) + o) (nv_add (nv_mul (rfl) (rfl)) (rfl)) (by omega) (by decide) dX7_addTrust_59 (gs hS_4) ?_
      refine aw_goto 93 dX7_addTrust_60 (by decide) ?_
      subst hQF
      have eF : atF s o k t (lf, be, le, re) = (lf, upd (upd be ((o * 8) + k) ((be ((o * 8) + k)) + t)) ((k * 8) + o) (((upd be ((o * 8) + k) ((be ((o * 8) + k)) + t)) ((k * 8) + o)) + t), le, re) := by unfold atF; rw [if_neg (by omega), if_pos (by omega)]
      exact aw_vret rfl dX7_addTrust_93 (by decide) (by decide) ⟨rfl, (gn (by omega) (gn (by omega) (hS))), (gn (by omega) (gn (by omega) (hS_1))), (gn (by omega) (gn (by omega) (hS_2))), by rw [eF]; exact (gn (by omega) (gn (by omega) (hS_3))), by rw [eF]; exact (gs (gs hS_4)), by rw [eF]; exact (gn (by omega) (gn (by omega) (hS_5))), by rw [eF]; exact (gn (by omega) (gn (by omega) (hS_6))), (gn (by omega) (gn (by omega) (hS_7))), (gn (by omega) (gn (by omega) (hS_8))), (gn (by omega) (gn (by omega) (hS_9))), rng_set (rng_set (rng_rf S (S + 9) h) (by omega) (by omega)) (by omega) (by omega)⟩
  · have d1 := (nv_eq (a := s) (b := 0) (rfl) (rfl) (by omega) (by omega)).mp c1
    refine aw_aload_n 0 dX7_addTrust_4 rfl rfl ?_
    refine aw_get fX7_18 dX7_addTrust_5 hS rfl ?_
    refine aw_iload_n 2 dX7_addTrust_8 rfl rfl ?_
    refine aw_bipush (8) dX7_addTrust_9 (by decide) ?_
    refine aw_imul dX7_addTrust_11 ?_
    refine aw_iload_n 3 dX7_addTrust_12 rfl rfl ?_
    refine aw_iadd dX7_addTrust_13 ?_
    refine aw_dup2 dX7_addTrust_14 rfl rfl ?_
    refine aw_iald ((o * 8) + k) (nv_add (nv_mul (rfl) (rfl)) (rfl)) (by omega) (by decide) dX7_addTrust_15 hS_3 ?_
    refine aw_iload 4 dX7_addTrust_16 rfl ?_
    refine aw_iadd dX7_addTrust_18 ?_
    refine aw_iast ((o * 8) + k) (nv_add (nv_mul (rfl) (rfl)) (rfl)) (by omega) (by decide) dX7_addTrust_19 hS_3 ?_
    refine aw_goto 93 dX7_addTrust_20 (by decide) ?_
    subst hQF
    have eF : atF s o k t (lf, be, le, re) = (upd lf ((o * 8) + k) ((lf ((o * 8) + k)) + t), be, le, re) := by unfold atF; rw [if_pos (by omega)]
    exact aw_vret rfl dX7_addTrust_93 (by decide) (by decide) ⟨rfl, (gn (by omega) (hS)), (gn (by omega) (hS_1)), (gn (by omega) (hS_2)), by rw [eF]; exact (gs hS_3), by rw [eF]; exact (gn (by omega) (hS_4)), by rw [eF]; exact (gn (by omega) (hS_5)), by rw [eF]; exact (gn (by omega) (hS_6)), (gn (by omega) (hS_7)), (gn (by omega) (hS_8)), (gn (by omega) (hS_9)), rng_set (rng_rf S (S + 9) h) (by omega) (by omega)⟩
set_option maxHeartbeats 4000000 in
theorem aX7_readGains {l : Launch} {G : xG} {h : List va_E} {S sz b0 y0 : Nat} {tt su : Int32} {po : Nat → Nat} {tg lf be le re gg bs to : Nat → Int32} {st : Nat} (hS : h[S]? = some (oB 7 (lSh G S (nI sz) tt su (nI b0) (nI y0)))) (hS_1 : h[S + 1]? = some (aI 8 tg)) (hS_2 : h[S + 2]? = some (aI 12 (nA po))) (hS_3 : h[S + 3]? = some (aI 64 lf)) (hS_4 : h[S + 4]? = some (aI 64 be)) (hS_5 : h[S + 5]? = some (aI 8 le)) (hS_6 : h[S + 6]? = some (aI 8 re)) (hS_7 : h[S + 7]? = some (aI 8 gg)) (hS_8 : h[S + 8]? = some (aI 2048 bs)) (hS_9 : h[S + 9]? = some (aI 8 to)) (hsz : sz ≤ 8) (bst : st < 256) : CE l G yX7_readGains cX7_readGains 6 none 0 0 0 [.ref (G.1 + S), .int (nI st)] h none (fun h1 => h1[S]? = some (oB 7 (lSh G S (nI sz) tt su (nI b0) (nI y0))) ∧ h1[S + 1]? = some (aI 8 tg) ∧ h1[S + 2]? = some (aI 12 (nA po)) ∧ h1[S + 3]? = some (aI 64 lf) ∧ h1[S + 4]? = some (aI 64 be) ∧ h1[S + 5]? = some (aI 8 le) ∧ h1[S + 6]? = some (aI 8 re) ∧ h1[S + 7]? = some (aI 8 (gaF le re lf sz st gg sz)) ∧ h1[S + 8]? = some (aI 2048 bs) ∧ h1[S + 9]? = some (aI 8 to) ∧ rng S (S + 9) h h1) := by
  refine cm_ofQ rfl (Nat.le_of_ble_eq_true rfl) [(0, .ref (G.1 + S)), (1, .int (nI st))] rfl (fun QF hQF => ?_)
  have bw := pw8 sz hsz
  refine aw_iconst (1) dX7_readGains_0 (by decide) ?_
  refine aw_aload_n 0 dX7_readGains_1 rfl rfl ?_
  refine aw_get fX7_39 dX7_readGains_2 hS rfl ?_
  refine aw_ishl dX7_readGains_5 ?_
  refine aw_toe (nI (2 ^ sz)) (nv_shl1 (rfl) (by omega)) ?_
  refine aw_iconst (1) dX7_readGains_6 (by decide) ?_
  refine aw_isub dX7_readGains_7 ?_
  refine aw_toe (nI ((2 ^ sz) - 1)) (nv_sub (rfl) (rfl) (by omega)) ?_
  refine aw_istore_n [(2, .int (nI ((2 ^ sz) - 1))), (0, .ref (G.1 + S)), (1, .int (nI st))] dX7_readGains_8 rfl (by decide) rfl ?_
  refine aw_iconst (0) dX7_readGains_9 (by decide) ?_
  refine aw_istore_n [(3, .int 0), (2, .int (nI ((2 ^ sz) - 1))), (0, .ref (G.1 + S)), (1, .int (nI st))] dX7_readGains_10 rfl (by decide) rfl ?_
  refine aw_lv [(3, .int 0), (2, .int (nI ((2 ^ sz) - 1))), (1, .int (nI st)), (0, .ref (G.1 + S))] [0, 1, 3, 2] rfl ?_
  suffices L63 : ∀ (mm : Nat) (nx : Nat) (g1 : Nat → Int32) (h51 : List va_E), sz - nx < mm → (nx ≤ sz) → (g1 = (gaF le re lf sz st gg nx)) → h51[S]? = some (oB 7 (lSh G S (nI sz) tt su (nI b0) (nI y0))) → h51[S + 1]? = some (aI 8 tg) → h51[S + 2]? = some (aI 12 (nA po)) → h51[S + 3]? = some (aI 64 lf) → h51[S + 4]? = some (aI 64 be) → h51[S + 5]? = some (aI 8 le) → h51[S + 6]? = some (aI 8 re) → h51[S + 7]? = some (aI 8 g1) → h51[S + 8]? = some (aI 2048 bs) → h51[S + 9]? = some (aI 8 to) → rng S (S + 9) h h51 → AW l G yX7_readGains cX7_readGains 6 none (xR 0 0 0) (fun _ _ => True) QF 0 0 11 [(3, .int (nI nx)), (2, .int (nI (2 ^ sz - 1))), (1, .int (nI st)), (0, .ref (G.1 + S))] [] h51 from L63 (sz - 0 + 1) 0 gg _ (Nat.lt_succ_self _) (Nat.zero_le _) (rfl) hS hS_1 hS_2 hS_3 hS_4 hS_5 hS_6 hS_7 hS_8 hS_9 (rng_rf S (S + 9) h)
  intro mm
  induction mm with
  | zero =>
    intro nx g1 h51 hmm hnx hgn f52 f53 f54 f55 f56 f57 f58 f59 f60 f61 k62
    exact absurd hmm (Nat.not_lt_zero _)
  | succ mm ih63 =>
    intro nx g1 h51 hmm hnx hgn f52 f53 f54 f55 f56 f57 f58 f59 f60 f61 k62
    refine aw_iload_n 0 dX7_readGains_11 rfl rfl ?_
    refine aw_aload_n 3 dX7_readGains_12 rfl rfl ?_
    refine aw_get fX7_39 dX7_readGains_13 f52 rfl ?_
    refine aw_icmp_ge 113 dX7_readGains_16 (by decide) (fun c16 => ?_) (fun c16 => ?_)
    · have d16 := (nv_le (a := sz) (b := nx) (rfl) (rfl) (by omega) (by omega)).mp c16
      subst hQF
      have ez : nx = sz := by omega
      subst ez
      exact aw_vret rfl dX7_readGains_113 (by decide) (by decide) ⟨rfl, f52, f53, f54, f55, f56, f57, f58, by rw [← hgn]; exact f59, f60, f61, k62⟩
    · have d16 := mt (nv_le (a := sz) (b := nx) (rfl) (rfl) (by omega) (by omega)).mpr c16
      refine aw_iload_n 2 dX7_readGains_19 rfl rfl ?_
      refine aw_if_ne 32 dX7_readGains_20 (by decide) (fun c20 => ?_) (fun c20 => ?_)
      · have d20 := mt (nv_eq (a := st) (b := 0) (rfl) (rfl) (by omega) (by omega)).mpr c20
        refine aw_iconst (0) dX7_readGains_32 (by decide) ?_
        refine aw_istore [(4, .int 0), (3, .int (nI nx)), (2, .int (nI (2 ^ sz - 1))), (1, .int (nI st)), (0, .ref (G.1 + S))] dX7_readGains_33 (by decide) rfl ?_
        refine aw_iload_n 3 dX7_readGains_35 rfl rfl ?_
        refine aw_iconst (1) dX7_readGains_36 (by decide) ?_
        refine aw_iload_n 1 dX7_readGains_37 rfl rfl ?_
        refine aw_ishl dX7_readGains_38 ?_
        refine aw_toe (nI (2 ^ nx)) (nv_shl1 (rfl) (by omega)) ?_
        refine aw_ior dX7_readGains_39 ?_
        refine aw_toe (nI (st ||| (2 ^ nx))) (nv_or (rfl) (rfl)) ?_
        refine aw_iload_n 2 dX7_readGains_40 rfl rfl ?_
        have b41 := or_lt8 (a := st) (b := nx) bst (by omega)
        refine aw_icmp_ne 55 dX7_readGains_41 (by decide) (fun c41 => ?_) (fun c41 => ?_)
        · have d41 := mt (nv_eq (a := st ||| (2 ^ nx)) (b := 2 ^ sz - 1) (rfl) (rfl) (by omega) (by omega)).mpr c41
          refine aw_iconst (0) dX7_readGains_55 (by decide) ?_
          refine aw_istore [(5, .int 0), (4, .int 0), (3, .int (nI nx)), (2, .int (nI (2 ^ sz - 1))), (1, .int (nI st)), (0, .ref (G.1 + S))] dX7_readGains_56 (by decide) rfl ?_
          refine aw_lv [(5, .int 0), (4, .int 0), (3, .int (nI nx)), (2, .int (nI (2 ^ sz - 1))), (1, .int (nI st)), (0, .ref (G.1 + S))] [0, 1, 2, 3, 4, 5] rfl ?_
          suffices L64 : ∀ (mm : Nat) (i : Nat) (g : Int32), sz - i < mm → (i ≤ sz) → (g = glF le re lf sz st nx i) → AW l G yX7_readGains cX7_readGains 6 none (xR 0 0 0) (fun _ _ => True) QF 0 0 58 [(5, .int (nI i)), (4, .int g), (3, .int (nI nx)), (2, .int (nI (2 ^ sz - 1))), (1, .int (nI st)), (0, .ref (G.1 + S))] [] h51 from L64 (sz - 0 + 1) 0 0 (Nat.lt_succ_self _) (Nat.zero_le _) (by show _ = gbF le re sz st nx; unfold gbF; rw [if_neg d41, if_neg d20])
          intro mm
          induction mm with
          | zero =>
            intro i g hmm hi hg
            exact absurd hmm (Nat.not_lt_zero _)
          | succ mm ih64 =>
            intro i g hmm hi hg
            refine aw_iload 0 dX7_readGains_58 rfl ?_
            refine aw_aload_n 5 dX7_readGains_60 rfl rfl ?_
            refine aw_get fX7_39 dX7_readGains_61 f52 rfl ?_
            refine aw_icmp_ge 99 dX7_readGains_64 (by decide) (fun c64 => ?_) (fun c64 => ?_)
            · have d64 := (nv_le (a := sz) (b := i) (rfl) (rfl) (by omega) (by omega)).mp c64
              refine aw_aload_n 5 dX7_readGains_99 rfl rfl ?_
              refine aw_get fX7_30 dX7_readGains_100 f52 rfl ?_
              refine aw_iload_n 2 dX7_readGains_103 rfl rfl ?_
              refine aw_iload 1 dX7_readGains_104 rfl ?_
              refine aw_iast nx (rfl) (by omega) (by decide) dX7_readGains_106 f59 ?_
              refine aw_iinc (j := 2) (nI (nx + 1)) [(3, .int (nI (nx + 1))), (5, .int (nI i)), (4, .int g), (2, .int (nI (2 ^ sz - 1))), (1, .int (nI st)), (0, .ref (G.1 + S))] dX7_readGains_107 rfl (nv_inc (rfl)) (by decide) rfl ?_
              refine aw_goto 11 dX7_readGains_110 (by decide) ?_
              refine aw_lv [(3, .int (nI (nx + 1))), (2, .int (nI (2 ^ sz - 1))), (1, .int (nI st)), (0, .ref (G.1 + S))] [0, 3, 4, 5] rfl ?_
              exact ih63 (nx + 1) (upd g1 nx g) _ (by omega) (by omega) (by simp only [gaF]; rw [← hgn, hg, show i = sz by omega]) (gn (by omega) (f52)) (gn (by omega) (f53)) (gn (by omega) (f54)) (gn (by omega) (f55)) (gn (by omega) (f56)) (gn (by omega) (f57)) (gn (by omega) (f58)) (gs f59) (gn (by omega) (f60)) (gn (by omega) (f61)) (rng_set (k62) (by omega) (by omega))
            · have d64 := mt (nv_le (a := sz) (b := i) (rfl) (rfl) (by omega) (by omega)).mpr c64
              refine aw_iload_n 4 dX7_readGains_67 rfl rfl ?_
              refine aw_iload 0 dX7_readGains_68 rfl ?_
              refine aw_ishr dX7_readGains_70 ?_
              refine aw_iconst (1) dX7_readGains_71 (by decide) ?_
              refine aw_iand dX7_readGains_72 ?_
              refine aw_toe (if st.testBit i = true then 1 else 0) (nv_bit (rfl) (rfl) (by omega) (by omega)) ?_
              refine aw_if_eq 93 dX7_readGains_73 (by decide) (fun c73 => ?_) (fun c73 => ?_)
              · have t73 := ite_0 c73
                refine aw_iinc (j := 0) (nI (i + 1)) [(5, .int (nI (i + 1))), (4, .int g), (3, .int (nI nx)), (2, .int (nI (2 ^ sz - 1))), (1, .int (nI st)), (0, .ref (G.1 + S))] dX7_readGains_93 rfl (nv_inc (rfl)) (by decide) rfl ?_
                refine aw_goto 58 dX7_readGains_96 (by decide) ?_
                refine aw_lv [(5, .int (nI (i + 1))), (4, .int g), (3, .int (nI nx)), (2, .int (nI (2 ^ sz - 1))), (1, .int (nI st)), (0, .ref (G.1 + S))] [0, 1, 2, 3, 4, 5] rfl ?_
                exact ih64 (i + 1) g (by omega) (by omega) (by simp only [glF]; rw [if_neg t73]; exact hg)
              · have t73 := ite_1 c73
                refine aw_iload 1 dX7_readGains_76 rfl ?_
                refine aw_aload_n 5 dX7_readGains_78 rfl rfl ?_
                refine aw_get fX7_18 dX7_readGains_79 f52 rfl ?_
                refine aw_iload 0 dX7_readGains_82 rfl ?_
                refine aw_bipush (8) dX7_readGains_84 (by decide) ?_
                refine aw_imul dX7_readGains_86 ?_
                refine aw_iload_n 2 dX7_readGains_87 rfl rfl ?_
                refine aw_iadd dX7_readGains_88 ?_
                refine aw_iald ((i * 8) + nx) (nv_add (nv_mul (rfl) (rfl)) (rfl)) (by omega) (by decide) dX7_readGains_89 f55 ?_
                refine aw_iadd dX7_readGains_90 ?_
                refine aw_istore [(4, .int (g + (lf ((i * 8) + nx)))), (5, .int (nI i)), (3, .int (nI nx)), (2, .int (nI (2 ^ sz - 1))), (1, .int (nI st)), (0, .ref (G.1 + S))] dX7_readGains_91 (by decide) rfl ?_
                refine aw_iinc (j := 1) (nI (i + 1)) [(5, .int (nI (i + 1))), (4, .int (g + (lf ((i * 8) + nx)))), (3, .int (nI nx)), (2, .int (nI (2 ^ sz - 1))), (1, .int (nI st)), (0, .ref (G.1 + S))] dX7_readGains_93 rfl (nv_inc (rfl)) (by decide) rfl ?_
                refine aw_goto 58 dX7_readGains_96 (by decide) ?_
                refine aw_lv [(5, .int (nI (i + 1))), (4, .int (g + (lf ((i * 8) + nx)))), (3, .int (nI nx)), (2, .int (nI (2 ^ sz - 1))), (1, .int (nI st)), (0, .ref (G.1 + S))] [0, 1, 2, 3, 4, 5] rfl ?_
                exact ih64 (i + 1) (g + lf (i * 8 + nx)) (by omega) (by omega) (by simp only [glF]; rw [if_pos t73, ← hg])
        · have d41 := (nv_eq (a := st ||| (2 ^ nx)) (b := 2 ^ sz - 1) (rfl) (rfl) (by omega) (by omega)).mp c41
          refine aw_iload 0 dX7_readGains_44 rfl ?_
          refine aw_aload_n 4 dX7_readGains_46 rfl rfl ?_
          refine aw_get fX7_27 dX7_readGains_47 f52 rfl ?_
          refine aw_iload_n 1 dX7_readGains_50 rfl rfl ?_
          refine aw_iald nx (rfl) (by omega) (by decide) dX7_readGains_51 f58 ?_
          refine aw_iadd dX7_readGains_52 ?_
          refine aw_istore [(4, .int (0 + (re nx))), (3, .int (nI nx)), (2, .int (nI (2 ^ sz - 1))), (1, .int (nI st)), (0, .ref (G.1 + S))] dX7_readGains_53 (by decide) rfl ?_
          refine aw_iconst (0) dX7_readGains_55 (by decide) ?_
          refine aw_istore [(5, .int 0), (4, .int (0 + (re nx))), (3, .int (nI nx)), (2, .int (nI (2 ^ sz - 1))), (1, .int (nI st)), (0, .ref (G.1 + S))] dX7_readGains_56 (by decide) rfl ?_
          refine aw_lv [(5, .int 0), (4, .int (0 + (re nx))), (3, .int (nI nx)), (2, .int (nI (2 ^ sz - 1))), (1, .int (nI st)), (0, .ref (G.1 + S))] [0, 1, 2, 3, 4, 5] rfl ?_
          suffices L65 : ∀ (mm : Nat) (i : Nat) (g : Int32), sz - i < mm → (i ≤ sz) → (g = glF le re lf sz st nx i) → AW l G yX7_readGains cX7_readGains 6 none (xR 0 0 0) (fun _ _ => True) QF 0 0 58 [(5, .int (nI i)), (4, .int g), (3, .int (nI nx)), (2, .int (nI (2 ^ sz - 1))), (1, .int (nI st)), (0, .ref (G.1 + S))] [] h51 from L65 (sz - 0 + 1) 0 (0 + (re nx)) (Nat.lt_succ_self _) (Nat.zero_le _) (by show _ = gbF le re sz st nx; unfold gbF; rw [if_pos d41, if_neg d20])
          intro mm
          induction mm with
          | zero =>
            intro i g hmm hi hg
            exact absurd hmm (Nat.not_lt_zero _)
          | succ mm ih65 =>
            intro i g hmm hi hg
            refine aw_iload 0 dX7_readGains_58 rfl ?_
            refine aw_aload_n 5 dX7_readGains_60 rfl rfl ?_
            refine aw_get fX7_39 dX7_readGains_61 f52 rfl ?_
            refine aw_icmp_ge 99 dX7_readGains_64 (by decide) (fun c64 => ?_) (fun c64 => ?_)
            · have d64 := (nv_le (a := sz) (b := i) (rfl) (rfl) (by omega) (by omega)).mp c64
              refine aw_aload_n 5 dX7_readGains_99 rfl rfl ?_
              refine aw_get fX7_30 dX7_readGains_100 f52 rfl ?_
              refine aw_iload_n 2 dX7_readGains_103 rfl rfl ?_
              refine aw_iload 1 dX7_readGains_104 rfl ?_
              refine aw_iast nx (rfl) (by omega) (by decide) dX7_readGains_106 f59 ?_
              refine aw_iinc (j := 2) (nI (nx + 1)) [(3, .int (nI (nx + 1))), (5, .int (nI i)), (4, .int g), (2, .int (nI (2 ^ sz - 1))), (1, .int (nI st)), (0, .ref (G.1 + S))] dX7_readGains_107 rfl (nv_inc (rfl)) (by decide) rfl ?_
              refine aw_goto 11 dX7_readGains_110 (by decide) ?_
              refine aw_lv [(3, .int (nI (nx + 1))), (2, .int (nI (2 ^ sz - 1))), (1, .int (nI st)), (0, .ref (G.1 + S))] [0, 3, 4, 5] rfl ?_
              exact ih63 (nx + 1) (upd g1 nx g) _ (by omega) (by omega) (by simp only [gaF]; rw [← hgn, hg, show i = sz by omega]) (gn (by omega) (f52)) (gn (by omega) (f53)) (gn (by omega) (f54)) (gn (by omega) (f55)) (gn (by omega) (f56)) (gn (by omega) (f57)) (gn (by omega) (f58)) (gs f59) (gn (by omega) (f60)) (gn (by omega) (f61)) (rng_set (k62) (by omega) (by omega))
            · have d64 := mt (nv_le (a := sz) (b := i) (rfl) (rfl) (by omega) (by omega)).mpr c64
              refine aw_iload_n 4 dX7_readGains_67 rfl rfl ?_
              refine aw_iload 0 dX7_readGains_68 rfl ?_
              refine aw_ishr dX7_readGains_70 ?_
              refine aw_iconst (1) dX7_readGains_71 (by decide) ?_
              refine aw_iand dX7_readGains_72 ?_
              refine aw_toe (if st.testBit i = true then 1 else 0) (nv_bit (rfl) (rfl) (by omega) (by omega)) ?_
              refine aw_if_eq 93 dX7_readGains_73 (by decide) (fun c73 => ?_) (fun c73 => ?_)
              · have t73 := ite_0 c73
                refine aw_iinc (j := 0) (nI (i + 1)) [(5, .int (nI (i + 1))), (4, .int g), (3, .int (nI nx)), (2, .int (nI (2 ^ sz - 1))), (1, .int (nI st)), (0, .ref (G.1 + S))] dX7_readGains_93 rfl (nv_inc (rfl)) (by decide) rfl ?_
                refine aw_goto 58 dX7_readGains_96 (by decide) ?_
                refine aw_lv [(5, .int (nI (i + 1))), (4, .int g), (3, .int (nI nx)), (2, .int (nI (2 ^ sz - 1))), (1, .int (nI st)), (0, .ref (G.1 + S))] [0, 1, 2, 3, 4, 5] rfl ?_
                exact ih65 (i + 1) g (by omega) (by omega) (by simp only [glF]; rw [if_neg t73]; exact hg)
              · have t73 := ite_1 c73
                refine aw_iload 1 dX7_readGains_76 rfl ?_
                refine aw_aload_n 5 dX7_readGains_78 rfl rfl ?_
                refine aw_get fX7_18 dX7_readGains_79 f52 rfl ?_
                refine aw_iload 0 dX7_readGains_82 rfl ?_
                refine aw_bipush (8) dX7_readGains_84 (by decide) ?_
                refine aw_imul dX7_readGains_86 ?_
                refine aw_iload_n 2 dX7_readGains_87 rfl rfl ?_
                refine aw_iadd dX7_readGains_88 ?_
                refine aw_iald ((i * 8) + nx) (nv_add (nv_mul (rfl) (rfl)) (rfl)) (by omega) (by decide) dX7_readGains_89 f55 ?_
                refine aw_iadd dX7_readGains_90 ?_
                refine aw_istore [(4, .int (g + (lf ((i * 8) + nx)))), (5, .int (nI i)), (3, .int (nI nx)), (2, .int (nI (2 ^ sz - 1))), (1, .int (nI st)), (0, .ref (G.1 + S))] dX7_readGains_91 (by decide) rfl ?_
                refine aw_iinc (j := 1) (nI (i + 1)) [(5, .int (nI (i + 1))), (4, .int (g + (lf ((i * 8) + nx)))), (3, .int (nI nx)), (2, .int (nI (2 ^ sz - 1))), (1, .int (nI st)), (0, .ref (G.1 + S))] dX7_readGains_93 rfl (nv_inc (rfl)) (by decide) rfl ?_
                refine aw_goto 58 dX7_readGains_96 (by decide) ?_
                refine aw_lv [(5, .int (nI (i + 1))), (4, .int (g + (lf ((i * 8) + nx)))), (3, .int (nI nx)), (2, .int (nI (2 ^ sz - 1))), (1, .int (nI st)), (0, .ref (G.1 + S))] [0, 1, 2, 3, 4, 5] rfl ?_
                exact ih65 (i + 1) (g + lf (i * 8 + nx)) (by omega) (by omega) (by simp only [glF]; rw [if_pos t73, ← hg])
      · have d20 := (nv_eq (a := st) (b := 0) (rfl) (rfl) (by omega) (by omega)).mp c20
        refine aw_aload_n 3 dX7_readGains_23 rfl rfl ?_
        refine aw_get fX7_24 dX7_readGains_24 f52 rfl ?_
        refine aw_iload_n 0 dX7_readGains_27 rfl rfl ?_
        refine aw_iald nx (rfl) (by omega) (by decide) dX7_readGains_28 f57 ?_
        refine aw_goto 33 dX7_readGains_29 (by decide) ?_
        refine aw_istore [(4, .int (le nx)), (3, .int (nI nx)), (2, .int (nI (2 ^ sz - 1))), (1, .int (nI st)), (0, .ref (G.1 + S))] dX7_readGains_33 (by decide) rfl ?_
        refine aw_iload_n 3 dX7_readGains_35 rfl rfl ?_
        refine aw_iconst (1) dX7_readGains_36 (by decide) ?_
        refine aw_iload_n 1 dX7_readGains_37 rfl rfl ?_
        refine aw_ishl dX7_readGains_38 ?_
        refine aw_toe (nI (2 ^ nx)) (nv_shl1 (rfl) (by omega)) ?_
        refine aw_ior dX7_readGains_39 ?_
        refine aw_toe (nI (st ||| (2 ^ nx))) (nv_or (rfl) (rfl)) ?_
        refine aw_iload_n 2 dX7_readGains_40 rfl rfl ?_
        have b41 := or_lt8 (a := st) (b := nx) bst (by omega)
        refine aw_icmp_ne 55 dX7_readGains_41 (by decide) (fun c41 => ?_) (fun c41 => ?_)
        · have d41 := mt (nv_eq (a := st ||| (2 ^ nx)) (b := 2 ^ sz - 1) (rfl) (rfl) (by omega) (by omega)).mpr c41
          refine aw_iconst (0) dX7_readGains_55 (by decide) ?_
          refine aw_istore [(5, .int 0), (4, .int (le nx)), (3, .int (nI nx)), (2, .int (nI (2 ^ sz - 1))), (1, .int (nI st)), (0, .ref (G.1 + S))] dX7_readGains_56 (by decide) rfl ?_
          refine aw_lv [(5, .int 0), (4, .int (le nx)), (3, .int (nI nx)), (2, .int (nI (2 ^ sz - 1))), (1, .int (nI st)), (0, .ref (G.1 + S))] [0, 1, 2, 3, 4, 5] rfl ?_
          suffices L66 : ∀ (mm : Nat) (i : Nat) (g : Int32), sz - i < mm → (i ≤ sz) → (g = glF le re lf sz st nx i) → AW l G yX7_readGains cX7_readGains 6 none (xR 0 0 0) (fun _ _ => True) QF 0 0 58 [(5, .int (nI i)), (4, .int g), (3, .int (nI nx)), (2, .int (nI (2 ^ sz - 1))), (1, .int (nI st)), (0, .ref (G.1 + S))] [] h51 from L66 (sz - 0 + 1) 0 (le nx) (Nat.lt_succ_self _) (Nat.zero_le _) (by show _ = gbF le re sz st nx; unfold gbF; rw [if_neg d41, if_pos d20])
          intro mm
          induction mm with
          | zero =>
            intro i g hmm hi hg
            exact absurd hmm (Nat.not_lt_zero _)
          | succ mm ih66 =>
            intro i g hmm hi hg
            refine aw_iload 0 dX7_readGains_58 rfl ?_
            refine aw_aload_n 5 dX7_readGains_60 rfl rfl ?_
            refine aw_get fX7_39 dX7_readGains_61 f52 rfl ?_
            refine aw_icmp_ge 99 dX7_readGains_64 (by decide) (fun c64 => ?_) (fun c64 => ?_)
            · have d64 := (nv_le (a := sz) (b := i) (rfl) (rfl) (by omega) (by omega)).mp c64
              refine aw_aload_n 5 dX7_readGains_99 rfl rfl ?_
              refine aw_get fX7_30 dX7_readGains_100 f52 rfl ?_
              refine aw_iload_n 2 dX7_readGains_103 rfl rfl ?_
              refine aw_iload 1 dX7_readGains_104 rfl ?_
              refine aw_iast nx (rfl) (by omega) (by decide) dX7_readGains_106 f59 ?_
              refine aw_iinc (j := 2) (nI (nx + 1)) [(3, .int (nI (nx + 1))), (5, .int (nI i)), (4, .int g), (2, .int (nI (2 ^ sz - 1))), (1, .int (nI st)), (0, .ref (G.1 + S))] dX7_readGains_107 rfl (nv_inc (rfl)) (by decide) rfl ?_
              refine aw_goto 11 dX7_readGains_110 (by decide) ?_
              refine aw_lv [(3, .int (nI (nx + 1))), (2, .int (nI (2 ^ sz - 1))), (1, .int (nI st)), (0, .ref (G.1 + S))] [0, 3, 4, 5] rfl ?_
              exact ih63 (nx + 1) (upd g1 nx g) _ (by omega) (by omega) (by simp only [gaF]; rw [← hgn, hg, show i = sz by omega]) (gn (by omega) (f52)) (gn (by omega) (f53)) (gn (by omega) (f54)) (gn (by omega) (f55)) (gn (by omega) (f56)) (gn (by omega) (f57)) (gn (by omega) (f58)) (gs f59) (gn (by omega) (f60)) (gn (by omega) (f61)) (rng_set (k62) (by omega) (by omega))
            · have d64 := mt (nv_le (a := sz) (b := i) (rfl) (rfl) (by omega) (by omega)).mpr c64
              refine aw_iload_n 4 dX7_readGains_67 rfl rfl ?_
              refine aw_iload 0 dX7_readGains_68 rfl ?_
              refine aw_ishr dX7_readGains_70 ?_
              refine aw_iconst (1) dX7_readGains_71 (by decide) ?_
              refine aw_iand dX7_readGains_72 ?_
              refine aw_toe (if st.testBit i = true then 1 else 0) (nv_bit (rfl) (rfl) (by omega) (by omega)) ?_
              refine aw_if_eq 93 dX7_readGains_73 (by decide) (fun c73 => ?_) (fun c73 => ?_)
              · have t73 := ite_0 c73
                refine aw_iinc (j := 0) (nI (i + 1)) [(5, .int (nI (i + 1))), (4, .int g), (3, .int (nI nx)), (2, .int (nI (2 ^ sz - 1))), (1, .int (nI st)), (0, .ref (G.1 + S))] dX7_readGains_93 rfl (nv_inc (rfl)) (by decide) rfl ?_
                refine aw_goto 58 dX7_readGains_96 (by decide) ?_
                refine aw_lv [(5, .int (nI (i + 1))), (4, .int g), (3, .int (nI nx)), (2, .int (nI (2 ^ sz - 1))), (1, .int (nI st)), (0, .ref (G.1 + S))] [0, 1, 2, 3, 4, 5] rfl ?_
                exact ih66 (i + 1) g (by omega) (by omega) (by simp only [glF]; rw [if_neg t73]; exact hg)
              · have t73 := ite_1 c73
                refine aw_iload 1 dX7_readGains_76 rfl ?_
                refine aw_aload_n 5 dX7_readGains_78 rfl rfl ?_
                refine aw_get fX7_18 dX7_readGains_79 f52 rfl ?_
                refine aw_iload 0 dX7_readGains_82 rfl ?_
                refine aw_bipush (8) dX7_readGains_84 (by decide) ?_
                refine aw_imul dX7_readGains_86 ?_
                refine aw_iload_n 2 dX7_readGains_87 rfl rfl ?_
                refine aw_iadd dX7_readGains_88 ?_
                refine aw_iald ((i * 8) + nx) (nv_add (nv_mul (rfl) (rfl)) (rfl)) (by omega) (by decide) dX7_readGains_89 f55 ?_
                refine aw_iadd dX7_readGains_90 ?_
                refine aw_istore [(4, .int (g + (lf ((i * 8) + nx)))), (5, .int (nI i)), (3, .int (nI nx)), (2, .int (nI (2 ^ sz - 1))), (1, .int (nI st)), (0, .ref (G.1 + S))] dX7_readGains_91 (by decide) rfl ?_
                refine aw_iinc (j := 1) (nI (i + 1)) [(5, .int (nI (i + 1))), (4, .int (g + (lf ((i * 8) + nx)))), (3, .int (nI nx)), (2, .int (nI (2 ^ sz - 1))), (1, .int (nI st)), (0, .ref (G.1 + S))] dX7_readGains_93 rfl (nv_inc (rfl)) (by decide) rfl ?_
                refine aw_goto 58 dX7_readGains_96 (by decide) ?_
                refine aw_lv [(5, .int (nI (i + 1))), (4, .int (g + (lf ((i * 8) + nx)))), (3, .int (nI nx)), (2, .int (nI (2 ^ sz - 1))), (1, .int (nI st)), (0, .ref (G.1 + S))] [0, 1, 2, 3, 4, 5] rfl ?_
                exact ih66 (i + 1) (g + lf (i * 8 + nx)) (by omega) (by omega) (by simp only [glF]; rw [if_pos t73, ← hg])
        · have d41 := (nv_eq (a := st ||| (2 ^ nx)) (b := 2 ^ sz - 1) (rfl) (rfl) (by omega) (by omega)).mp c41
          refine aw_iload 0 dX7_readGains_44 rfl ?_
          refine aw_aload_n 4 dX7_readGains_46 rfl rfl ?_
          refine aw_get fX7_27 dX7_readGains_47 f52 rfl ?_
          refine aw_iload_n 1 dX7_readGains_50 rfl rfl ?_
          refine aw_iald nx (rfl) (by omega) (by decide) dX7_readGains_51 f58 ?_
          refine aw_iadd dX7_readGains_52 ?_
          refine aw_istore [(4, .int ((le nx) + (re nx))), (3, .int (nI nx)), (2, .int (nI (2 ^ sz - 1))), (1, .int (nI st)), (0, .ref (G.1 + S))] dX7_readGains_53 (by decide) rfl ?_
          refine aw_iconst (0) dX7_readGains_55 (by decide) ?_
          refine aw_istore [(5, .int 0), (4, .int ((le nx) + (re nx))), (3, .int (nI nx)), (2, .int (nI (2 ^ sz - 1))), (1, .int (nI st)), (0, .ref (G.1 + S))] dX7_readGains_56 (by decide) rfl ?_
          refine aw_lv [(5, .int 0), (4, .int ((le nx) + (re nx))), (3, .int (nI nx)), (2, .int (nI (2 ^ sz - 1))), (1, .int (nI st)), (0, .ref (G.1 + S))] [0, 1, 2, 3, 4, 5] rfl ?_
          suffices L67 : ∀ (mm : Nat) (i : Nat) (g : Int32), sz - i < mm → (i ≤ sz) → (g = glF le re lf sz st nx i) → AW l G yX7_readGains cX7_readGains 6 none (xR 0 0 0) (fun _ _ => True) QF 0 0 58 [(5, .int (nI i)), (4, .int g), (3, .int (nI nx)), (2, .int (nI (2 ^ sz - 1))), (1, .int (nI st)), (0, .ref (G.1 + S))] [] h51 from L67 (sz - 0 + 1) 0 ((le nx) + (re nx)) (Nat.lt_succ_self _) (Nat.zero_le _) (by show _ = gbF le re sz st nx; unfold gbF; rw [if_pos d41, if_pos d20])
          intro mm
          induction mm with
          | zero =>
            intro i g hmm hi hg
            exact absurd hmm (Nat.not_lt_zero _)
          | succ mm ih67 =>
            intro i g hmm hi hg
            refine aw_iload 0 dX7_readGains_58 rfl ?_
            refine aw_aload_n 5 dX7_readGains_60 rfl rfl ?_
            refine aw_get fX7_39 dX7_readGains_61 f52 rfl ?_
            refine aw_icmp_ge 99 dX7_readGains_64 (by decide) (fun c64 => ?_) (fun c64 => ?_)
            · have d64 := (nv_le (a := sz) (b := i) (rfl) (rfl) (by omega) (by omega)).mp c64
              refine aw_aload_n 5 dX7_readGains_99 rfl rfl ?_
              refine aw_get fX7_30 dX7_readGains_100 f52 rfl ?_
              refine aw_iload_n 2 dX7_readGains_103 rfl rfl ?_
              refine aw_iload 1 dX7_readGains_104 rfl ?_
              refine aw_iast nx (rfl) (by omega) (by decide) dX7_readGains_106 f59 ?_
              refine aw_iinc (j := 2) (nI (nx + 1)) [(3, .int (nI (nx + 1))), (5, .int (nI i)), (4, .int g), (2, .int (nI (2 ^ sz - 1))), (1, .int (nI st)), (0, .ref (G.1 + S))] dX7_readGains_107 rfl (nv_inc (rfl)) (by decide) rfl ?_
              refine aw_goto 11 dX7_readGains_110 (by decide) ?_
              refine aw_lv [(3, .int (nI (nx + 1))), (2, .int (nI (2 ^ sz - 1))), (1, .int (nI st)), (0, .ref (G.1 + S))] [0, 3, 4, 5] rfl ?_
              exact ih63 (nx + 1) (upd g1 nx g) _ (by omega) (by omega) (by simp only [gaF]; rw [← hgn, hg, show i = sz by omega]) (gn (by omega) (f52)) (gn (by omega) (f53)) (gn (by omega) (f54)) (gn (by omega) (f55)) (gn (by omega) (f56)) (gn (by omega) (f57)) (gn (by omega) (f58)) (gs f59) (gn (by omega) (f60)) (gn (by omega) (f61)) (rng_set (k62) (by omega) (by omega))
            · have d64 := mt (nv_le (a := sz) (b := i) (rfl) (rfl) (by omega) (by omega)).mpr c64
              refine aw_iload_n 4 dX7_readGains_67 rfl rfl ?_
              refine aw_iload 0 dX7_readGains_68 rfl ?_
              refine aw_ishr dX7_readGains_70 ?_
              refine aw_iconst (1) dX7_readGains_71 (by decide) ?_
              refine aw_iand dX7_readGains_72 ?_
              refine aw_toe (if st.testBit i = true then 1 else 0) (nv_bit (rfl) (rfl) (by omega) (by omega)) ?_
              refine aw_if_eq 93 dX7_readGains_73 (by decide) (fun c73 => ?_) (fun c73 => ?_)
              · have t73 := ite_0 c73
                refine aw_iinc (j := 0) (nI (i + 1)) [(5, .int (nI (i + 1))), (4, .int g), (3, .int (nI nx)), (2, .int (nI (2 ^ sz - 1))), (1, .int (nI st)), (0, .ref (G.1 + S))] dX7_readGains_93 rfl (nv_inc (rfl)) (by decide) rfl ?_
                refine aw_goto 58 dX7_readGains_96 (by decide) ?_
                refine aw_lv [(5, .int (nI (i + 1))), (4, .int g), (3, .int (nI nx)), (2, .int (nI (2 ^ sz - 1))), (1, .int (nI st)), (0, .ref (G.1 + S))] [0, 1, 2, 3, 4, 5] rfl ?_
                exact ih67 (i + 1) g (by omega) (by omega) (by simp only [glF]; rw [if_neg t73]; exact hg)
              · have t73 := ite_1 c73
                refine aw_iload 1 dX7_readGains_76 rfl ?_
                refine aw_aload_n 5 dX7_readGains_78 rfl rfl ?_
                refine aw_get fX7_18 dX7_readGains_79 f52 rfl ?_
                refine aw_iload 0 dX7_readGains_82 rfl ?_
                refine aw_bipush (8) dX7_readGains_84 (by decide) ?_
                refine aw_imul dX7_readGains_86 ?_
                refine aw_iload_n 2 dX7_readGains_87 rfl rfl ?_
                refine aw_iadd dX7_readGains_88 ?_
                refine aw_iald ((i * 8) + nx) (nv_add (nv_mul (rfl) (rfl)) (rfl)) (by omega) (by decide) dX7_readGains_89 f55 ?_
                refine aw_iadd dX7_readGains_90 ?_
                refine aw_istore [(4, .int (g + (lf ((i * 8) + nx)))), (5, .int (nI i)), (3, .int (nI nx)), (2, .int (nI (2 ^ sz - 1))), (1, .int (nI st)), (0, .ref (G.1 + S))] dX7_readGains_91 (by decide) rfl ?_
                refine aw_iinc (j := 1) (nI (i + 1)) [(5, .int (nI (i + 1))), (4, .int (g + (lf ((i * 8) + nx)))), (3, .int (nI nx)), (2, .int (nI (2 ^ sz - 1))), (1, .int (nI st)), (0, .ref (G.1 + S))] dX7_readGains_93 rfl (nv_inc (rfl)) (by decide) rfl ?_
                refine aw_goto 58 dX7_readGains_96 (by decide) ?_
                refine aw_lv [(5, .int (nI (i + 1))), (4, .int (g + (lf ((i * 8) + nx)))), (3, .int (nI nx)), (2, .int (nI (2 ^ sz - 1))), (1, .int (nI st)), (0, .ref (G.1 + S))] [0, 1, 2, 3, 4, 5] rfl ?_
                exact ih67 (i + 1) (g + lf (i * 8 + nx)) (by omega) (by omega) (by simp only [glF]; rw [if_pos t73, ← hg])
set_option maxHeartbeats 4000000 in
theorem aX7_valueOf {l : Launch} {G : xG} {h : List va_E} {S sz b0 y0 : Nat} {tt su : Int32} {po : Nat → Nat} {tg lf be le re gg bs to : Nat → Int32} {st la nx : Nat} (hS : h[S]? = some (oB 7 (lSh G S (nI sz) tt su (nI b0) (nI y0)))) (hS_1 : h[S + 1]? = some (aI 8 tg)) (hS_2 : h[S + 2]? = some (aI 12 (nA po))) (hS_3 : h[S + 3]? = some (aI 64 lf)) (hS_4 : h[S + 4]? = some (aI 64 be)) (hS_5 : h[S + 5]? = some (aI 8 le)) (hS_6 : h[S + 6]? = some (aI 8 re)) (hS_7 : h[S + 7]? = some (aI 8 gg)) (hS_8 : h[S + 8]? = some (aI 2048 bs)) (hS_9 : h[S + 9]? = some (aI 8 to)) (bst : st < 256) (bla : la < 8) (bnx : nx < 8) : CD l G yX7_valueOf cX7_valueOf 5 (some .int) 0 0 0 [.ref (G.1 + S), .int (nI st), .int (nI la), .int (nI nx)] h (some (.int (vaF gg bs be st la nx))) h := by
  refine cm_ofQ rfl (Nat.le_of_ble_eq_true rfl) [(0, .ref (G.1 + S)), (1, .int (nI st)), (2, .int (nI la)), (3, .int (nI nx))] rfl (fun QF hQF => ?_)
  have bq := or_lt8' (a := st) (b := nx) bst bnx
  refine aw_aload_n 0 dX7_valueOf_0 rfl rfl ?_
  refine aw_get fX7_30 dX7_valueOf_1 hS rfl ?_
  refine aw_iload_n 3 dX7_valueOf_4 rfl rfl ?_
  refine aw_iald nx (rfl) (by omega) (by decide) dX7_valueOf_5 hS_7 ?_
  refine aw_aload_n 0 dX7_valueOf_6 rfl rfl ?_
  refine aw_get fX7_33 dX7_valueOf_7 hS rfl ?_
  refine aw_iload_n 1 dX7_valueOf_10 rfl rfl ?_
  refine aw_iconst (1) dX7_valueOf_11 (by decide) ?_
  refine aw_iload_n 3 dX7_valueOf_12 rfl rfl ?_
  refine aw_ishl dX7_valueOf_13 ?_
  refine aw_toe (nI (2 ^ nx)) (nv_shl1 (rfl) (by omega)) ?_
  refine aw_ior dX7_valueOf_14 ?_
  refine aw_toe (nI (st ||| (2 ^ nx))) (nv_or (rfl) (rfl)) ?_
  refine aw_bipush (8) dX7_valueOf_15 (by decide) ?_
  refine aw_imul dX7_valueOf_17 ?_
  refine aw_iload_n 3 dX7_valueOf_18 rfl rfl ?_
  refine aw_iadd dX7_valueOf_19 ?_
  refine aw_iald (((st ||| (2 ^ nx)) * 8) + nx) (nv_add (nv_mul (rfl) (rfl)) (rfl)) (by omega) (by decide) dX7_valueOf_20 hS_8 ?_
  refine aw_iadd dX7_valueOf_21 ?_
  refine aw_istore [(4, .int ((gg nx) + (bs (((st ||| (2 ^ nx)) * 8) + nx)))), (0, .ref (G.1 + S)), (1, .int (nI st)), (2, .int (nI la)), (3, .int (nI nx))] dX7_valueOf_22 (by decide) rfl ?_
  refine aw_iload_n 2 dX7_valueOf_24 rfl rfl ?_
  refine aw_if_ne 33 dX7_valueOf_25 (by decide) (fun c25 => ?_) (fun c25 => ?_)
  · have d25 := mt (nv_eq (a := st) (b := 0) (rfl) (rfl) (by omega) (by omega)).mpr c25
    refine aw_iload 0 dX7_valueOf_33 rfl ?_
    refine aw_aload_n 1 dX7_valueOf_35 rfl rfl ?_
    refine aw_get fX7_21 dX7_valueOf_36 hS rfl ?_
    refine aw_iload_n 3 dX7_valueOf_39 rfl rfl ?_
    refine aw_bipush (8) dX7_valueOf_40 (by decide) ?_
    refine aw_imul dX7_valueOf_42 ?_
    refine aw_iload_n 4 dX7_valueOf_43 rfl rfl ?_
    refine aw_iadd dX7_valueOf_44 ?_
    refine aw_iald ((la * 8) + nx) (nv_add (nv_mul (rfl) (rfl)) (rfl)) (by omega) (by decide) dX7_valueOf_45 hS_4 ?_
    refine aw_iadd dX7_valueOf_46 ?_
    subst hQF
    exact aw_iret rfl dX7_valueOf_47 (by decide) (by decide) ⟨by unfold vaF; rw [if_neg d25], rfl⟩
  · have d25 := (nv_eq (a := st) (b := 0) (rfl) (rfl) (by omega) (by omega)).mp c25
    refine aw_iload 0 dX7_valueOf_28 rfl ?_
    refine aw_goto 47 dX7_valueOf_30 (by decide) ?_
    subst hQF
    exact aw_iret rfl dX7_valueOf_47 (by decide) (by decide) ⟨by unfold vaF; rw [if_pos d25], rfl⟩
set_option maxHeartbeats 4000000 in
theorem aX7_weighState {l : Launch} {G : xG} {h : List va_E} {S sz b0 y0 : Nat} {tt su : Int32} {po : Nat → Nat} {tg lf be le re gg bs to : Nat → Int32} {st la : Nat} (hS : h[S]? = some (oB 7 (lSh G S (nI sz) tt su (nI b0) (nI y0)))) (hS_1 : h[S + 1]? = some (aI 8 tg)) (hS_2 : h[S + 2]? = some (aI 12 (nA po))) (hS_3 : h[S + 3]? = some (aI 64 lf)) (hS_4 : h[S + 4]? = some (aI 64 be)) (hS_5 : h[S + 5]? = some (aI 8 le)) (hS_6 : h[S + 6]? = some (aI 8 re)) (hS_7 : h[S + 7]? = some (aI 8 gg)) (hS_8 : h[S + 8]? = some (aI 2048 bs)) (hS_9 : h[S + 9]? = some (aI 8 to)) (hsz : sz ≤ 8) (bst : st < 256) (bla : la < 8) : CD l G yX7_weighState cX7_weighState 5 (some .int) 1 0 0 [.ref (G.1 + S), .int (nI st), .int (nI la)] h (some (.int (wsF gg bs be st la sz))) h := by
  refine cm_ofQ rfl (Nat.le_of_ble_eq_true rfl) [(0, .ref (G.1 + S)), (1, .int (nI st)), (2, .int (nI la))] rfl (fun QF hQF => ?_)
  refine aw_iconst (0) dX7_weighState_0 (by decide) ?_
  refine aw_istore_n [(3, .int 0), (0, .ref (G.1 + S)), (1, .int (nI st)), (2, .int (nI la))] dX7_weighState_1 rfl (by decide) rfl ?_
  refine aw_iconst (0) dX7_weighState_2 (by decide) ?_
  refine aw_istore [(4, .int 0), (3, .int 0), (0, .ref (G.1 + S)), (1, .int (nI st)), (2, .int (nI la))] dX7_weighState_3 (by decide) rfl ?_
  refine aw_lv [(4, .int 0), (3, .int 0), (2, .int (nI la)), (1, .int (nI st)), (0, .ref (G.1 + S))] [0, 1, 4, 3, 2] rfl ?_
  suffices L68 : ∀ (mm : Nat) (i : Nat) (mo : Int32), sz - i < mm → (i ≤ sz) → (mo = (wsF gg bs be st la i)) → AW l G yX7_weighState cX7_weighState 5 (some .int) (xR 1 0 0) (fun _ _ => True) QF 0 0 5 [(4, .int (nI i)), (3, .int mo), (2, .int (nI la)), (1, .int (nI st)), (0, .ref (G.1 + S))] [] h from L68 (sz - 0 + 1) 0 0 (Nat.lt_succ_self _) (Nat.zero_le _) (rfl)
  intro mm
  induction mm with
  | zero =>
    intro i mo hmm hi hm
    exact absurd hmm (Nat.not_lt_zero _)
  | succ mm ih68 =>
    intro i mo hmm hi hm
    refine aw_iload 0 dX7_weighState_5 rfl ?_
    refine aw_aload_n 4 dX7_weighState_7 rfl rfl ?_
    refine aw_get fX7_39 dX7_weighState_8 hS rfl ?_
    refine aw_icmp_ge 42 dX7_weighState_11 (by decide) (fun c11 => ?_) (fun c11 => ?_)
    · have d11 := (nv_le (a := sz) (b := i) (rfl) (rfl) (by omega) (by omega)).mp c11
      refine aw_iload_n 1 dX7_weighState_42 rfl rfl ?_
      subst hQF
      exact aw_iret rfl dX7_weighState_43 (by decide) (by decide) ⟨by rw [hm, show i = sz by omega], rfl⟩
    · have d11 := mt (nv_le (a := sz) (b := i) (rfl) (rfl) (by omega) (by omega)).mpr c11
      refine aw_iload_n 3 dX7_weighState_14 rfl rfl ?_
      refine aw_iload 0 dX7_weighState_15 rfl ?_
      refine aw_ishr dX7_weighState_17 ?_
      refine aw_iconst (1) dX7_weighState_18 (by decide) ?_
      refine aw_iand dX7_weighState_19 ?_
      refine aw_toe (if st.testBit i = true then 1 else 0) (nv_bit (rfl) (rfl) (by omega) (by omega)) ?_
      refine aw_if_ne 36 dX7_weighState_20 (by decide) (fun c20 => ?_) (fun c20 => ?_)
      · have t20 := ite_1 c20
        refine aw_iinc (j := 0) (nI (i + 1)) [(4, .int (nI (i + 1))), (3, .int mo), (2, .int (nI la)), (1, .int (nI st)), (0, .ref (G.1 + S))] dX7_weighState_36 rfl (nv_inc (rfl)) (by decide) rfl ?_
        refine aw_goto 5 dX7_weighState_39 (by decide) ?_
        refine aw_lv [(4, .int (nI (i + 1))), (3, .int mo), (2, .int (nI la)), (1, .int (nI st)), (0, .ref (G.1 + S))] [0, 1, 2, 3, 4] rfl ?_
        exact ih68 (i + 1) mo (by omega) (by omega) (by simp only [wsF]; rw [if_pos t20]; exact hm)
      · have t20 := ite_0 c20
        refine aw_iload_n 1 dX7_weighState_23 rfl rfl ?_
        refine aw_aload_n 4 dX7_weighState_24 rfl rfl ?_
        refine aw_iload_n 3 dX7_weighState_25 rfl rfl ?_
        refine aw_iload_n 2 dX7_weighState_26 rfl rfl ?_
        refine aw_iload 0 dX7_weighState_27 rfl ?_
        refine aw_dV [.int (nI st), .int (nI la), .int (nI i)] [.int mo] lX7_96 vX7_valueOf mX7_valueOf dX7_weighState_29 (aX7_valueOf (S := S) (sz := sz) (b0 := b0) (y0 := y0) (tt := tt) (su := su) (po := po) (tg := tg) (lf := lf) (be := be) (le := le) (re := re) (gg := gg) (bs := bs) (to := to) (st := st) (la := la) (nx := i) hS hS_1 hS_2 hS_3 hS_4 hS_5 hS_6 hS_7 hS_8 hS_9 (by omega) (by omega) (by omega)) hS rfl rfl rfl (Nat.le_of_ble_eq_true rfl) (by decide) (by decide) rfl ?_
        refine aw_mmax lX7_100 dX7_weighState_32 (Nat.le_of_ble_eq_true rfl) (by decide) (by decide) ?_
        refine aw_istore_n [(3, .int (if mo < (vaF gg bs be st la i) then (vaF gg bs be st la i) else mo)), (4, .int (nI i)), (2, .int (nI la)), (1, .int (nI st)), (0, .ref (G.1 + S))] dX7_weighState_35 rfl (by decide) rfl ?_
        refine aw_iinc (j := 1) (nI (i + 1)) [(4, .int (nI (i + 1))), (3, .int (if mo < (vaF gg bs be st la i) then (vaF gg bs be st la i) else mo)), (2, .int (nI la)), (1, .int (nI st)), (0, .ref (G.1 + S))] dX7_weighState_36 rfl (nv_inc (rfl)) (by decide) rfl ?_
        refine aw_goto 5 dX7_weighState_39 (by decide) ?_
        refine aw_lv [(4, .int (nI (i + 1))), (3, .int (if mo < (vaF gg bs be st la i) then (vaF gg bs be st la i) else mo)), (2, .int (nI la)), (1, .int (nI st)), (0, .ref (G.1 + S))] [0, 1, 2, 3, 4] rfl ?_
        exact ih68 (i + 1) (if mo < (vaF gg bs be st la i) then (vaF gg bs be st la i) else mo) (by omega) (by omega) (by simp only [wsF]; rw [if_neg t20, ← hm])
set_option maxHeartbeats 4000000 in
theorem aX7_firstBest {l : Launch} {G : xG} {h : List va_E} {S sz b0 y0 : Nat} {tt su : Int32} {po : Nat → Nat} {tg lf be le re gg bs to : Nat → Int32} {st la : Nat} (hS : h[S]? = some (oB 7 (lSh G S (nI sz) tt su (nI b0) (nI y0)))) (hS_1 : h[S + 1]? = some (aI 8 tg)) (hS_2 : h[S + 2]? = some (aI 12 (nA po))) (hS_3 : h[S + 3]? = some (aI 64 lf)) (hS_4 : h[S + 4]? = some (aI 64 be)) (hS_5 : h[S + 5]? = some (aI 8 le)) (hS_6 : h[S + 6]? = some (aI 8 re)) (hS_7 : h[S + 7]? = some (aI 8 gg)) (hS_8 : h[S + 8]? = some (aI 2048 bs)) (hS_9 : h[S + 9]? = some (aI 8 to)) (hsz : sz ≤ 8) (bst : st < 256) (bla : la < 8) : CD l G yX7_firstBest cX7_firstBest 5 (some .int) 2 0 0 [.ref (G.1 + S), .int (nI st), .int (nI la)] h (some (.int (nI (fbF gg bs be st la (wsF gg bs be st la sz) sz 0)))) h := by
  refine cm_ofQ rfl (Nat.le_of_ble_eq_true rfl) [(0, .ref (G.1 + S)), (1, .int (nI st)), (2, .int (nI la))] rfl (fun QF hQF => ?_)
  refine aw_aload_n 0 dX7_firstBest_0 rfl rfl ?_
  refine aw_iload_n 1 dX7_firstBest_1 rfl rfl ?_
  refine aw_iload_n 2 dX7_firstBest_2 rfl rfl ?_
  refine aw_dV [.int (nI st), .int (nI la)] [] lX7_92 vX7_weighState mX7_weighState dX7_firstBest_3 (aX7_weighState (S := S) (sz := sz) (b0 := b0) (y0 := y0) (tt := tt) (su := su) (po := po) (tg := tg) (lf := lf) (be := be) (le := le) (re := re) (gg := gg) (bs := bs) (to := to) (st := st) (la := la) hS hS_1 hS_2 hS_3 hS_4 hS_5 hS_6 hS_7 hS_8 hS_9 (by omega) (by omega) (by omega)) hS rfl rfl rfl (Nat.le_of_ble_eq_true rfl) (by decide) (by decide) rfl ?_
  refine aw_istore_n [(3, .int (wsF gg bs be st la sz)), (0, .ref (G.1 + S)), (1, .int (nI st)), (2, .int (nI la))] dX7_firstBest_6 rfl (by decide) rfl ?_
  refine aw_iconst (0) dX7_firstBest_7 (by decide) ?_
  refine aw_istore [(4, .int 0), (3, .int (wsF gg bs be st la sz)), (0, .ref (G.1 + S)), (1, .int (nI st)), (2, .int (nI la))] dX7_firstBest_8 (by decide) rfl ?_
  refine aw_lv [(4, .int 0), (3, .int (wsF gg bs be st la sz)), (2, .int (nI la)), (1, .int (nI st)), (0, .ref (G.1 + S))] [0, 1, 4, 3, 2] rfl ?_
  suffices L69 : ∀ (mm : Nat) (i : Nat), sz - i < mm → (i ≤ sz) → ((fbF gg bs be st la (wsF gg bs be st la sz) sz 0) = fbF gg bs be st la (wsF gg bs be st la sz) (sz - i) i) → AW l G yX7_firstBest cX7_firstBest 5 (some .int) (xR 2 0 0) (fun _ _ => True) QF 0 0 10 [(4, .int (nI i)), (3, .int (wsF gg bs be st la sz)), (2, .int (nI la)), (1, .int (nI st)), (0, .ref (G.1 + S))] [] h from L69 (sz - 0 + 1) 0 (Nat.lt_succ_self _) (Nat.zero_le _) (rfl)
  intro mm
  induction mm with
  | zero =>
    intro i hmm hi hm
    exact absurd hmm (Nat.not_lt_zero _)
  | succ mm ih69 =>
    intro i hmm hi hm
    refine aw_iload 0 dX7_firstBest_10 rfl ?_
    refine aw_aload_n 4 dX7_firstBest_12 rfl rfl ?_
    refine aw_get fX7_39 dX7_firstBest_13 hS rfl ?_
    refine aw_icmp_ge 49 dX7_firstBest_16 (by decide) (fun c16 => ?_) (fun c16 => ?_)
    · have d16 := (nv_le (a := sz) (b := i) (rfl) (rfl) (by omega) (by omega)).mp c16
      refine aw_iconst (0) dX7_firstBest_49 (by decide) ?_
      subst hQF
      exact aw_iret rfl dX7_firstBest_50 (by decide) (by decide) ⟨by rw [hm, show sz - i = 0 by omega]; rfl, rfl⟩
    · have d16 := mt (nv_le (a := sz) (b := i) (rfl) (rfl) (by omega) (by omega)).mpr c16
      refine aw_iload_n 3 dX7_firstBest_19 rfl rfl ?_
      refine aw_iload 0 dX7_firstBest_20 rfl ?_
      refine aw_ishr dX7_firstBest_22 ?_
      refine aw_iconst (1) dX7_firstBest_23 (by decide) ?_
      refine aw_iand dX7_firstBest_24 ?_
      refine aw_toe (if st.testBit i = true then 1 else 0) (nv_bit (rfl) (rfl) (by omega) (by omega)) ?_
      refine aw_if_ne 43 dX7_firstBest_25 (by decide) (fun c25 => ?_) (fun c25 => ?_)
      · have t25 := ite_1 c25
        refine aw_iinc (j := 0) (nI (i + 1)) [(4, .int (nI (i + 1))), (3, .int (wsF gg bs be st la sz)), (2, .int (nI la)), (1, .int (nI st)), (0, .ref (G.1 + S))] dX7_firstBest_43 rfl (nv_inc (rfl)) (by decide) rfl ?_
        refine aw_goto 10 dX7_firstBest_46 (by decide) ?_
        refine aw_lv [(4, .int (nI (i + 1))), (3, .int (wsF gg bs be st la sz)), (2, .int (nI la)), (1, .int (nI st)), (0, .ref (G.1 + S))] [0, 1, 2, 3, 4] rfl ?_
        exact ih69 (i + 1) (by omega) (by omega) (by rw [hm, show sz - i = (sz - (i + 1)) + 1 by omega]; simp only [fbF]; rw [if_pos t25])
      · have t25 := ite_0 c25
        refine aw_aload_n 4 dX7_firstBest_28 rfl rfl ?_
        refine aw_iload_n 3 dX7_firstBest_29 rfl rfl ?_
        refine aw_iload_n 2 dX7_firstBest_30 rfl rfl ?_
        refine aw_iload 0 dX7_firstBest_31 rfl ?_
        refine aw_dV [.int (nI st), .int (nI la), .int (nI i)] [] lX7_96 vX7_valueOf mX7_valueOf dX7_firstBest_33 (aX7_valueOf (S := S) (sz := sz) (b0 := b0) (y0 := y0) (tt := tt) (su := su) (po := po) (tg := tg) (lf := lf) (be := be) (le := le) (re := re) (gg := gg) (bs := bs) (to := to) (st := st) (la := la) (nx := i) hS hS_1 hS_2 hS_3 hS_4 hS_5 hS_6 hS_7 hS_8 hS_9 (by omega) (by omega) (by omega)) hS rfl rfl rfl (Nat.le_of_ble_eq_true rfl) (by decide) (by decide) rfl ?_
        refine aw_iload_n 1 dX7_firstBest_36 rfl rfl ?_
        refine aw_icmp_ne 43 dX7_firstBest_37 (by decide) (fun c37 => ?_) (fun c37 => ?_)
        · refine aw_iinc (j := 0) (nI (i + 1)) [(4, .int (nI (i + 1))), (3, .int (wsF gg bs be st la sz)), (2, .int (nI la)), (1, .int (nI st)), (0, .ref (G.1 + S))] dX7_firstBest_43 rfl (nv_inc (rfl)) (by decide) rfl ?_
          refine aw_goto 10 dX7_firstBest_46 (by decide) ?_
          refine aw_lv [(4, .int (nI (i + 1))), (3, .int (wsF gg bs be st la sz)), (2, .int (nI la)), (1, .int (nI st)), (0, .ref (G.1 + S))] [0, 1, 2, 3, 4] rfl ?_
          exact ih69 (i + 1) (by omega) (by omega) (by rw [hm, show sz - i = (sz - (i + 1)) + 1 by omega]; simp only [fbF]; rw [if_neg t25, if_neg c37])
        · refine aw_iload 0 dX7_firstBest_40 rfl ?_
          subst hQF
          exact aw_iret rfl dX7_firstBest_42 (by decide) (by decide) ⟨by rw [hm, show sz - i = (sz - (i + 1)) + 1 by omega]; simp only [fbF]; rw [if_neg t25, if_pos c37], rfl⟩
theorem wt_s {le re lf be : Nat → Int32} {sz w : Nat} {b2 g1 b3 : Nat → Int32} (h : 0 < w) (e : b3 = wlF (gaF le re lf sz w g1 sz) be sz w b2 sz) : wtF le re lf be sz w (b2, g1) = wtF le re lf be sz (w - 1) (b3, gaF le re lf sz w g1 sz) := by
  obtain ⟨v, rfl⟩ : ∃ v, w = v + 1 := ⟨w - 1, by omega⟩
  rw [e]; rfl
set_option maxHeartbeats 4000000 in
theorem aX7_weighStates {l : Launch} {G : xG} {h : List va_E} {S sz b0 y0 : Nat} {tt su : Int32} {po : Nat → Nat} {tg lf be le re gg bs to : Nat → Int32} (hS : h[S]? = some (oB 7 (lSh G S (nI sz) tt su (nI b0) (nI y0)))) (hS_1 : h[S + 1]? = some (aI 8 tg)) (hS_2 : h[S + 2]? = some (aI 12 (nA po))) (hS_3 : h[S + 3]? = some (aI 64 lf)) (hS_4 : h[S + 4]? = some (aI 64 be)) (hS_5 : h[S + 5]? = some (aI 8 le)) (hS_6 : h[S + 6]? = some (aI 8 re)) (hS_7 : h[S + 7]? = some (aI 8 gg)) (hS_8 : h[S + 8]? = some (aI 2048 bs)) (hS_9 : h[S + 9]? = some (aI 8 to)) (hsz : sz ≤ 8) (h0 : 0 < sz) : CE l G yX7_weighStates cX7_weighStates 4 none 2 0 0 [.ref (G.1 + S)] h none (fun h1 => ∃ su1 : Int32, ∃ gg1 : Nat → Int32, ∃ bs1 : Nat → Int32, h1[S]? = some (oB 7 (lSh G S (nI sz) tt su1 (nI b0) (nI y0))) ∧ h1[S + 1]? = some (aI 8 tg) ∧ h1[S + 2]? = some (aI 12 (nA po)) ∧ h1[S + 3]? = some (aI 64 lf) ∧ h1[S + 4]? = some (aI 64 be) ∧ h1[S + 5]? = some (aI 8 le) ∧ h1[S + 6]? = some (aI 8 re) ∧ h1[S + 7]? = some (aI 8 gg1) ∧ h1[S + 8]? = some (aI 2048 bs1) ∧ h1[S + 9]? = some (aI 8 to) ∧ rng S (S + 9) h h1 ∧ bs1 = (wtF le re lf be sz (2 ^ sz - 1 - 1) (wzF (2 ^ sz - 1) bs sz, gg)).1 ∧ gg1 = (gaF le re lf sz 0 (wtF le re lf be sz (2 ^ sz - 1 - 1) (wzF (2 ^ sz - 1) bs sz, gg)).2 sz) ∧ su1 = wsF gg1 bs1 be 0 0 sz) := by
  refine cm_ofQ rfl (Nat.le_of_ble_eq_true rfl) [(0, .ref (G.1 + S))] rfl (fun QF hQF => ?_)
  have bp := pw8 sz hsz
  have bp2 := pw2 sz hsz h0
  refine aw_iconst (1) dX7_weighStates_0 (by decide) ?_
  refine aw_aload_n 0 dX7_weighStates_1 rfl rfl ?_
  refine aw_get fX7_39 dX7_weighStates_2 hS rfl ?_
  refine aw_ishl dX7_weighStates_5 ?_
  refine aw_toe (nI (2 ^ sz)) (nv_shl1 (rfl) (by omega)) ?_
  refine aw_iconst (1) dX7_weighStates_6 (by decide) ?_
  refine aw_isub dX7_weighStates_7 ?_
  refine aw_toe (nI ((2 ^ sz) - 1)) (nv_sub (rfl) (rfl) (by omega)) ?_
  refine aw_istore_n [(1, .int (nI ((2 ^ sz) - 1))), (0, .ref (G.1 + S))] dX7_weighStates_8 rfl (by decide) rfl ?_
  refine aw_iconst (0) dX7_weighStates_9 (by decide) ?_
  refine aw_istore_n [(2, .int 0), (1, .int (nI ((2 ^ sz) - 1))), (0, .ref (G.1 + S))] dX7_weighStates_10 rfl (by decide) rfl ?_
  refine aw_lv [(2, .int 0), (1, .int (nI ((2 ^ sz) - 1))), (0, .ref (G.1 + S))] [0, 1, 2] rfl ?_
  suffices L82 : ∀ (mm : Nat) (i : Nat) (b1 : Nat → Int32) (h70 : List va_E), sz - i < mm → (i ≤ sz) → (b1 = wzF (2 ^ sz - 1) bs i) → h70[S]? = some (oB 7 (lSh G S (nI sz) tt su (nI b0) (nI y0))) → h70[S + 1]? = some (aI 8 tg) → h70[S + 2]? = some (aI 12 (nA po)) → h70[S + 3]? = some (aI 64 lf) → h70[S + 4]? = some (aI 64 be) → h70[S + 5]? = some (aI 8 le) → h70[S + 6]? = some (aI 8 re) → h70[S + 7]? = some (aI 8 gg) → h70[S + 8]? = some (aI 2048 b1) → h70[S + 9]? = some (aI 8 to) → rng S (S + 9) h h70 → AW l G yX7_weighStates cX7_weighStates 4 none (xR 2 0 0) (fun _ _ => True) QF 0 0 11 [(2, .int (nI i)), (1, .int (nI (2 ^ sz - 1))), (0, .ref (G.1 + S))] [] h70 from L82 (sz - 0 + 1) 0 bs _ (Nat.lt_succ_self _) (Nat.zero_le _) (rfl) hS hS_1 hS_2 hS_3 hS_4 hS_5 hS_6 hS_7 hS_8 hS_9 (rng_rf S (S + 9) h)
  intro mm
  induction mm with
  | zero =>
    intro i b1 h70 hmm hi hz f71 f72 f73 f74 f75 f76 f77 f78 f79 f80 k81
    exact absurd hmm (Nat.not_lt_zero _)
  | succ mm ih82 =>
    intro i b1 h70 hmm hi hz f71 f72 f73 f74 f75 f76 f77 f78 f79 f80 k81
    refine aw_iload_n 0 dX7_weighStates_11 rfl rfl ?_
    refine aw_aload_n 2 dX7_weighStates_12 rfl rfl ?_
    refine aw_get fX7_39 dX7_weighStates_13 f71 rfl ?_
    refine aw_icmp_ge 37 dX7_weighStates_16 (by decide) (fun c16 => ?_) (fun c16 => ?_)
    · have d16 := (nv_le (a := sz) (b := i) (rfl) (rfl) (by omega) (by omega)).mp c16
      refine aw_iload_n 1 dX7_weighStates_37 rfl rfl ?_
      refine aw_iconst (1) dX7_weighStates_38 (by decide) ?_
      refine aw_isub dX7_weighStates_39 ?_
      refine aw_toe (nI ((2 ^ sz - 1) - 1)) (nv_sub (rfl) (rfl) (by omega)) ?_
      refine aw_istore_n [(2, .int (nI ((2 ^ sz - 1) - 1))), (1, .int (nI (2 ^ sz - 1))), (0, .ref (G.1 + S))] dX7_weighStates_40 rfl (by decide) rfl ?_
      have hz2 : b1 = wzF (2 ^ sz - 1) bs sz := by rw [hz, show i = sz by omega]
      refine aw_lv [(2, .int (nI ((2 ^ sz - 1) - 1))), (1, .int (nI (2 ^ sz - 1))), (0, .ref (G.1 + S))] [0, 1, 2] rfl ?_
      suffices L95 : ∀ (mm : Nat) (w : Nat) (g1 : Nat → Int32) (b2 : Nat → Int32) (h83 : List va_E), w < mm → (w < 256) → (wtF le re lf be sz (2 ^ sz - 1 - 1) (wzF (2 ^ sz - 1) bs sz, gg) = wtF le re lf be sz w (b2, g1)) → h83[S]? = some (oB 7 (lSh G S (nI sz) tt su (nI b0) (nI y0))) → h83[S + 1]? = some (aI 8 tg) → h83[S + 2]? = some (aI 12 (nA po)) → h83[S + 3]? = some (aI 64 lf) → h83[S + 4]? = some (aI 64 be) → h83[S + 5]? = some (aI 8 le) → h83[S + 6]? = some (aI 8 re) → h83[S + 7]? = some (aI 8 g1) → h83[S + 8]? = some (aI 2048 b2) → h83[S + 9]? = some (aI 8 to) → rng S (S + 9) h h83 → AW l G yX7_weighStates cX7_weighStates 4 none (xR 2 0 0) (fun _ _ => True) QF 0 0 41 [(2, .int (nI w)), (1, .int (nI (2 ^ sz - 1))), (0, .ref (G.1 + S))] [] h83 from L95 ((2 ^ sz - 1 - 1) + 1) (2 ^ sz - 1 - 1) gg b1 _ (Nat.lt_succ_self _) (by omega) (by rw [hz2]) f71 f72 f73 f74 f75 f76 f77 f78 f79 f80 (k81)
      intro mm
      induction mm with
      | zero =>
        intro w g1 b2 h83 hmm bw hw f84 f85 f86 f87 f88 f89 f90 f91 f92 f93 k94
        exact absurd hmm (Nat.not_lt_zero _)
      | succ mm ih95 =>
        intro w g1 b2 h83 hmm bw hw f84 f85 f86 f87 f88 f89 f90 f91 f92 f93 k94
        refine aw_iload_n 0 dX7_weighStates_41 rfl rfl ?_
        refine aw_if_le 97 dX7_weighStates_42 (by decide) (fun c42 => ?_) (fun c42 => ?_)
        · have d42 := (nv_le (a := w) (b := 0) (rfl) (rfl) (by omega) (by omega)).mp c42
          have b0 : w = 0 := by omega
          subst b0
          have hw2 : wtF le re lf be sz (2 ^ sz - 1 - 1) (wzF (2 ^ sz - 1) bs sz, gg) = (b2, g1) := hw
          refine aw_aload_n 2 dX7_weighStates_97 rfl rfl ?_
          refine aw_iconst (0) dX7_weighStates_98 (by decide) ?_
          refine aw_eW [.int 0] [] lX7_89 vX7_readGains mX7_readGains dX7_weighStates_99 (aX7_readGains (S := S) (sz := sz) (b0 := b0) (y0 := y0) (tt := tt) (su := su) (po := po) (tg := tg) (lf := lf) (be := be) (le := le) (re := re) (gg := g1) (bs := b2) (to := to) (st := 0) f84 f85 f86 f87 f88 f89 f90 f91 f92 f93 (by omega) (by omega)) f84 rfl rfl rfl (Nat.le_of_ble_eq_true rfl) (by decide) (by decide) rfl (fun h97 q96 => ?_)
          obtain ⟨f98, f99, f100, f101, f102, f103, f104, f105, f106, f107, k108⟩ := q96
          refine aw_aload_n 2 dX7_weighStates_102 rfl rfl ?_
          refine aw_aload_n 2 dX7_weighStates_103 rfl rfl ?_
          refine aw_iconst (0) dX7_weighStates_104 (by decide) ?_
          refine aw_iconst (0) dX7_weighStates_105 (by decide) ?_
          refine aw_dV [.int 0, .int 0] [.ref (G.1 + S)] lX7_92 vX7_weighState mX7_weighState dX7_weighStates_106 (aX7_weighState (S := S) (sz := sz) (b0 := b0) (y0 := y0) (tt := tt) (su := su) (po := po) (tg := tg) (lf := lf) (be := be) (le := le) (re := re) (gg := gaF le re lf sz 0 g1 sz) (bs := b2) (to := to) (st := 0) (la := 0) f98 f99 f100 f101 f102 f103 f104 f105 f106 f107 (by omega) (by omega) (by omega)) f98 rfl rfl rfl (Nat.le_of_ble_eq_true rfl) (by decide) (by decide) rfl ?_
          refine aw_putQ fX7_46 dX7_weighStates_109 (lSh G S (nI sz) tt (wsF (gaF le re lf sz 0 g1 sz) b2 be 0 0 sz) (nI b0) (nI y0)) f98 rfl rfl rfl (Nat.le_of_ble_eq_true rfl) rfl ?_
          subst hQF
          exact aw_vret rfl dX7_weighStates_112 (by decide) (by decide) ⟨rfl, _, _, _, (gs f98), (gn (by omega) (f99)), (gn (by omega) (f100)), (gn (by omega) (f101)), (gn (by omega) (f102)), (gn (by omega) (f103)), (gn (by omega) (f104)), (gn (by omega) (f105)), (gn (by omega) (f106)), (gn (by omega) (f107)), rng_set (rng_tr (k94) (rng_w k108 (by omega) (by omega))) (by omega) (by omega), by rw [hw2], by rw [hw2], rfl⟩
        · have d42 := mt (nv_le (a := w) (b := 0) (rfl) (rfl) (by omega) (by omega)).mpr c42
          refine aw_aload_n 2 dX7_weighStates_45 rfl rfl ?_
          refine aw_iload_n 0 dX7_weighStates_46 rfl rfl ?_
          refine aw_eW [.int (nI w)] [] lX7_89 vX7_readGains mX7_readGains dX7_weighStates_47 (aX7_readGains (S := S) (sz := sz) (b0 := b0) (y0 := y0) (tt := tt) (su := su) (po := po) (tg := tg) (lf := lf) (be := be) (le := le) (re := re) (gg := g1) (bs := b2) (to := to) (st := w) f84 f85 f86 f87 f88 f89 f90 f91 f92 f93 (by omega) (by omega)) f84 rfl rfl rfl (Nat.le_of_ble_eq_true rfl) (by decide) (by decide) rfl (fun h110 q109 => ?_)
          obtain ⟨f111, f112, f113, f114, f115, f116, f117, f118, f119, f120, k121⟩ := q109
          refine aw_iconst (0) dX7_weighStates_50 (by decide) ?_
          refine aw_istore_n [(3, .int 0), (2, .int (nI w)), (1, .int (nI (2 ^ sz - 1))), (0, .ref (G.1 + S))] dX7_weighStates_51 rfl (by decide) rfl ?_
          refine aw_lv [(3, .int 0), (2, .int (nI w)), (1, .int (nI (2 ^ sz - 1))), (0, .ref (G.1 + S))] [0, 1, 2, 3] rfl ?_
          suffices L134 : ∀ (mm : Nat) (q : Nat) (b3 : Nat → Int32) (h122 : List va_E), sz - q < mm → (q ≤ sz) → (b3 = wlF (gaF le re lf sz w g1 sz) be sz w b2 q) → h122[S]? = some (oB 7 (lSh G S (nI sz) tt su (nI b0) (nI y0))) → h122[S + 1]? = some (aI 8 tg) → h122[S + 2]? = some (aI 12 (nA po)) → h122[S + 3]? = some (aI 64 lf) → h122[S + 4]? = some (aI 64 be) → h122[S + 5]? = some (aI 8 le) → h122[S + 6]? = some (aI 8 re) → h122[S + 7]? = some (aI 8 (gaF le re lf sz w g1 sz)) → h122[S + 8]? = some (aI 2048 b3) → h122[S + 9]? = some (aI 8 to) → rng S (S + 9) h h122 → AW l G yX7_weighStates cX7_weighStates 4 none (xR 2 0 0) (fun _ _ => True) QF 0 0 52 [(3, .int (nI q)), (2, .int (nI w)), (1, .int (nI (2 ^ sz - 1))), (0, .ref (G.1 + S))] [] h122 from L134 (sz - 0 + 1) 0 b2 _ (Nat.lt_succ_self _) (Nat.zero_le _) (rfl) f111 f112 f113 f114 f115 f116 f117 f118 f119 f120 (rng_tr (k94) (rng_w k121 (by omega) (by omega)))
          intro mm
          induction mm with
          | zero =>
            intro q b3 h122 hmm hq hb f123 f124 f125 f126 f127 f128 f129 f130 f131 f132 k133
            exact absurd hmm (Nat.not_lt_zero _)
          | succ mm ih134 =>
            intro q b3 h122 hmm hq hb f123 f124 f125 f126 f127 f128 f129 f130 f131 f132 k133
            refine aw_iload_n 0 dX7_weighStates_52 rfl rfl ?_
            refine aw_aload_n 3 dX7_weighStates_53 rfl rfl ?_
            refine aw_get fX7_39 dX7_weighStates_54 f123 rfl ?_
            refine aw_icmp_ge 91 dX7_weighStates_57 (by decide) (fun c57 => ?_) (fun c57 => ?_)
            · have d57 := (nv_le (a := sz) (b := q) (rfl) (rfl) (by omega) (by omega)).mp c57
              refine aw_iinc (j := 1) (nI (w - 1)) [(2, .int (nI (w - 1))), (3, .int (nI q)), (1, .int (nI (2 ^ sz - 1))), (0, .ref (G.1 + S))] dX7_weighStates_91 rfl (nv_dm (rfl) (by omega)) (by decide) rfl ?_
              refine aw_goto 41 dX7_weighStates_94 (by decide) ?_
              refine aw_lv [(2, .int (nI (w - 1))), (1, .int (nI (2 ^ sz - 1))), (0, .ref (G.1 + S))] [0, 2, 3] rfl ?_
              exact ih95 (w - 1) (gaF le re lf sz w g1 sz) b3 _ (by omega) (by omega) (hw.trans (wt_s (by omega) (by rw [hb, show q = sz by omega]))) f123 f124 f125 f126 f127 f128 f129 f130 f131 f132 (k133)
            · have d57 := mt (nv_le (a := sz) (b := q) (rfl) (rfl) (by omega) (by omega)).mpr c57
              refine aw_iload_n 1 dX7_weighStates_60 rfl rfl ?_
              refine aw_iload_n 0 dX7_weighStates_61 rfl rfl ?_
              refine aw_ishr dX7_weighStates_62 ?_
              refine aw_iconst (1) dX7_weighStates_63 (by decide) ?_
              refine aw_iand dX7_weighStates_64 ?_
              refine aw_toe (if w.testBit q = true then 1 else 0) (nv_bit (rfl) (rfl) (by omega) (by omega)) ?_
              refine aw_if_eq 85 dX7_weighStates_65 (by decide) (fun c65 => ?_) (fun c65 => ?_)
              · have t65 := ite_0 c65
                refine aw_iinc (j := 0) (nI (q + 1)) [(3, .int (nI (q + 1))), (2, .int (nI w)), (1, .int (nI (2 ^ sz - 1))), (0, .ref (G.1 + S))] dX7_weighStates_85 rfl (nv_inc (rfl)) (by decide) rfl ?_
                refine aw_goto 52 dX7_weighStates_88 (by decide) ?_
                refine aw_lv [(3, .int (nI (q + 1))), (2, .int (nI w)), (1, .int (nI (2 ^ sz - 1))), (0, .ref (G.1 + S))] [0, 1, 2, 3] rfl ?_
                exact ih134 (q + 1) b3 _ (by omega) (by omega) (by simp only [wlF]; rw [if_neg t65]; exact hb) f123 f124 f125 f126 f127 f128 f129 f130 f131 f132 (k133)
              · have t65 := ite_1 c65
                refine aw_aload_n 3 dX7_weighStates_68 rfl rfl ?_
                refine aw_get fX7_33 dX7_weighStates_69 f123 rfl ?_
                refine aw_iload_n 1 dX7_weighStates_72 rfl rfl ?_
                refine aw_bipush (8) dX7_weighStates_73 (by decide) ?_
                refine aw_imul dX7_weighStates_75 ?_
                refine aw_iload_n 0 dX7_weighStates_76 rfl rfl ?_
                refine aw_iadd dX7_weighStates_77 ?_
                refine aw_aload_n 3 dX7_weighStates_78 rfl rfl ?_
                refine aw_iload_n 1 dX7_weighStates_79 rfl rfl ?_
                refine aw_iload_n 0 dX7_weighStates_80 rfl rfl ?_
                refine aw_dV [.int (nI w), .int (nI q)] [.int (((nI w) * 8) + (nI q)), .ref (G.1 + (S + 8))] lX7_92 vX7_weighState mX7_weighState dX7_weighStates_81 (aX7_weighState (S := S) (sz := sz) (b0 := b0) (y0 := y0) (tt := tt) (su := su) (po := po) (tg := tg) (lf := lf) (be := be) (le := le) (re := re) (gg := gaF le re lf sz w g1 sz) (bs := b3) (to := to) (st := w) (la := q) f123 f124 f125 f126 f127 f128 f129 f130 f131 f132 (by omega) (by omega) (by omega)) f123 rfl rfl rfl (Nat.le_of_ble_eq_true rfl) (by decide) (by decide) rfl ?_
                refine aw_iast ((w * 8) + q) (nv_add (nv_mul (rfl) (rfl)) (rfl)) (by omega) (by decide) dX7_weighStates_84 f131 ?_
                refine aw_iinc (j := 0) (nI (q + 1)) [(3, .int (nI (q + 1))), (2, .int (nI w)), (1, .int (nI (2 ^ sz - 1))), (0, .ref (G.1 + S))] dX7_weighStates_85 rfl (nv_inc (rfl)) (by decide) rfl ?_
                refine aw_goto 52 dX7_weighStates_88 (by decide) ?_
                refine aw_lv [(3, .int (nI (q + 1))), (2, .int (nI w)), (1, .int (nI (2 ^ sz - 1))), (0, .ref (G.1 + S))] [0, 1, 2, 3] rfl ?_
                exact ih134 (q + 1) (upd b3 ((w * 8) + q) (wsF (gaF le re lf sz w g1 sz) b3 be w q sz)) _ (by omega) (by omega) (by simp only [wlF]; rw [if_pos t65, ← hb]) (gn (by omega) (f123)) (gn (by omega) (f124)) (gn (by omega) (f125)) (gn (by omega) (f126)) (gn (by omega) (f127)) (gn (by omega) (f128)) (gn (by omega) (f129)) (gn (by omega) (f130)) (gs f131) (gn (by omega) (f132)) (rng_set (k133) (by omega) (by omega))
    · have d16 := mt (nv_le (a := sz) (b := i) (rfl) (rfl) (by omega) (by omega)).mpr c16
      refine aw_aload_n 2 dX7_weighStates_19 rfl rfl ?_
      refine aw_get fX7_33 dX7_weighStates_20 f71 rfl ?_
      refine aw_iload_n 1 dX7_weighStates_23 rfl rfl ?_
      refine aw_bipush (8) dX7_weighStates_24 (by decide) ?_
      refine aw_imul dX7_weighStates_26 ?_
      refine aw_iload_n 0 dX7_weighStates_27 rfl rfl ?_
      refine aw_iadd dX7_weighStates_28 ?_
      refine aw_iconst (0) dX7_weighStates_29 (by decide) ?_
      refine aw_iast (((2 ^ sz - 1) * 8) + i) (nv_add (nv_mul (rfl) (rfl)) (rfl)) (by omega) (by decide) dX7_weighStates_30 f79 ?_
      refine aw_iinc (j := 0) (nI (i + 1)) [(2, .int (nI (i + 1))), (1, .int (nI (2 ^ sz - 1))), (0, .ref (G.1 + S))] dX7_weighStates_31 rfl (nv_inc (rfl)) (by decide) rfl ?_
      refine aw_goto 11 dX7_weighStates_34 (by decide) ?_
      refine aw_lv [(2, .int (nI (i + 1))), (1, .int (nI (2 ^ sz - 1))), (0, .ref (G.1 + S))] [0, 1, 2] rfl ?_
      exact ih82 (i + 1) (upd b1 (((2 ^ sz - 1) * 8) + i) 0) _ (by omega) (by omega) (by simp only [wzF]; rw [← hz]) (gn (by omega) (f71)) (gn (by omega) (f72)) (gn (by omega) (f73)) (gn (by omega) (f74)) (gn (by omega) (f75)) (gn (by omega) (f76)) (gn (by omega) (f77)) (gn (by omega) (f78)) (gs f79) (gn (by omega) (f80)) (rng_set (k81) (by omega) (by omega))
theorem rtF_len {st : Nat} {tg : Nat → Int32} {po : Nat → Nat} : ∀ a, (rtF st tg po a).1 = min 8 (thL st a).length := by
  intro a
  induction a with
  | zero => rfl
  | succ a ih =>
    rw [rtF_s]
    cases h : st.testBit a
    · rw [if_neg (fun q => by simp at q), thL_f h, ih]
    · rw [thL_t h]
      by_cases c : (rtF st tg po a).1 < 8
      · rw [if_pos ⟨rfl, c⟩]; simp; omega
      · rw [if_neg (fun q => c q.2)]; simp; omega
theorem rtF_pos {st : Nat} {tg : Nat → Int32} {po : Nat → Nat} (h : st < 4096) (h0 : st ≠ 0) : 0 < (rtF st tg po 12).1 := by
  rw [rtF_len, ← popL]; have := pop_pos h h0; omega
set_option maxHeartbeats 4000000 in
theorem aX7_tellRow {l : Launch} {G : xG} {h : List va_E} {S sz b0 y0 : Nat} {tt su : Int32} {po : Nat → Nat} {tg lf be le re gg bs to : Nat → Int32} (hS : h[S]? = some (oB 7 (lSh G S (nI sz) tt su (nI b0) (nI y0)))) (hS_1 : h[S + 1]? = some (aI 8 tg)) (hS_2 : h[S + 2]? = some (aI 12 (nA po))) (hS_3 : h[S + 3]? = some (aI 64 lf)) (hS_4 : h[S + 4]? = some (aI 64 be)) (hS_5 : h[S + 5]? = some (aI 8 le)) (hS_6 : h[S + 6]? = some (aI 8 re)) (hS_7 : h[S + 7]? = some (aI 8 gg)) (hS_8 : h[S + 8]? = some (aI 2048 bs)) (hS_9 : h[S + 9]? = some (aI 8 to)) (hsz : sz ≤ 8) (h0 : 0 < sz) : CE l G yX7_tellRow cX7_tellRow 5 none 3 0 0 [.ref (G.1 + S)] h none (fun h1 => ∃ gg1 : Nat → Int32, ∃ to1 : Nat → Int32, h1[S]? = some (oB 7 (lSh G S (nI sz) tt su (nI b0) (nI y0))) ∧ h1[S + 1]? = some (aI 8 tg) ∧ h1[S + 2]? = some (aI 12 (nA po)) ∧ h1[S + 3]? = some (aI 64 lf) ∧ h1[S + 4]? = some (aI 64 be) ∧ h1[S + 5]? = some (aI 8 le) ∧ h1[S + 6]? = some (aI 8 re) ∧ h1[S + 7]? = some (aI 8 gg1) ∧ h1[S + 8]? = some (aI 2048 bs) ∧ h1[S + 9]? = some (aI 8 to1) ∧ rng S (S + 9) h h1 ∧ to1 = (trF le re lf be bs tg sz gg to sz).2.2.2) := by
  refine cm_ofQ rfl (Nat.le_of_ble_eq_true rfl) [(0, .ref (G.1 + S))] rfl (fun QF hQF => ?_)
  refine aw_iconst (0) dX7_tellRow_0 (by decide) ?_
  refine aw_istore_n [(1, .int 0), (0, .ref (G.1 + S))] dX7_tellRow_1 rfl (by decide) rfl ?_
  refine aw_iconst (0) dX7_tellRow_2 (by decide) ?_
  refine aw_istore_n [(2, .int 0), (1, .int 0), (0, .ref (G.1 + S))] dX7_tellRow_3 rfl (by decide) rfl ?_
  refine aw_iconst (0) dX7_tellRow_4 (by decide) ?_
  refine aw_istore_n [(3, .int 0), (2, .int 0), (1, .int 0), (0, .ref (G.1 + S))] dX7_tellRow_5 rfl (by decide) rfl ?_
  refine aw_lv [(3, .int 0), (2, .int 0), (1, .int 0), (0, .ref (G.1 + S))] [0, 1, 2, 3] rfl ?_
  suffices L147 : ∀ (mm : Nat) (a : Nat) (st : Nat) (la : Nat) (g1 : Nat → Int32) (t1 : Nat → Int32) (h135 : List va_E), sz - a < mm → (a ≤ sz) → ((st, la, g1, t1) = trF le re lf be bs tg sz gg to a) → h135[S]? = some (oB 7 (lSh G S (nI sz) tt su (nI b0) (nI y0))) → h135[S + 1]? = some (aI 8 tg) → h135[S + 2]? = some (aI 12 (nA po)) → h135[S + 3]? = some (aI 64 lf) → h135[S + 4]? = some (aI 64 be) → h135[S + 5]? = some (aI 8 le) → h135[S + 6]? = some (aI 8 re) → h135[S + 7]? = some (aI 8 g1) → h135[S + 8]? = some (aI 2048 bs) → h135[S + 9]? = some (aI 8 t1) → rng S (S + 9) h h135 → AW l G yX7_tellRow cX7_tellRow 5 none (xR 3 0 0) (fun _ _ => True) QF 0 0 6 [(3, .int (nI a)), (2, .int (nI la)), (1, .int (nI st)), (0, .ref (G.1 + S))] [] h135 from L147 (sz - 0 + 1) 0 0 0 gg to _ (Nat.lt_succ_self _) (Nat.zero_le _) (rfl) hS hS_1 hS_2 hS_3 hS_4 hS_5 hS_6 hS_7 hS_8 hS_9 (rng_rf S (S + 9) h)
  intro mm
  induction mm with
  | zero =>
    intro a st la g1 t1 h135 hmm ha hq f136 f137 f138 f139 f140 f141 f142 f143 f144 f145 k146
    exact absurd hmm (Nat.not_lt_zero _)
  | succ mm ih147 =>
    intro a st la g1 t1 h135 hmm ha hq f136 f137 f138 f139 f140 f141 f142 f143 f144 f145 k146
    have b9 := trF_ok (le := le) (re := re) (lf := lf) (be := be) (bs := bs) (tg := tg) (gn := gg) (to := to) hsz h0 a
    rw [← hq] at b9
    have b8 := b9.1
    have b7 := b9.2
    dsimp only at b7 b8
    refine aw_iload_n 0 dX7_tellRow_6 rfl rfl ?_
    refine aw_aload_n 3 dX7_tellRow_7 rfl rfl ?_
    refine aw_get fX7_39 dX7_tellRow_8 f136 rfl ?_
    refine aw_icmp_ge 56 dX7_tellRow_11 (by decide) (fun c11 => ?_) (fun c11 => ?_)
    · have d11 := (nv_le (a := sz) (b := a) (rfl) (rfl) (by omega) (by omega)).mp c11
      subst hQF
      exact aw_vret rfl dX7_tellRow_56 (by decide) (by decide) ⟨rfl, _, _, f136, f137, f138, f139, f140, f141, f142, f143, f144, f145, k146, by rw [(by omega : a = sz)] at hq; rw [← hq]⟩
    · have d11 := mt (nv_le (a := sz) (b := a) (rfl) (rfl) (by omega) (by omega)).mpr c11
      refine aw_aload_n 3 dX7_tellRow_14 rfl rfl ?_
      refine aw_iload_n 2 dX7_tellRow_15 rfl rfl ?_
      refine aw_eW [.int (nI st)] [] lX7_89 vX7_readGains mX7_readGains dX7_tellRow_16 (aX7_readGains (S := S) (sz := sz) (b0 := b0) (y0 := y0) (tt := tt) (su := su) (po := po) (tg := tg) (lf := lf) (be := be) (le := le) (re := re) (gg := g1) (bs := bs) (to := t1) (st := st) f136 f137 f138 f139 f140 f141 f142 f143 f144 f145 (by omega) (by omega)) f136 rfl rfl rfl (Nat.le_of_ble_eq_true rfl) (by decide) (by decide) rfl (fun h149 q148 => ?_)
      obtain ⟨f150, f151, f152, f153, f154, f155, f156, f157, f158, f159, k160⟩ := q148
      refine aw_aload_n 3 dX7_tellRow_19 rfl rfl ?_
      refine aw_iload_n 2 dX7_tellRow_20 rfl rfl ?_
      refine aw_iload_n 1 dX7_tellRow_21 rfl rfl ?_
      refine aw_dV [.int (nI st), .int (nI la)] [] lX7_105 vX7_firstBest mX7_firstBest dX7_tellRow_22 (aX7_firstBest (S := S) (sz := sz) (b0 := b0) (y0 := y0) (tt := tt) (su := su) (po := po) (tg := tg) (lf := lf) (be := be) (le := le) (re := re) (gg := gaF le re lf sz st g1 sz) (bs := bs) (to := t1) (st := st) (la := la) f150 f151 f152 f153 f154 f155 f156 f157 f158 f159 (by omega) (by omega) (by omega)) f150 rfl rfl rfl (Nat.le_of_ble_eq_true rfl) (by decide) (by decide) rfl ?_
      obtain ⟨kk, ek⟩ : ∃ x, x = fbF (gaF le re lf sz st g1 sz) bs be st la (wsF (gaF le re lf sz st g1 sz) bs be st la sz) sz 0 := ⟨_, rfl⟩
      have bkk : kk < 8 := by have q := fbF_lt (gn := gaF le re lf sz st g1 sz) (bs := bs) (be := be) (st := st) (la := la) (mo := wsF (gaF le re lf sz st g1 sz) bs be st la sz) sz 0; rw [← ek] at q; omega
      refine aw_toe (nI kk) (by rw [ek]) ?_
      refine aw_istore [(4, .int (nI kk)), (3, .int (nI a)), (2, .int (nI la)), (1, .int (nI st)), (0, .ref (G.1 + S))] dX7_tellRow_25 (by decide) rfl ?_
      refine aw_aload_n 4 dX7_tellRow_27 rfl rfl ?_
      refine aw_get fX7_36 dX7_tellRow_28 f150 rfl ?_
      refine aw_iload_n 1 dX7_tellRow_31 rfl rfl ?_
      refine aw_aload_n 4 dX7_tellRow_32 rfl rfl ?_
      refine aw_get fX7_9 dX7_tellRow_33 f150 rfl ?_
      refine aw_iload 0 dX7_tellRow_36 rfl ?_
      refine aw_iald kk (rfl) (by omega) (by decide) dX7_tellRow_38 f151 ?_
      refine aw_iast a (rfl) (by omega) (by decide) dX7_tellRow_39 f159 ?_
      refine aw_iload_n 3 dX7_tellRow_40 rfl rfl ?_
      refine aw_iconst (1) dX7_tellRow_41 (by decide) ?_
      refine aw_iload 0 dX7_tellRow_42 rfl ?_
      refine aw_ishl dX7_tellRow_44 ?_
      refine aw_toe (nI (2 ^ kk)) (nv_shl1 (rfl) (by omega)) ?_
      refine aw_ior dX7_tellRow_45 ?_
      refine aw_toe (nI (st ||| (2 ^ kk))) (nv_or (rfl) (rfl)) ?_
      refine aw_istore_n [(1, .int (nI (st ||| (2 ^ kk)))), (4, .int (nI kk)), (3, .int (nI a)), (2, .int (nI la)), (0, .ref (G.1 + S))] dX7_tellRow_46 rfl (by decide) rfl ?_
      refine aw_iload 1 dX7_tellRow_47 rfl ?_
      refine aw_istore_n [(2, .int (nI kk)), (1, .int (nI (st ||| (2 ^ kk)))), (4, .int (nI kk)), (3, .int (nI a)), (0, .ref (G.1 + S))] dX7_tellRow_49 rfl (by decide) rfl ?_
      refine aw_iinc (j := 3) (nI (a + 1)) [(3, .int (nI (a + 1))), (2, .int (nI kk)), (1, .int (nI (st ||| (2 ^ kk)))), (4, .int (nI kk)), (0, .ref (G.1 + S))] dX7_tellRow_50 rfl (nv_inc (rfl)) (by decide) rfl ?_
      refine aw_goto 6 dX7_tellRow_53 (by decide) ?_
      refine aw_lv [(3, .int (nI (a + 1))), (2, .int (nI kk)), (1, .int (nI (st ||| (2 ^ kk)))), (0, .ref (G.1 + S))] [0, 1, 2, 4] rfl ?_
      exact ih147 (a + 1) (st ||| (2 ^ kk)) kk (gaF le re lf sz st g1 sz) (upd t1 a (tg kk)) _ (by omega) (by omega) (by simp only [trF]; rw [← hq]; dsimp only; rw [← ek]) (gn (by omega) (f150)) (gn (by omega) (f151)) (gn (by omega) (f152)) (gn (by omega) (f153)) (gn (by omega) (f154)) (gn (by omega) (f155)) (gn (by omega) (f156)) (gn (by omega) (f157)) (gn (by omega) (f158)) (gs f159) (rng_set (rng_tr (k146) (rng_w k160 (by omega) (by omega))) (by omega) (by omega))
set_option maxHeartbeats 4000000 in
theorem aX7_rebuild_h {l : Launch} {G : xG} {h : List va_E} {S sz b0 y0 : Nat} {tt su : Int32} {po : Nat → Nat} {tg lf be le re gg bs to : Nat → Int32} {so x y tr : Nat → Nat} {n st : Nat} (hS : h[S]? = some (oB 7 (lSh G S (nI sz) tt su (nI b0) (nI y0)))) (hS_1 : h[S + 1]? = some (aI 8 tg)) (hS_2 : h[S + 2]? = some (aI 12 (nA po))) (hS_3 : h[S + 3]? = some (aI 64 lf)) (hS_4 : h[S + 4]? = some (aI 64 be)) (hS_5 : h[S + 5]? = some (aI 8 le)) (hS_6 : h[S + 6]? = some (aI 8 re)) (hS_7 : h[S + 7]? = some (aI 8 gg)) (hS_8 : h[S + 8]? = some (aI 2048 bs)) (hS_9 : h[S + 9]? = some (aI 8 to)) (h79 : h[79]? = some (oB 6 (lS G (nI n)))) (h80 : h[80]? = some (aI 40 (nA so))) (h81 : h[81]? = some (aI 40 (nA x))) (h82 : h[82]? = some (aI 40 (nA y))) (h83 : h[83]? = some (aI 40 (nA tr))) (bst : st < 4096) (hst : st ≠ 0) (hpo : ∀ j, j < 12 → po j < 8) (bb0 : b0 < 4096) (by0 : y0 ≤ 40) (hS1 : 125 ≤ S) (hn : n ≤ 40) (bso : ∀ j, j < 40 → so j < 4) (bx : ∀ j, j < 40 → x j < 12) (by_ : ∀ j, j < 40 → y j < 12) (hb : b0 = st ∧ y0 = n) : CD l G yX7_rebuild cX7_rebuild 4 none 0 0 0 [.ref (G.1 + S), .int (nI st), .ref (G.1 + 79)] h none h := by
  refine cm_ofQ rfl (Nat.le_of_ble_eq_true rfl) [(0, .ref (G.1 + S)), (1, .int (nI st)), (2, .ref (G.1 + 79))] rfl (fun QF hQF => ?_)
  refine aw_iload_n 1 dX7_rebuild_0 rfl rfl ?_
  refine aw_aload_n 0 dX7_rebuild_1 rfl rfl ?_
  refine aw_get fX7_49 dX7_rebuild_2 hS rfl ?_
  refine aw_icmp_ne 20 dX7_rebuild_5 (by decide) (fun c5 => absurd (by rw [hb.1]) c5) (fun c5 => ?_)
  refine aw_aload_n 2 dX7_rebuild_8 rfl rfl ?_
  refine aw_get fX7_55 dX7_rebuild_9 h79 rfl ?_
  refine aw_aload_n 0 dX7_rebuild_12 rfl rfl ?_
  refine aw_get fX7_52 dX7_rebuild_13 hS rfl ?_
  refine aw_icmp_ne 20 dX7_rebuild_16 (by decide) (fun c16 => absurd (by rw [hb.2]) c16) (fun c16 => ?_)
  subst hQF
  exact aw_vret rfl dX7_rebuild_19 (by decide) (by decide) ⟨rfl, rfl⟩
set_option maxHeartbeats 4000000 in
theorem aX7_rebuild_m {l : Launch} {G : xG} {h : List va_E} {S sz b0 y0 : Nat} {tt su : Int32} {po : Nat → Nat} {tg lf be le re gg bs to : Nat → Int32} {so x y tr : Nat → Nat} {n st : Nat} (hS : h[S]? = some (oB 7 (lSh G S (nI sz) tt su (nI b0) (nI y0)))) (hS_1 : h[S + 1]? = some (aI 8 tg)) (hS_2 : h[S + 2]? = some (aI 12 (nA po))) (hS_3 : h[S + 3]? = some (aI 64 lf)) (hS_4 : h[S + 4]? = some (aI 64 be)) (hS_5 : h[S + 5]? = some (aI 8 le)) (hS_6 : h[S + 6]? = some (aI 8 re)) (hS_7 : h[S + 7]? = some (aI 8 gg)) (hS_8 : h[S + 8]? = some (aI 2048 bs)) (hS_9 : h[S + 9]? = some (aI 8 to)) (h79 : h[79]? = some (oB 6 (lS G (nI n)))) (h80 : h[80]? = some (aI 40 (nA so))) (h81 : h[81]? = some (aI 40 (nA x))) (h82 : h[82]? = some (aI 40 (nA y))) (h83 : h[83]? = some (aI 40 (nA tr))) (bst : st < 4096) (hst : st ≠ 0) (hpo : ∀ j, j < 12 → po j < 8) (bb0 : b0 < 4096) (by0 : y0 ≤ 40) (hS1 : 125 ≤ S) (hn : n ≤ 40) (bso : ∀ j, j < 40 → so j < 4) (bx : ∀ j, j < 40 → x j < 12) (by_ : ∀ j, j < 40 → y j < 12) (hb : ¬ (b0 = st ∧ y0 = n)) : CE l G yX7_rebuild cX7_rebuild 4 none 4 0 0 [.ref (G.1 + S), .int (nI st), .ref (G.1 + 79)] h none (fun h1 => ∃ sz1 : Nat, ∃ tt1 : Int32, ∃ su1 : Int32, ∃ po1 : Nat → Nat, ∃ tg1 : Nat → Int32, ∃ lf0 : Nat → Int32, ∃ be0 : Nat → Int32, ∃ le0 : Nat → Int32, ∃ re0 : Nat → Int32, ∃ T1 : trT, ∃ gg1 : Nat → Int32, ∃ gg2 : Nat → Int32, ∃ bs1 : Nat → Int32, ∃ to1 : Nat → Int32, h1[S]? = some (oB 7 (lSh G S (nI sz1) tt1 su1 (nI st) (nI n))) ∧ h1[S + 1]? = some (aI 8 tg1) ∧ h1[S + 2]? = some (aI 12 (nA po1)) ∧ h1[S + 3]? = some (aI 64 T1.1) ∧ h1[S + 4]? = some (aI 64 T1.2.1) ∧ h1[S + 5]? = some (aI 8 T1.2.2.1) ∧ h1[S + 6]? = some (aI 8 T1.2.2.2) ∧ h1[S + 7]? = some (aI 8 gg2) ∧ h1[S + 8]? = some (aI 2048 bs1) ∧ h1[S + 9]? = some (aI 8 to1) ∧ rng S (S + 9) h h1 ∧ (sz1, tg1, po1) = rtF st tg po 12 ∧ (∀ j, j < 64 → lf0 j = 0 ∧ be0 j = 0) ∧ (∀ j, j < 8 → le0 j = 0 ∧ re0 j = 0) ∧ (tt1, T1) = twF st so x y tr po1 (lf0, be0, le0, re0) n ∧ bs1 = (wtF T1.2.2.1 T1.2.2.2 T1.1 T1.2.1 sz1 (2 ^ sz1 - 1 - 1) (wzF (2 ^ sz1 - 1) bs sz1, gg)).1 ∧ gg1 = gaF T1.2.2.1 T1.2.2.2 T1.1 sz1 0 (wtF T1.2.2.1 T1.2.2.2 T1.1 T1.2.1 sz1 (2 ^ sz1 - 1 - 1) (wzF (2 ^ sz1 - 1) bs sz1, gg)).2 sz1 ∧ su1 = wsF gg1 bs1 T1.2.1 0 0 sz1 ∧ to1 = (trF T1.2.2.1 T1.2.2.2 T1.1 T1.2.1 bs1 tg1 sz1 gg1 to sz1).2.2.2) := by
  refine cm_ofQ rfl (Nat.le_of_ble_eq_true rfl) [(0, .ref (G.1 + S)), (1, .int (nI st)), (2, .ref (G.1 + 79))] rfl (fun QF hQF => ?_)
  refine aw_iload_n 1 dX7_rebuild_0 rfl rfl ?_
  refine aw_aload_n 0 dX7_rebuild_1 rfl rfl ?_
  refine aw_get fX7_49 dX7_rebuild_2 hS rfl ?_
  refine aw_icmp_ne 20 dX7_rebuild_5 (by decide) (fun c5 => ?_) (fun c5 => ?_)
  · have d5 := mt (nv_eq (a := st) (b := b0) (rfl) (rfl) (by omega) (by omega)).mpr c5
    refine aw_aload_n 0 dX7_rebuild_20 rfl rfl ?_
    refine aw_iload_n 1 dX7_rebuild_21 rfl rfl ?_
    refine aw_putQ fX7_49 dX7_rebuild_22 (lSh G S (nI sz) tt su (nI st) (nI y0)) hS rfl rfl rfl (Nat.le_of_ble_eq_true rfl) rfl ?_
    refine aw_aload_n 0 dX7_rebuild_25 rfl rfl ?_
    refine aw_aload_n 2 dX7_rebuild_26 rfl rfl ?_
    refine aw_get fX7_55 dX7_rebuild_27 (gn (by omega) (h79)) rfl ?_
    refine aw_putQ fX7_52 dX7_rebuild_30 (lSh G S (nI sz) tt su (nI st) (nI n)) (gs hS) rfl rfl rfl (Nat.le_of_ble_eq_true rfl) rfl ?_
    refine aw_aload_n 0 dX7_rebuild_33 rfl rfl ?_
    refine aw_iload_n 1 dX7_rebuild_34 rfl rfl ?_
    refine aw_eW [.int (nI st)] [] lX7_60 vX7_readThings mX7_readThings dX7_rebuild_35 (aX7_readThings (S := S) (sz := sz) (b0 := st) (y0 := n) (tt := tt) (su := su) (po := po) (tg := tg) (lf := lf) (be := be) (le := le) (re := re) (gg := gg) (bs := bs) (to := to) (st := st) (gs (gs hS)) (gn (by omega) (gn (by omega) (hS_1))) (gn (by omega) (gn (by omega) (hS_2))) (gn (by omega) (gn (by omega) (hS_3))) (gn (by omega) (gn (by omega) (hS_4))) (gn (by omega) (gn (by omega) (hS_5))) (gn (by omega) (gn (by omega) (hS_6))) (gn (by omega) (gn (by omega) (hS_7))) (gn (by omega) (gn (by omega) (hS_8))) (gn (by omega) (gn (by omega) (hS_9))) hpo (by omega)) (gs (gs hS)) rfl rfl rfl (Nat.le_of_ble_eq_true rfl) (by decide) (by decide) rfl (fun h165 q164 => ?_)
    obtain ⟨sz1161, tg1162, po1163, f166, f167, f168, f169, f170, f171, f172, f173, f174, f175, k176, p177⟩ := q164
    have f178 := rng_at k176 (by omega) (gn (by omega) (gn (by omega) (h79)))
    have f179 := rng_at k176 (by omega) (gn (by omega) (gn (by omega) (h80)))
    have f180 := rng_at k176 (by omega) (gn (by omega) (gn (by omega) (h81)))
    have f181 := rng_at k176 (by omega) (gn (by omega) (gn (by omega) (h82)))
    have f182 := rng_at k176 (by omega) (gn (by omega) (gn (by omega) (h83)))
    refine aw_aload_n 0 dX7_rebuild_38 rfl rfl ?_
    refine aw_eW [] [] lX7_64 vX7_clearTrust mX7_clearTrust dX7_rebuild_39 (aX7_clearTrust (S := S) (sz := sz1161) (b0 := st) (y0 := n) (tt := tt) (su := su) (po := po1163) (tg := tg1162) (lf := lf) (be := be) (le := le) (re := re) (gg := gg) (bs := bs) (to := to) f166 f167 f168 f169 f170 f171 f172 f173 f174 f175) f166 rfl rfl rfl (Nat.le_of_ble_eq_true rfl) (by decide) (by decide) rfl (fun h188 q187 => ?_)
    obtain ⟨lf1183, be1184, le1185, re1186, f189, f190, f191, f192, f193, f194, f195, f196, f197, f198, k199, p200, p201⟩ := q187
    have f202 := rng_at k199 (by omega) f178
    have f203 := rng_at k199 (by omega) f179
    have f204 := rng_at k199 (by omega) f180
    have f205 := rng_at k199 (by omega) f181
    have f206 := rng_at k199 (by omega) f182
    refine aw_aload_n 0 dX7_rebuild_42 rfl rfl ?_
    refine aw_iconst (0) dX7_rebuild_43 (by decide) ?_
    refine aw_putQ fX7_43 dX7_rebuild_44 (lSh G S (nI sz1161) 0 su (nI st) (nI n)) f189 rfl rfl rfl (Nat.le_of_ble_eq_true rfl) rfl ?_
    refine aw_iconst (0) dX7_rebuild_47 (by decide) ?_
    refine aw_istore_n [(3, .int 0), (0, .ref (G.1 + S)), (1, .int (nI st)), (2, .ref (G.1 + 79))] dX7_rebuild_48 rfl (by decide) rfl ?_
    have hpo1 := (rtF_ok (st := st) (tg := tg) hpo 12).2
    rw [← p177] at hpo1
    dsimp only at hpo1
    refine aw_lv [(3, .int 0), (2, .ref (G.1 + 79)), (1, .int (nI st)), (0, .ref (G.1 + S))] [0, 3, 2, 1] rfl ?_
    suffices L224 : ∀ (mm : Nat) (i : Nat) (t0 : Int32) (T : trT) (h207 : List va_E), n - i < mm → (i ≤ n) → ((t0, T) = twF st so x y tr po1163 (lf1183, be1184, le1185, re1186) i) → h207[S]? = some (oB 7 (lSh G S (nI sz1161) t0 su (nI st) (nI n))) → h207[S + 1]? = some (aI 8 tg1162) → h207[S + 2]? = some (aI 12 (nA po1163)) → h207[S + 3]? = some (aI 64 T.1) → h207[S + 4]? = some (aI 64 T.2.1) → h207[S + 5]? = some (aI 8 T.2.2.1) → h207[S + 6]? = some (aI 8 T.2.2.2) → h207[S + 7]? = some (aI 8 gg) → h207[S + 8]? = some (aI 2048 bs) → h207[S + 9]? = some (aI 8 to) → h207[79]? = some (oB 6 (lS G (nI n))) → h207[80]? = some (aI 40 (nA so)) → h207[81]? = some (aI 40 (nA x)) → h207[82]? = some (aI 40 (nA y)) → h207[83]? = some (aI 40 (nA tr)) → rng S (S + 9) h h207 → AW l G yX7_rebuild cX7_rebuild 4 none (xR 4 0 0) (fun _ _ => True) QF 0 0 49 [(3, .int (nI i)), (2, .ref (G.1 + 79)), (1, .int (nI st)), (0, .ref (G.1 + S))] [] h207 from L224 (n - 0 + 1) 0 0 (lf1183, be1184, le1185, re1186) _ (Nat.lt_succ_self _) (Nat.zero_le _) (rfl) (gs f189) (gn (by omega) (f190)) (gn (by omega) (f191)) (gn (by omega) (f192)) (gn (by omega) (f193)) (gn (by omega) (f194)) (gn (by omega) (f195)) (gn (by omega) (f196)) (gn (by omega) (f197)) (gn (by omega) (f198)) (gn (by omega) (f202)) (gn (by omega) (f203)) (gn (by omega) (f204)) (gn (by omega) (f205)) (gn (by omega) (f206)) (rng_set (rng_tr (rng_tr (rng_set (rng_set (rng_rf S (S + 9) h) (by omega) (by omega)) (by omega) (by omega)) (rng_w k176 (by omega) (by omega))) (rng_w k199 (by omega) (by omega))) (by omega) (by omega))
    intro mm
    induction mm with
    | zero =>
      intro i t0 T h207 hmm hi hT f208 f209 f210 f211 f212 f213 f214 f215 f216 f217 f218 f219 f220 f221 f222 k223
      exact absurd hmm (Nat.not_lt_zero _)
    | succ mm ih224 =>
      intro i t0 T h207 hmm hi hT f208 f209 f210 f211 f212 f213 f214 f215 f216 f217 f218 f219 f220 f221 f222 k223
      refine aw_iload_n 0 dX7_rebuild_49 rfl rfl ?_
      refine aw_aload_n 1 dX7_rebuild_50 rfl rfl ?_
      refine aw_get fX7_55 dX7_rebuild_51 f218 rfl ?_
      refine aw_icmp_ge 142 dX7_rebuild_54 (by decide) (fun c54 => ?_) (fun c54 => ?_)
      · have d54 := (nv_le (a := n) (b := i) (rfl) (rfl) (by omega) (by omega)).mp c54
        have hsz9 := (rtF_ok (st := st) (tg := tg) hpo 12).1
        rw [← p177] at hsz9
        dsimp only at hsz9
        have hsz8 := rtF_pos (tg := tg) (po := po) bst hst
        rw [← p177] at hsz8
        dsimp only at hsz8
        refine aw_aload_n 3 dX7_rebuild_142 rfl rfl ?_
        refine aw_eW [] [] lX7_83 vX7_weighStates mX7_weighStates dX7_rebuild_143 (aX7_weighStates (S := S) (sz := sz1161) (b0 := st) (y0 := n) (tt := t0) (su := su) (po := po1163) (tg := tg1162) (lf := T.1) (be := T.2.1) (le := T.2.2.1) (re := T.2.2.2) (gg := gg) (bs := bs) (to := to) f208 f209 f210 f211 f212 f213 f214 f215 f216 f217 hsz9 hsz8) f208 rfl rfl rfl (Nat.le_of_ble_eq_true rfl) (by decide) (by decide) rfl (fun h229 q228 => ?_)
        obtain ⟨su1225, gg1226, bs1227, f230, f231, f232, f233, f234, f235, f236, f237, f238, f239, k240, p241, p242, p243⟩ := q228
        have f244 := rng_at k240 (by omega) f218
        have f245 := rng_at k240 (by omega) f219
        have f246 := rng_at k240 (by omega) f220
        have f247 := rng_at k240 (by omega) f221
        have f248 := rng_at k240 (by omega) f222
        refine aw_aload_n 3 dX7_rebuild_146 rfl rfl ?_
        refine aw_eW [] [] lX7_86 vX7_tellRow mX7_tellRow dX7_rebuild_147 (aX7_tellRow (S := S) (sz := sz1161) (b0 := st) (y0 := n) (tt := t0) (su := su1225) (po := po1163) (tg := tg1162) (lf := T.1) (be := T.2.1) (le := T.2.2.1) (re := T.2.2.2) (gg := gg1226) (bs := bs1227) (to := to) f230 f231 f232 f233 f234 f235 f236 f237 f238 f239 hsz9 hsz8) f230 rfl rfl rfl (Nat.le_of_ble_eq_true rfl) (by decide) (by decide) rfl (fun h252 q251 => ?_)
        obtain ⟨gg1249, to1250, f253, f254, f255, f256, f257, f258, f259, f260, f261, f262, k263, p264⟩ := q251
        have f265 := rng_at k263 (by omega) f244
        have f266 := rng_at k263 (by omega) f245
        have f267 := rng_at k263 (by omega) f246
        have f268 := rng_at k263 (by omega) f247
        have f269 := rng_at k263 (by omega) f248
        subst hQF
        exact aw_vret rfl dX7_rebuild_150 (by decide) (by decide) ⟨rfl, _, _, _, _, _, _, _, _, _, _, _, _, _, _, f253, f254, f255, f256, f257, f258, f259, f260, f261, f262, rng_tr (rng_tr (k223) (rng_w k240 (by omega) (by omega))) (rng_w k263 (by omega) (by omega)), p177, p200, p201, by rw [show n = i by omega]; exact hT, p241, p242, p243, p264⟩
      · have d54 := mt (nv_le (a := n) (b := i) (rfl) (rfl) (by omega) (by omega)).mpr c54
        refine aw_iload_n 2 dX7_rebuild_57 rfl rfl ?_
        refine aw_aload_n 1 dX7_rebuild_58 rfl rfl ?_
        refine aw_get fX7_67 dX7_rebuild_59 f218 rfl ?_
        refine aw_iload_n 0 dX7_rebuild_62 rfl rfl ?_
        refine aw_iald i (rfl) (by omega) (by decide) dX7_rebuild_63 f220 ?_
        refine aw_toe (nI (x i)) (rfl) ?_
        have b270 := bx i (by omega)
        refine aw_ishr dX7_rebuild_64 ?_
        refine aw_iconst (1) dX7_rebuild_65 (by decide) ?_
        refine aw_iand dX7_rebuild_66 ?_
        refine aw_toe (if st.testBit (x i) = true then 1 else 0) (nv_bit (rfl) (rfl) (by omega) (by omega)) ?_
        refine aw_if_eq 136 dX7_rebuild_67 (by decide) (fun c67 => ?_) (fun c67 => ?_)
        · have t67 := ite_0 c67
          refine aw_iinc (j := 0) (nI (i + 1)) [(3, .int (nI (i + 1))), (2, .ref (G.1 + 79)), (1, .int (nI st)), (0, .ref (G.1 + S))] dX7_rebuild_136 rfl (nv_inc (rfl)) (by decide) rfl ?_
          refine aw_goto 49 dX7_rebuild_139 (by decide) ?_
          refine aw_lv [(3, .int (nI (i + 1))), (2, .ref (G.1 + 79)), (1, .int (nI st)), (0, .ref (G.1 + S))] [0, 1, 2, 3] rfl ?_
          exact ih224 (i + 1) t0 T _ (by omega) (by omega) (by rw [twF_s, if_neg (fun q => t67 q.1)]; exact hT) f208 f209 f210 f211 f212 f213 f214 f215 f216 f217 f218 f219 f220 f221 f222 (k223)
        · have t67 := ite_1 c67
          refine aw_iload_n 2 dX7_rebuild_70 rfl rfl ?_
          refine aw_aload_n 1 dX7_rebuild_71 rfl rfl ?_
          refine aw_get fX7_70 dX7_rebuild_72 f218 rfl ?_
          refine aw_iload_n 0 dX7_rebuild_75 rfl rfl ?_
          refine aw_iald i (rfl) (by omega) (by decide) dX7_rebuild_76 f221 ?_
          refine aw_toe (nI (y i)) (rfl) ?_
          have b271 := by_ i (by omega)
          refine aw_ishr dX7_rebuild_77 ?_
          refine aw_iconst (1) dX7_rebuild_78 (by decide) ?_
          refine aw_iand dX7_rebuild_79 ?_
          refine aw_toe (if st.testBit (y i) = true then 1 else 0) (nv_bit (rfl) (rfl) (by omega) (by omega)) ?_
          refine aw_if_eq 136 dX7_rebuild_80 (by decide) (fun c80 => ?_) (fun c80 => ?_)
          · have t80 := ite_0 c80
            refine aw_iinc (j := 0) (nI (i + 1)) [(3, .int (nI (i + 1))), (2, .ref (G.1 + 79)), (1, .int (nI st)), (0, .ref (G.1 + S))] dX7_rebuild_136 rfl (nv_inc (rfl)) (by decide) rfl ?_
            refine aw_goto 49 dX7_rebuild_139 (by decide) ?_
            refine aw_lv [(3, .int (nI (i + 1))), (2, .ref (G.1 + 79)), (1, .int (nI st)), (0, .ref (G.1 + S))] [0, 1, 2, 3] rfl ?_
            exact ih224 (i + 1) t0 T _ (by omega) (by omega) (by rw [twF_s, if_neg (fun q => t80 q.2)]; exact hT) f208 f209 f210 f211 f212 f213 f214 f215 f216 f217 f218 f219 f220 f221 f222 (k223)
          · have t80 := ite_1 c80
            refine aw_aload_n 3 dX7_rebuild_83 rfl rfl ?_
            refine aw_dup dX7_rebuild_84 rfl ?_
            refine aw_get fX7_43 dX7_rebuild_85 f208 rfl ?_
            refine aw_aload_n 1 dX7_rebuild_88 rfl rfl ?_
            refine aw_get fX7_73 dX7_rebuild_89 f218 rfl ?_
            refine aw_iload_n 0 dX7_rebuild_92 rfl rfl ?_
            refine aw_iald i (rfl) (by omega) (by decide) dX7_rebuild_93 f222 ?_
            refine aw_toe (nI (tr i)) (rfl) ?_
            refine aw_iadd dX7_rebuild_94 ?_
            refine aw_putQ fX7_43 dX7_rebuild_95 (lSh G S (nI sz1161) (t0 + (nI (tr i))) su (nI st) (nI n)) f208 rfl rfl rfl (Nat.le_of_ble_eq_true rfl) rfl ?_
            refine aw_aload_n 3 dX7_rebuild_98 rfl rfl ?_
            refine aw_aload_n 1 dX7_rebuild_99 rfl rfl ?_
            refine aw_get fX7_76 dX7_rebuild_100 (gn (by omega) (f218)) rfl ?_
            refine aw_iload_n 0 dX7_rebuild_103 rfl rfl ?_
            refine aw_iald i (rfl) (by omega) (by decide) dX7_rebuild_104 (gn (by omega) (f219)) ?_
            refine aw_toe (nI (so i)) (rfl) ?_
            have b272 := bso i (by omega)
            refine aw_aload_n 3 dX7_rebuild_105 rfl rfl ?_
            refine aw_get fX7_15 dX7_rebuild_106 (gs f208) rfl ?_
            refine aw_aload_n 1 dX7_rebuild_109 rfl rfl ?_
            refine aw_get fX7_67 dX7_rebuild_110 (gn (by omega) (f218)) rfl ?_
            refine aw_iload_n 0 dX7_rebuild_113 rfl rfl ?_
            refine aw_iald i (rfl) (by omega) (by decide) dX7_rebuild_114 (gn (by omega) (f220)) ?_
            refine aw_toe (nI (x i)) (rfl) ?_
            have b273 := bx i (by omega)
            refine aw_iald (x i) (rfl) (by omega) (by decide) dX7_rebuild_115 (gn (by omega) (f210)) ?_
            refine aw_toe (nI (po1163 (x i))) (rfl) ?_
            refine aw_aload_n 3 dX7_rebuild_116 rfl rfl ?_
            refine aw_get fX7_15 dX7_rebuild_117 (gs f208) rfl ?_
            refine aw_aload_n 1 dX7_rebuild_120 rfl rfl ?_
            refine aw_get fX7_70 dX7_rebuild_121 (gn (by omega) (f218)) rfl ?_
            refine aw_iload_n 0 dX7_rebuild_124 rfl rfl ?_
            refine aw_iald i (rfl) (by omega) (by decide) dX7_rebuild_125 (gn (by omega) (f221)) ?_
            refine aw_toe (nI (y i)) (rfl) ?_
            have b274 := by_ i (by omega)
            refine aw_iald (y i) (rfl) (by omega) (by decide) dX7_rebuild_126 (gn (by omega) (f210)) ?_
            refine aw_toe (nI (po1163 (y i))) (rfl) ?_
            refine aw_aload_n 1 dX7_rebuild_127 rfl rfl ?_
            refine aw_get fX7_73 dX7_rebuild_128 (gn (by omega) (f218)) rfl ?_
            refine aw_iload_n 0 dX7_rebuild_131 rfl rfl ?_
            refine aw_iald i (rfl) (by omega) (by decide) dX7_rebuild_132 (gn (by omega) (f222)) ?_
            refine aw_toe (nI (tr i)) (rfl) ?_
            refine aw_eW [.int (nI (so i)), .int (nI (po1163 (x i))), .int (nI (po1163 (y i))), .int (nI (tr i))] [] lX7_79 vX7_addTrust mX7_addTrust dX7_rebuild_133 (aX7_addTrust (S := S) (sz := sz1161) (b0 := st) (y0 := n) (tt := t0 + (nI (tr i))) (su := su) (po := po1163) (tg := tg1162) (lf := T.1) (be := T.2.1) (le := T.2.2.1) (re := T.2.2.2) (gg := gg) (bs := bs) (to := to) (s := so i) (o := po1163 (x i)) (k := po1163 (y i)) (t := (nI (tr i))) (gs f208) (gn (by omega) (f209)) (gn (by omega) (f210)) (gn (by omega) (f211)) (gn (by omega) (f212)) (gn (by omega) (f213)) (gn (by omega) (f214)) (gn (by omega) (f215)) (gn (by omega) (f216)) (gn (by omega) (f217)) (by omega) (hpo1 _ (by omega)) (hpo1 _ (by omega))) (gs f208) rfl rfl rfl (Nat.le_of_ble_eq_true rfl) (by decide) (by decide) rfl (fun h276 q275 => ?_)
            obtain ⟨f277, f278, f279, f280, f281, f282, f283, f284, f285, f286, k287⟩ := q275
            have f288 := rng_at k287 (by omega) (gn (by omega) (f218))
            have f289 := rng_at k287 (by omega) (gn (by omega) (f219))
            have f290 := rng_at k287 (by omega) (gn (by omega) (f220))
            have f291 := rng_at k287 (by omega) (gn (by omega) (f221))
            have f292 := rng_at k287 (by omega) (gn (by omega) (f222))
            refine aw_iinc (j := 0) (nI (i + 1)) [(3, .int (nI (i + 1))), (2, .ref (G.1 + 79)), (1, .int (nI st)), (0, .ref (G.1 + S))] dX7_rebuild_136 rfl (nv_inc (rfl)) (by decide) rfl ?_
            refine aw_goto 49 dX7_rebuild_139 (by decide) ?_
            refine aw_lv [(3, .int (nI (i + 1))), (2, .ref (G.1 + 79)), (1, .int (nI st)), (0, .ref (G.1 + S))] [0, 1, 2, 3] rfl ?_
            exact ih224 (i + 1) (t0 + (nI (tr i))) (atF (so i) (po1163 (x i)) (po1163 (y i)) (nI (tr i)) T) _ (by omega) (by omega) (by rw [twF_s, if_pos ⟨t67, t80⟩, ← hT]) f277 f278 f279 f280 f281 f282 f283 f284 f285 f286 f288 f289 f290 f291 f292 (rng_tr (rng_set (k223) (by omega) (by omega)) (rng_w k287 (by omega) (by omega)))
  · have d5 := (nv_eq (a := st) (b := b0) (rfl) (rfl) (by omega) (by omega)).mp c5
    refine aw_aload_n 2 dX7_rebuild_8 rfl rfl ?_
    refine aw_get fX7_55 dX7_rebuild_9 h79 rfl ?_
    refine aw_aload_n 0 dX7_rebuild_12 rfl rfl ?_
    refine aw_get fX7_52 dX7_rebuild_13 hS rfl ?_
    refine aw_icmp_ne 20 dX7_rebuild_16 (by decide) (fun c16 => ?_) (fun c16 => ?_)
    · have d16 := mt (nv_eq (a := n) (b := y0) (rfl) (rfl) (by omega) (by omega)).mpr c16
      refine aw_aload_n 0 dX7_rebuild_20 rfl rfl ?_
      refine aw_iload_n 1 dX7_rebuild_21 rfl rfl ?_
      refine aw_putQ fX7_49 dX7_rebuild_22 (lSh G S (nI sz) tt su (nI st) (nI y0)) hS rfl rfl rfl (Nat.le_of_ble_eq_true rfl) rfl ?_
      refine aw_aload_n 0 dX7_rebuild_25 rfl rfl ?_
      refine aw_aload_n 2 dX7_rebuild_26 rfl rfl ?_
      refine aw_get fX7_55 dX7_rebuild_27 (gn (by omega) (h79)) rfl ?_
      refine aw_putQ fX7_52 dX7_rebuild_30 (lSh G S (nI sz) tt su (nI st) (nI n)) (gs hS) rfl rfl rfl (Nat.le_of_ble_eq_true rfl) rfl ?_
      refine aw_aload_n 0 dX7_rebuild_33 rfl rfl ?_
      refine aw_iload_n 1 dX7_rebuild_34 rfl rfl ?_
      refine aw_eW [.int (nI st)] [] lX7_60 vX7_readThings mX7_readThings dX7_rebuild_35 (aX7_readThings (S := S) (sz := sz) (b0 := st) (y0 := n) (tt := tt) (su := su) (po := po) (tg := tg) (lf := lf) (be := be) (le := le) (re := re) (gg := gg) (bs := bs) (to := to) (st := st) (gs (gs hS)) (gn (by omega) (gn (by omega) (hS_1))) (gn (by omega) (gn (by omega) (hS_2))) (gn (by omega) (gn (by omega) (hS_3))) (gn (by omega) (gn (by omega) (hS_4))) (gn (by omega) (gn (by omega) (hS_5))) (gn (by omega) (gn (by omega) (hS_6))) (gn (by omega) (gn (by omega) (hS_7))) (gn (by omega) (gn (by omega) (hS_8))) (gn (by omega) (gn (by omega) (hS_9))) hpo (by omega)) (gs (gs hS)) rfl rfl rfl (Nat.le_of_ble_eq_true rfl) (by decide) (by decide) rfl (fun h297 q296 => ?_)
      obtain ⟨sz1293, tg1294, po1295, f298, f299, f300, f301, f302, f303, f304, f305, f306, f307, k308, p309⟩ := q296
      have f310 := rng_at k308 (by omega) (gn (by omega) (gn (by omega) (h79)))
      have f311 := rng_at k308 (by omega) (gn (by omega) (gn (by omega) (h80)))
      have f312 := rng_at k308 (by omega) (gn (by omega) (gn (by omega) (h81)))
      have f313 := rng_at k308 (by omega) (gn (by omega) (gn (by omega) (h82)))
      have f314 := rng_at k308 (by omega) (gn (by omega) (gn (by omega) (h83)))
      refine aw_aload_n 0 dX7_rebuild_38 rfl rfl ?_
      refine aw_eW [] [] lX7_64 vX7_clearTrust mX7_clearTrust dX7_rebuild_39 (aX7_clearTrust (S := S) (sz := sz1293) (b0 := st) (y0 := n) (tt := tt) (su := su) (po := po1295) (tg := tg1294) (lf := lf) (be := be) (le := le) (re := re) (gg := gg) (bs := bs) (to := to) f298 f299 f300 f301 f302 f303 f304 f305 f306 f307) f298 rfl rfl rfl (Nat.le_of_ble_eq_true rfl) (by decide) (by decide) rfl (fun h320 q319 => ?_)
      obtain ⟨lf1315, be1316, le1317, re1318, f321, f322, f323, f324, f325, f326, f327, f328, f329, f330, k331, p332, p333⟩ := q319
      have f334 := rng_at k331 (by omega) f310
      have f335 := rng_at k331 (by omega) f311
      have f336 := rng_at k331 (by omega) f312
      have f337 := rng_at k331 (by omega) f313
      have f338 := rng_at k331 (by omega) f314
      refine aw_aload_n 0 dX7_rebuild_42 rfl rfl ?_
      refine aw_iconst (0) dX7_rebuild_43 (by decide) ?_
      refine aw_putQ fX7_43 dX7_rebuild_44 (lSh G S (nI sz1293) 0 su (nI st) (nI n)) f321 rfl rfl rfl (Nat.le_of_ble_eq_true rfl) rfl ?_
      refine aw_iconst (0) dX7_rebuild_47 (by decide) ?_
      refine aw_istore_n [(3, .int 0), (0, .ref (G.1 + S)), (1, .int (nI st)), (2, .ref (G.1 + 79))] dX7_rebuild_48 rfl (by decide) rfl ?_
      have hpo1 := (rtF_ok (st := st) (tg := tg) hpo 12).2
      rw [← p309] at hpo1
      dsimp only at hpo1
      refine aw_lv [(3, .int 0), (2, .ref (G.1 + 79)), (1, .int (nI st)), (0, .ref (G.1 + S))] [0, 3, 2, 1] rfl ?_
      suffices L356 : ∀ (mm : Nat) (i : Nat) (t0 : Int32) (T : trT) (h339 : List va_E), n - i < mm → (i ≤ n) → ((t0, T) = twF st so x y tr po1295 (lf1315, be1316, le1317, re1318) i) → h339[S]? = some (oB 7 (lSh G S (nI sz1293) t0 su (nI st) (nI n))) → h339[S + 1]? = some (aI 8 tg1294) → h339[S + 2]? = some (aI 12 (nA po1295)) → h339[S + 3]? = some (aI 64 T.1) → h339[S + 4]? = some (aI 64 T.2.1) → h339[S + 5]? = some (aI 8 T.2.2.1) → h339[S + 6]? = some (aI 8 T.2.2.2) → h339[S + 7]? = some (aI 8 gg) → h339[S + 8]? = some (aI 2048 bs) → h339[S + 9]? = some (aI 8 to) → h339[79]? = some (oB 6 (lS G (nI n))) → h339[80]? = some (aI 40 (nA so)) → h339[81]? = some (aI 40 (nA x)) → h339[82]? = some (aI 40 (nA y)) → h339[83]? = some (aI 40 (nA tr)) → rng S (S + 9) h h339 → AW l G yX7_rebuild cX7_rebuild 4 none (xR 4 0 0) (fun _ _ => True) QF 0 0 49 [(3, .int (nI i)), (2, .ref (G.1 + 79)), (1, .int (nI st)), (0, .ref (G.1 + S))] [] h339 from L356 (n - 0 + 1) 0 0 (lf1315, be1316, le1317, re1318) _ (Nat.lt_succ_self _) (Nat.zero_le _) (rfl) (gs f321) (gn (by omega) (f322)) (gn (by omega) (f323)) (gn (by omega) (f324)) (gn (by omega) (f325)) (gn (by omega) (f326)) (gn (by omega) (f327)) (gn (by omega) (f328)) (gn (by omega) (f329)) (gn (by omega) (f330)) (gn (by omega) (f334)) (gn (by omega) (f335)) (gn (by omega) (f336)) (gn (by omega) (f337)) (gn (by omega) (f338)) (rng_set (rng_tr (rng_tr (rng_set (rng_set (rng_rf S (S + 9) h) (by omega) (by omega)) (by omega) (by omega)) (rng_w k308 (by omega) (by omega))) (rng_w k331 (by omega) (by omega))) (by omega) (by omega))
      intro mm
      induction mm with
      | zero =>
        intro i t0 T h339 hmm hi hT f340 f341 f342 f343 f344 f345 f346 f347 f348 f349 f350 f351 f352 f353 f354 k355
        exact absurd hmm (Nat.not_lt_zero _)
      | succ mm ih356 =>
        intro i t0 T h339 hmm hi hT f340 f341 f342 f343 f344 f345 f346 f347 f348 f349 f350 f351 f352 f353 f354 k355
        refine aw_iload_n 0 dX7_rebuild_49 rfl rfl ?_
        refine aw_aload_n 1 dX7_rebuild_50 rfl rfl ?_
        refine aw_get fX7_55 dX7_rebuild_51 f350 rfl ?_
        refine aw_icmp_ge 142 dX7_rebuild_54 (by decide) (fun c54 => ?_) (fun c54 => ?_)
        · have d54 := (nv_le (a := n) (b := i) (rfl) (rfl) (by omega) (by omega)).mp c54
          have hsz9 := (rtF_ok (st := st) (tg := tg) hpo 12).1
          rw [← p309] at hsz9
          dsimp only at hsz9
          have hsz8 := rtF_pos (tg := tg) (po := po) bst hst
          rw [← p309] at hsz8
          dsimp only at hsz8
          refine aw_aload_n 3 dX7_rebuild_142 rfl rfl ?_
          refine aw_eW [] [] lX7_83 vX7_weighStates mX7_weighStates dX7_rebuild_143 (aX7_weighStates (S := S) (sz := sz1293) (b0 := st) (y0 := n) (tt := t0) (su := su) (po := po1295) (tg := tg1294) (lf := T.1) (be := T.2.1) (le := T.2.2.1) (re := T.2.2.2) (gg := gg) (bs := bs) (to := to) f340 f341 f342 f343 f344 f345 f346 f347 f348 f349 hsz9 hsz8) f340 rfl rfl rfl (Nat.le_of_ble_eq_true rfl) (by decide) (by decide) rfl (fun h361 q360 => ?_)
          obtain ⟨su1357, gg1358, bs1359, f362, f363, f364, f365, f366, f367, f368, f369, f370, f371, k372, p373, p374, p375⟩ := q360
          have f376 := rng_at k372 (by omega) f350
          have f377 := rng_at k372 (by omega) f351
          have f378 := rng_at k372 (by omega) f352
          have f379 := rng_at k372 (by omega) f353
          have f380 := rng_at k372 (by omega) f354
          refine aw_aload_n 3 dX7_rebuild_146 rfl rfl ?_
          refine aw_eW [] [] lX7_86 vX7_tellRow mX7_tellRow dX7_rebuild_147 (aX7_tellRow (S := S) (sz := sz1293) (b0 := st) (y0 := n) (tt := t0) (su := su1357) (po := po1295) (tg := tg1294) (lf := T.1) (be := T.2.1) (le := T.2.2.1) (re := T.2.2.2) (gg := gg1358) (bs := bs1359) (to := to) f362 f363 f364 f365 f366 f367 f368 f369 f370 f371 hsz9 hsz8) f362 rfl rfl rfl (Nat.le_of_ble_eq_true rfl) (by decide) (by decide) rfl (fun h384 q383 => ?_)
          obtain ⟨gg1381, to1382, f385, f386, f387, f388, f389, f390, f391, f392, f393, f394, k395, p396⟩ := q383
          have f397 := rng_at k395 (by omega) f376
          have f398 := rng_at k395 (by omega) f377
          have f399 := rng_at k395 (by omega) f378
          have f400 := rng_at k395 (by omega) f379
          have f401 := rng_at k395 (by omega) f380
          subst hQF
          exact aw_vret rfl dX7_rebuild_150 (by decide) (by decide) ⟨rfl, _, _, _, _, _, _, _, _, _, _, _, _, _, _, f385, f386, f387, f388, f389, f390, f391, f392, f393, f394, rng_tr (rng_tr (k355) (rng_w k372 (by omega) (by omega))) (rng_w k395 (by omega) (by omega)), p309, p332, p333, by rw [show n = i by omega]; exact hT, p373, p374, p375, p396⟩
        · have d54 := mt (nv_le (a := n) (b := i) (rfl) (rfl) (by omega) (by omega)).mpr c54
          refine aw_iload_n 2 dX7_rebuild_57 rfl rfl ?_
          refine aw_aload_n 1 dX7_rebuild_58 rfl rfl ?_
          refine aw_get fX7_67 dX7_rebuild_59 f350 rfl ?_
          refine aw_iload_n 0 dX7_rebuild_62 rfl rfl ?_
          refine aw_iald i (rfl) (by omega) (by decide) dX7_rebuild_63 f352 ?_
          refine aw_toe (nI (x i)) (rfl) ?_
          have b402 := bx i (by omega)
          refine aw_ishr dX7_rebuild_64 ?_
          refine aw_iconst (1) dX7_rebuild_65 (by decide) ?_
          refine aw_iand dX7_rebuild_66 ?_
          refine aw_toe (if st.testBit (x i) = true then 1 else 0) (nv_bit (rfl) (rfl) (by omega) (by omega)) ?_
          refine aw_if_eq 136 dX7_rebuild_67 (by decide) (fun c67 => ?_) (fun c67 => ?_)
          · have t67 := ite_0 c67
            refine aw_iinc (j := 0) (nI (i + 1)) [(3, .int (nI (i + 1))), (2, .ref (G.1 + 79)), (1, .int (nI st)), (0, .ref (G.1 + S))] dX7_rebuild_136 rfl (nv_inc (rfl)) (by decide) rfl ?_
            refine aw_goto 49 dX7_rebuild_139 (by decide) ?_
            refine aw_lv [(3, .int (nI (i + 1))), (2, .ref (G.1 + 79)), (1, .int (nI st)), (0, .ref (G.1 + S))] [0, 1, 2, 3] rfl ?_
            exact ih356 (i + 1) t0 T _ (by omega) (by omega) (by rw [twF_s, if_neg (fun q => t67 q.1)]; exact hT) f340 f341 f342 f343 f344 f345 f346 f347 f348 f349 f350 f351 f352 f353 f354 (k355)
          · have t67 := ite_1 c67
            refine aw_iload_n 2 dX7_rebuild_70 rfl rfl ?_
            refine aw_aload_n 1 dX7_rebuild_71 rfl rfl ?_
            refine aw_get fX7_70 dX7_rebuild_72 f350 rfl ?_
            refine aw_iload_n 0 dX7_rebuild_75 rfl rfl ?_
            refine aw_iald i (rfl) (by omega) (by decide) dX7_rebuild_76 f353 ?_
            refine aw_toe (nI (y i)) (rfl) ?_
            have b403 := by_ i (by omega)
            refine aw_ishr dX7_rebuild_77 ?_
            refine aw_iconst (1) dX7_rebuild_78 (by decide) ?_
            refine aw_iand dX7_rebuild_79 ?_
            refine aw_toe (if st.testBit (y i) = true then 1 else 0) (nv_bit (rfl) (rfl) (by omega) (by omega)) ?_
            refine aw_if_eq 136 dX7_rebuild_80 (by decide) (fun c80 => ?_) (fun c80 => ?_)
            · have t80 := ite_0 c80
              refine aw_iinc (j := 0) (nI (i + 1)) [(3, .int (nI (i + 1))), (2, .ref (G.1 + 79)), (1, .int (nI st)), (0, .ref (G.1 + S))] dX7_rebuild_136 rfl (nv_inc (rfl)) (by decide) rfl ?_
              refine aw_goto 49 dX7_rebuild_139 (by decide) ?_
              refine aw_lv [(3, .int (nI (i + 1))), (2, .ref (G.1 + 79)), (1, .int (nI st)), (0, .ref (G.1 + S))] [0, 1, 2, 3] rfl ?_
              exact ih356 (i + 1) t0 T _ (by omega) (by omega) (by rw [twF_s, if_neg (fun q => t80 q.2)]; exact hT) f340 f341 f342 f343 f344 f345 f346 f347 f348 f349 f350 f351 f352 f353 f354 (k355)
            · have t80 := ite_1 c80
              refine aw_aload_n 3 dX7_rebuild_83 rfl rfl ?_
              refine aw_dup dX7_rebuild_84 rfl ?_
              refine aw_get fX7_43 dX7_rebuild_85 f340 rfl ?_
              refine aw_aload_n 1 dX7_rebuild_88 rfl rfl ?_
              refine aw_get fX7_73 dX7_rebuild_89 f350 rfl ?_
              refine aw_iload_n 0 dX7_rebuild_92 rfl rfl ?_
              refine aw_iald i (rfl) (by omega) (by decide) dX7_rebuild_93 f354 ?_
              refine aw_toe (nI (tr i)) (rfl) ?_
              refine aw_iadd dX7_rebuild_94 ?_
              refine aw_putQ fX7_43 dX7_rebuild_95 (lSh G S (nI sz1293) (t0 + (nI (tr i))) su (nI st) (nI n)) f340 rfl rfl rfl (Nat.le_of_ble_eq_true rfl) rfl ?_
              refine aw_aload_n 3 dX7_rebuild_98 rfl rfl ?_
              refine aw_aload_n 1 dX7_rebuild_99 rfl rfl ?_
              refine aw_get fX7_76 dX7_rebuild_100 (gn (by omega) (f350)) rfl ?_
              refine aw_iload_n 0 dX7_rebuild_103 rfl rfl ?_
              refine aw_iald i (rfl) (by omega) (by decide) dX7_rebuild_104 (gn (by omega) (f351)) ?_
              refine aw_toe (nI (so i)) (rfl) ?_
              have b404 := bso i (by omega)
              refine aw_aload_n 3 dX7_rebuild_105 rfl rfl ?_
              refine aw_get fX7_15 dX7_rebuild_106 (gs f340) rfl ?_
              refine aw_aload_n 1 dX7_rebuild_109 rfl rfl ?_
              refine aw_get fX7_67 dX7_rebuild_110 (gn (by omega) (f350)) rfl ?_
              refine aw_iload_n 0 dX7_rebuild_113 rfl rfl ?_
              refine aw_iald i (rfl) (by omega) (by decide) dX7_rebuild_114 (gn (by omega) (f352)) ?_
              refine aw_toe (nI (x i)) (rfl) ?_
              have b405 := bx i (by omega)
              refine aw_iald (x i) (rfl) (by omega) (by decide) dX7_rebuild_115 (gn (by omega) (f342)) ?_
              refine aw_toe (nI (po1295 (x i))) (rfl) ?_
              refine aw_aload_n 3 dX7_rebuild_116 rfl rfl ?_
              refine aw_get fX7_15 dX7_rebuild_117 (gs f340) rfl ?_
              refine aw_aload_n 1 dX7_rebuild_120 rfl rfl ?_
              refine aw_get fX7_70 dX7_rebuild_121 (gn (by omega) (f350)) rfl ?_
              refine aw_iload_n 0 dX7_rebuild_124 rfl rfl ?_
              refine aw_iald i (rfl) (by omega) (by decide) dX7_rebuild_125 (gn (by omega) (f353)) ?_
              refine aw_toe (nI (y i)) (rfl) ?_
              have b406 := by_ i (by omega)
              refine aw_iald (y i) (rfl) (by omega) (by decide) dX7_rebuild_126 (gn (by omega) (f342)) ?_
              refine aw_toe (nI (po1295 (y i))) (rfl) ?_
              refine aw_aload_n 1 dX7_rebuild_127 rfl rfl ?_
              refine aw_get fX7_73 dX7_rebuild_128 (gn (by omega) (f350)) rfl ?_
              refine aw_iload_n 0 dX7_rebuild_131 rfl rfl ?_
              refine aw_iald i (rfl) (by omega) (by decide) dX7_rebuild_132 (gn (by omega) (f354)) ?_
              refine aw_toe (nI (tr i)) (rfl) ?_
              refine aw_eW [.int (nI (so i)), .int (nI (po1295 (x i))), .int (nI (po1295 (y i))), .int (nI (tr i))] [] lX7_79 vX7_addTrust mX7_addTrust dX7_rebuild_133 (aX7_addTrust (S := S) (sz := sz1293) (b0 := st) (y0 := n) (tt := t0 + (nI (tr i))) (su := su) (po := po1295) (tg := tg1294) (lf := T.1) (be := T.2.1) (le := T.2.2.1) (re := T.2.2.2) (gg := gg) (bs := bs) (to := to) (s := so i) (o := po1295 (x i)) (k := po1295 (y i)) (t := (nI (tr i))) (gs f340) (gn (by omega) (f341)) (gn (by omega) (f342)) (gn (by omega) (f343)) (gn (by omega) (f344)) (gn (by omega) (f345)) (gn (by omega) (f346)) (gn (by omega) (f347)) (gn (by omega) (f348)) (gn (by omega) (f349)) (by omega) (hpo1 _ (by omega)) (hpo1 _ (by omega))) (gs f340) rfl rfl rfl (Nat.le_of_ble_eq_true rfl) (by decide) (by decide) rfl (fun h408 q407 => ?_)
              obtain ⟨f409, f410, f411, f412, f413, f414, f415, f416, f417, f418, k419⟩ := q407
              have f420 := rng_at k419 (by omega) (gn (by omega) (f350))
              have f421 := rng_at k419 (by omega) (gn (by omega) (f351))
              have f422 := rng_at k419 (by omega) (gn (by omega) (f352))
              have f423 := rng_at k419 (by omega) (gn (by omega) (f353))
              have f424 := rng_at k419 (by omega) (gn (by omega) (f354))
              refine aw_iinc (j := 0) (nI (i + 1)) [(3, .int (nI (i + 1))), (2, .ref (G.1 + 79)), (1, .int (nI st)), (0, .ref (G.1 + S))] dX7_rebuild_136 rfl (nv_inc (rfl)) (by decide) rfl ?_
              refine aw_goto 49 dX7_rebuild_139 (by decide) ?_
              refine aw_lv [(3, .int (nI (i + 1))), (2, .ref (G.1 + 79)), (1, .int (nI st)), (0, .ref (G.1 + S))] [0, 1, 2, 3] rfl ?_
              exact ih356 (i + 1) (t0 + (nI (tr i))) (atF (so i) (po1295 (x i)) (po1295 (y i)) (nI (tr i)) T) _ (by omega) (by omega) (by rw [twF_s, if_pos ⟨t67, t80⟩, ← hT]) f409 f410 f411 f412 f413 f414 f415 f416 f417 f418 f420 f421 f422 f423 f424 (rng_tr (rng_set (k355) (by omega) (by omega)) (rng_w k419 (by omega) (by omega)))
    · have d16 := (nv_eq (a := n) (b := y0) (rfl) (rfl) (by omega) (by omega)).mp c16
      exact absurd ⟨by omega, by omega⟩ hb
/-- two ranges may have changed -/
def rg2 (a b c d : Nat) (h h1 : List va_E) : Prop := h1.length = h.length ∧ ∀ j, (j < a ∨ b < j) ∧ (j < c ∨ d < j) → h1[j]? = h[j]?
theorem rg2_rf (a b c d : Nat) (h : List va_E) : rg2 a b c d h h := ⟨rfl, fun _ _ => rfl⟩
theorem rg2_set {a b c d i : Nat} {h h1 : List va_E} {x : va_E} (q : rg2 a b c d h h1) (h0 : (a ≤ i ∧ i ≤ b) ∨ (c ≤ i ∧ i ≤ d)) : rg2 a b c d h (h1.set i x) := ⟨by rw [List.length_set]; exact q.1, fun j hj => by rw [List.getElem?_set_ne (by omega)]; exact q.2 j hj⟩
theorem rg2_tr {a b c d : Nat} {h h1 h2 : List va_E} (p : rg2 a b c d h h1) (q : rg2 a b c d h1 h2) : rg2 a b c d h h2 := ⟨q.1.trans p.1, fun j hj => (q.2 j hj).trans (p.2 j hj)⟩
theorem rg2_w {a b c d e f : Nat} {h h1 : List va_E} (p : rng e f h h1) (h0 : (a ≤ e ∧ f ≤ b) ∨ (c ≤ e ∧ f ≤ d)) : rg2 a b c d h h1 := ⟨p.1, fun j hj => p.2 j (by omega)⟩
theorem rg2_w2 {a b c d e f g k : Nat} {h h1 : List va_E} (p : rg2 e f g k h h1) (h0 : (a ≤ e ∧ f ≤ b) ∨ (c ≤ e ∧ f ≤ d)) (h2 : (a ≤ g ∧ k ≤ b) ∨ (c ≤ g ∧ k ≤ d)) : rg2 a b c d h h1 := ⟨p.1, fun j hj => p.2 j (by omega)⟩
theorem rg2_at {a b c d i : Nat} {h h1 : List va_E} {x : Option va_E} (p : rg2 a b c d h h1) (hi : (i < a ∨ b < i) ∧ (i < c ∨ d < i)) (e : h[i]? = x) : h1[i]? = x := (p.2 i hi).trans e
abbrev lJ (G : xG) (J : Nat) (a b : Value) (c d : Int32) : List Value := [.ref (G.1 + (J + 1)), .ref (G.1 + (J + 2)), .ref (G.1 + (J + 3)), a, b, .int c, .int d]
abbrev lG (G : xG) (P : Nat) (a b c : Int32) : List Value := [.ref (G.1 + (P + 1)), .ref (G.1 + (P + 2)), .int a, .int b, .int c]
/-- partners: none or an entry -/
def pB (f : Nat → Int32) : Prop := ∀ j, j < 10 → f j = -9 ∨ ∃ q, q < 10 ∧ f j = nI q
theorem pB_u {f : Nat → Int32} {i : Nat} {v : Int32} (h : pB f) (hv : v = -9 ∨ ∃ q, q < 10 ∧ v = nI q) : pB (upd f i v) := by
  intro j hj
  by_cases e : j = i
  · simp only [upd, if_pos e]; exact hv
  · simp only [upd, if_neg e]; exact h j hj
theorem or_k {a b : Nat} (ha : a < 1024) (hb : b < 10) : a ||| 2 ^ b < 1024 := Nat.or_lt_two_pow (n := 10) ha (Nat.pow_lt_pow_right (by decide) hb)
theorem or_m {a b : Nat} (ha : a < 1024) (hb : b < 1024) : a ||| b < 1024 := Nat.or_lt_two_pow (n := 10) ha hb
theorem un_b {f : Nat → Nat} {n b i v : Nat} (h : ∀ j, j < n → f j < b) (hv : v < b) : ∀ j, j < n → un f i v j < b := by
  intro j hj
  by_cases e : j = i
  · simp only [un, if_pos e]; exact hv
  · simp only [un, if_neg e]; exact h j hj
/-- what the entries from this one on can bring if it is joined to k -/
def vjF (lk bs : Nat → Int32) (i s k : Nat) : Int32 := if lk (i * 10 + k) = 0 ∨ s.testBit k = true then -1 else lk (i * 10 + k) + bs ((i + 1) * 1024 + (s ||| 2 ^ k))
def wjF (lk bs : Nat → Int32) (i s : Nat) : Nat → Int32
  | 0 => bs ((i + 1) * 1024 + s)
  | k + 1 => if wjF lk bs i s k < vjF lk bs i s k then vjF lk bs i s k else wjF lk bs i s k
