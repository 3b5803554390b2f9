set_option maxHeartbeats 4000000 in
theorem aX7_readThings {l : Launch} {G : xG} {h : List va_E} {S sz b0 y0 : Nat} {tt su : Int32} {po : Nat → Nat} {tg lf be le re gg bs to : Nat → Int32} {st : Nat} (hS : h[S]? = some (oB 7 (lSh G S (nI sz) tt su (nI b0) (nI y0)))) (hS_1 : h[S + 1]? = some (aI 8 tg)) (hS_2 : h[S + 2]? = some (aI 12 (nA po))) (hS_3 : h[S + 3]? = some (aI 64 lf)) (hS_4 : h[S + 4]? = some (aI 64 be)) (hS_5 : h[S + 5]? = some (aI 8 le)) (hS_6 : h[S + 6]? = some (aI 8 re)) (hS_7 : h[S + 7]? = some (aI 8 gg)) (hS_8 : h[S + 8]? = some (aI 2048 bs)) (hS_9 : h[S + 9]? = some (aI 8 to)) (hpo : ∀ j, j < 12 → po j < 8) (bst : st < 4096) : CE l G yX7_readThings cX7_readThings 3 none 0 0 0 [.ref (G.1 + S), .int (nI st)] h none (fun h1 => ∃ sz1 : Nat, ∃ tg1 : Nat → Int32, ∃ po1 : Nat → Nat, h1[S]? = some (oB 7 (lSh G S (nI sz1) tt su (nI b0) (nI y0))) ∧ h1[S + 1]? = some (aI 8 tg1) ∧ h1[S + 2]? = some (aI 12 (nA po1)) ∧ h1[S + 3]? = some (aI 64 lf) ∧ h1[S + 4]? = some (aI 64 be) ∧ h1[S + 5]? = some (aI 8 le) ∧ h1[S + 6]? = some (aI 8 re) ∧ h1[S + 7]? = some (aI 8 gg) ∧ h1[S + 8]? = some (aI 2048 bs) ∧ h1[S + 9]? = some (aI 8 to) ∧ rng S (S + 9) h h1 ∧ (sz1, tg1, po1) = rtF st tg po 12) := by
  refine cm_ofQ rfl (Nat.le_of_ble_eq_true rfl) [(0, .ref (G.1 + S)), (1, .int (nI st))] rfl (fun QF hQF => ?_)
  refine aw_aload_n 0 dX7_readThings_0 rfl rfl ?_
  refine aw_iconst (0) dX7_readThings_1 (by decide) ?_
  refine aw_putQ fX7_39 dX7_readThings_2 (lSh G S 0 tt su (nI b0) (nI y0)) hS rfl rfl rfl (Nat.le_of_ble_eq_true rfl) rfl ?_
  refine aw_iconst (0) dX7_readThings_5 (by decide) ?_
  refine aw_istore_n [(2, .int 0), (0, .ref (G.1 + S)), (1, .int (nI st))] dX7_readThings_6 rfl (by decide) rfl ?_
  refine aw_lv [(2, .int 0), (1, .int (nI st)), (0, .ref (G.1 + S))] [0, 2, 1] rfl ?_
  suffices L24 : ∀ (mm : Nat) (i : Nat) (z1 : Nat) (t1 : Nat → Int32) (p1 : Nat → Nat) (h12 : List va_E), 12 - i < mm → (i ≤ 12) → ((z1, t1, p1) = rtF st tg po i) → h12[S]? = some (oB 7 (lSh G S (nI z1) tt su (nI b0) (nI y0))) → h12[S + 1]? = some (aI 8 t1) → h12[S + 2]? = some (aI 12 (nA p1)) → h12[S + 3]? = some (aI 64 lf) → h12[S + 4]? = some (aI 64 be) → h12[S + 5]? = some (aI 8 le) → h12[S + 6]? = some (aI 8 re) → h12[S + 7]? = some (aI 8 gg) → h12[S + 8]? = some (aI 2048 bs) → h12[S + 9]? = some (aI 8 to) → rng S (S + 9) h h12 → AW l G yX7_readThings cX7_readThings 3 none (xR 0 0 0) (fun _ _ => True) QF 0 0 7 [(2, .int (nI i)), (1, .int (nI st)), (0, .ref (G.1 + S))] [] h12 from L24 (12 - 0 + 1) 0 0 tg po _ (Nat.lt_succ_self _) (Nat.zero_le _) (rfl) (gs hS) (gn (by omega) (hS_1)) (gn (by omega) (hS_2)) (gn (by omega) (hS_3)) (gn (by omega) (hS_4)) (gn (by omega) (hS_5)) (gn (by omega) (hS_6)) (gn (by omega) (hS_7)) (gn (by omega) (hS_8)) (gn (by omega) (hS_9)) (rng_set (rng_rf S (S + 9) h) (by omega) (by omega))
  intro mm
  induction mm with
  | zero =>
    intro i z1 t1 p1 h12 hmm hi hq f13 f14 f15 f16 f17 f18 f19 f20 f21 f22 k23
    exact absurd hmm (Nat.not_lt_zero _)
  | succ mm ih24 =>
    intro i z1 t1 p1 h12 hmm hi hq f13 f14 f15 f16 f17 f18 f19 f20 f21 f22 k23
    have b9 := (rtF_ok (st := st) (tg := tg) hpo i).1
    rw [← hq] at b9
    dsimp only at b9
    refine aw_iload_n 0 dX7_readThings_7 rfl rfl ?_
    refine aw_bipush (12) dX7_readThings_8 (by decide) ?_
    refine aw_icmp_ge 66 dX7_readThings_10 (by decide) (fun c10 => ?_) (fun c10 => ?_)
    · have d10 := (nv_le (a := 12) (b := i) (rfl) (rfl) (by omega) (by omega)).mp c10
      subst hQF
      have e12 : i = 12 := by omega
      subst e12
      exact aw_vret rfl dX7_readThings_66 (by decide) (by decide) ⟨rfl, _, _, _, f13, f14, f15, f16, f17, f18, f19, f20, f21, f22, k23, hq⟩
    · have d10 := mt (nv_le (a := 12) (b := i) (rfl) (rfl) (by omega) (by omega)).mpr c10
      refine aw_iload_n 1 dX7_readThings_13 rfl rfl ?_
      refine aw_iload_n 0 dX7_readThings_14 rfl rfl ?_
      refine aw_ishr dX7_readThings_15 ?_
      refine aw_iconst (1) dX7_readThings_16 (by decide) ?_
      refine aw_iand dX7_readThings_17 ?_
      refine aw_toe (if st.testBit i = true then 1 else 0) (nv_bit (rfl) (rfl) (by omega) (by omega)) ?_
      refine aw_if_eq 60 dX7_readThings_18 (by decide) (fun c18 => ?_) (fun c18 => ?_)
      · have t18 := ite_0 c18
        refine aw_iinc (j := 0) (nI (i + 1)) [(2, .int (nI (i + 1))), (1, .int (nI st)), (0, .ref (G.1 + S))] dX7_readThings_60 rfl (nv_inc (rfl)) (by decide) rfl ?_
        refine aw_goto 7 dX7_readThings_63 (by decide) ?_
        refine aw_lv [(2, .int (nI (i + 1))), (1, .int (nI st)), (0, .ref (G.1 + S))] [0, 1, 2] rfl ?_
        exact ih24 (i + 1) z1 t1 p1 _ (by omega) (by omega) (by rw [rtF_s, if_neg (fun q => t18 q.1)]; exact hq) f13 f14 f15 f16 f17 f18 f19 f20 f21 f22 (k23)
      · have t18 := ite_1 c18
        refine aw_aload_n 2 dX7_readThings_21 rfl rfl ?_
        refine aw_get fX7_39 dX7_readThings_22 f13 rfl ?_
        refine aw_bipush (8) dX7_readThings_25 (by decide) ?_
        refine aw_icmp_ge 60 dX7_readThings_27 (by decide) (fun c27 => ?_) (fun c27 => ?_)
        · have d27 := (nv_le (a := 8) (b := z1) (rfl) (rfl) (by omega) (by omega)).mp c27
          refine aw_iinc (j := 0) (nI (i + 1)) [(2, .int (nI (i + 1))), (1, .int (nI st)), (0, .ref (G.1 + S))] dX7_readThings_60 rfl (nv_inc (rfl)) (by decide) rfl ?_
          refine aw_goto 7 dX7_readThings_63 (by decide) ?_
          refine aw_lv [(2, .int (nI (i + 1))), (1, .int (nI st)), (0, .ref (G.1 + S))] [0, 1, 2] rfl ?_
          exact ih24 (i + 1) z1 t1 p1 _ (by omega) (by omega) (by rw [rtF_s, ← hq]; rw [if_neg (fun q => by have := q.2; dsimp only at this; omega)]) f13 f14 f15 f16 f17 f18 f19 f20 f21 f22 (k23)
        · have d27 := mt (nv_le (a := 8) (b := z1) (rfl) (rfl) (by omega) (by omega)).mpr c27
          refine aw_aload_n 2 dX7_readThings_30 rfl rfl ?_
          refine aw_get fX7_9 dX7_readThings_31 f13 rfl ?_
          refine aw_aload_n 2 dX7_readThings_34 rfl rfl ?_
          refine aw_get fX7_39 dX7_readThings_35 f13 rfl ?_
          refine aw_iload_n 0 dX7_readThings_38 rfl rfl ?_
          refine aw_iast z1 (rfl) (by omega) (by decide) dX7_readThings_39 f14 ?_
          refine aw_aload_n 2 dX7_readThings_40 rfl rfl ?_
          refine aw_get fX7_15 dX7_readThings_41 (gn (by omega) (f13)) rfl ?_
          refine aw_iload_n 0 dX7_readThings_44 rfl rfl ?_
          refine aw_aload_n 2 dX7_readThings_45 rfl rfl ?_
          refine aw_get fX7_39 dX7_readThings_46 (gn (by omega) (f13)) rfl ?_
          refine aw_iast i (rfl) (by omega) (by decide) dX7_readThings_49 (gn (by omega) (f15)) ?_
          rw [nA_u (f := p1) (i := i) (x := (nI z1)) (v := z1) (rfl)]
          refine aw_aload_n 2 dX7_readThings_50 rfl rfl ?_
          refine aw_dup dX7_readThings_51 rfl ?_
          refine aw_get fX7_39 dX7_readThings_52 (gn (by omega) (gn (by omega) (f13))) rfl ?_
          refine aw_iconst (1) dX7_readThings_55 (by decide) ?_
          refine aw_iadd dX7_readThings_56 ?_
          refine aw_toe (nI (z1 + 1)) (nv_add (rfl) (rfl)) ?_
          refine aw_putQ fX7_39 dX7_readThings_57 (lSh G S (nI (z1 + 1)) tt su (nI b0) (nI y0)) (gn (by omega) (gn (by omega) (f13))) rfl rfl rfl (Nat.le_of_ble_eq_true rfl) rfl ?_
          refine aw_iinc (j := 0) (nI (i + 1)) [(2, .int (nI (i + 1))), (1, .int (nI st)), (0, .ref (G.1 + S))] dX7_readThings_60 rfl (nv_inc (rfl)) (by decide) rfl ?_
          refine aw_goto 7 dX7_readThings_63 (by decide) ?_
          refine aw_lv [(2, .int (nI (i + 1))), (1, .int (nI st)), (0, .ref (G.1 + S))] [0, 1, 2] rfl ?_
          exact ih24 (i + 1) (z1 + 1) (upd t1 z1 (nI i)) (un p1 i z1) _ (by omega) (by omega) (by rw [rtF_s, ← hq]; rw [if_pos ⟨t18, by dsimp only; omega⟩]) (gs (gn (by omega) (gn (by omega) (f13)))) (gn (by omega) (gn (by omega) (gs f14))) (gn (by omega) (gs (gn (by omega) (f15)))) (gn (by omega) (gn (by omega) (gn (by omega) (f16)))) (gn (by omega) (gn (by omega) (gn (by omega) (f17)))) (gn (by omega) (gn (by omega) (gn (by omega) (f18)))) (gn (by omega) (gn (by omega) (gn (by omega) (f19)))) (gn (by omega) (gn (by omega) (gn (by omega) (f20)))) (gn (by omega) (gn (by omega) (gn (by omega) (f21)))) (gn (by omega) (gn (by omega) (gn (by omega) (f22)))) (rng_set (rng_set (rng_set (k23) (by omega) (by omega)) (by omega) (by omega)) (by omega) (by omega))
set_option maxHeartbeats 4000000 in
theorem aX7_clearTrust {l : Launch} {G : xG} {h : List va_E} {S sz b0 y0 : Nat} {tt su : Int32} {po : Nat → Nat} {tg lf be le re gg bs to : Nat → Int32} (hS : h[S]? = some (oB 7 (lSh G S (nI sz) tt su (nI b0) (nI y0)))) (hS_1 : h[S + 1]? = some (aI 8 tg)) (hS_2 : h[S + 2]? = some (aI 12 (nA po))) (hS_3 : h[S + 3]? = some (aI 64 lf)) (hS_4 : h[S + 4]? = some (aI 64 be)) (hS_5 : h[S + 5]? = some (aI 8 le)) (hS_6 : h[S + 6]? = some (aI 8 re)) (hS_7 : h[S + 7]? = some (aI 8 gg)) (hS_8 : h[S + 8]? = some (aI 2048 bs)) (hS_9 : h[S + 9]? = some (aI 8 to))  : CE l G yX7_clearTrust cX7_clearTrust 2 none 0 0 0 [.ref (G.1 + S)] h none (fun h1 => ∃ lf1 : Nat → Int32, ∃ be1 : Nat → Int32, ∃ le1 : Nat → Int32, ∃ re1 : Nat → Int32, h1[S]? = some (oB 7 (lSh G S (nI sz) tt su (nI b0) (nI y0))) ∧ h1[S + 1]? = some (aI 8 tg) ∧ h1[S + 2]? = some (aI 12 (nA po)) ∧ h1[S + 3]? = some (aI 64 lf1) ∧ h1[S + 4]? = some (aI 64 be1) ∧ h1[S + 5]? = some (aI 8 le1) ∧ h1[S + 6]? = some (aI 8 re1) ∧ h1[S + 7]? = some (aI 8 gg) ∧ h1[S + 8]? = some (aI 2048 bs) ∧ h1[S + 9]? = some (aI 8 to) ∧ rng S (S + 9) h h1 ∧ (∀ j, j < 64 → lf1 j = 0 ∧ be1 j = 0) ∧ (∀ j, j < 8 → le1 j = 0 ∧ re1 j = 0)) := by
  refine cm_ofQ rfl (Nat.le_of_ble_eq_true rfl) [(0, .ref (G.1 + S))] rfl (fun QF hQF => ?_)
  refine aw_iconst (0) dX7_clearTrust_0 (by decide) ?_
  refine aw_istore_n [(1, .int 0), (0, .ref (G.1 + S))] dX7_clearTrust_1 rfl (by decide) rfl ?_
  refine aw_lv [(1, .int 0), (0, .ref (G.1 + S))] [0, 1] rfl ?_
  suffices L37 : ∀ (mm : Nat) (i : Nat) (l1 : Nat → Int32) (b1 : Nat → Int32) (h25 : List va_E), 64 - i < mm → (i ≤ 64) → (∀ j, j < i → l1 j = 0) → (∀ j, j < i → b1 j = 0) → h25[S]? = some (oB 7 (lSh G S (nI sz) tt su (nI b0) (nI y0))) → h25[S + 1]? = some (aI 8 tg) → h25[S + 2]? = some (aI 12 (nA po)) → h25[S + 3]? = some (aI 64 l1) → h25[S + 4]? = some (aI 64 b1) → h25[S + 5]? = some (aI 8 le) → h25[S + 6]? = some (aI 8 re) → h25[S + 7]? = some (aI 8 gg) → h25[S + 8]? = some (aI 2048 bs) → h25[S + 9]? = some (aI 8 to) → rng S (S + 9) h h25 → AW l G yX7_clearTrust cX7_clearTrust 2 none (xR 0 0 0) (fun _ _ => True) QF 0 0 2 [(1, .int (nI i)), (0, .ref (G.1 + S))] [] h25 from L37 (64 - 0 + 1) 0 lf be _ (Nat.lt_succ_self _) (Nat.zero_le _) (fun j hj => absurd hj (by omega)) (fun j hj => absurd hj (by omega)) hS hS_1 hS_2 hS_3 hS_4 hS_5 hS_6 hS_7 hS_8 hS_9 (rng_rf S (S + 9) h)
  intro mm
  induction mm with
  | zero =>
    intro i l1 b1 h25 hmm hi h1 h2 f26 f27 f28 f29 f30 f31 f32 f33 f34 f35 k36
    exact absurd hmm (Nat.not_lt_zero _)
  | succ mm ih37 =>
    intro i l1 b1 h25 hmm hi h1 h2 f26 f27 f28 f29 f30 f31 f32 f33 f34 f35 k36
    refine aw_iload_n 0 dX7_clearTrust_2 rfl rfl ?_
    refine aw_aload_n 1 dX7_clearTrust_3 rfl rfl ?_
    refine aw_get fX7_18 dX7_clearTrust_4 f26 rfl ?_
    refine aw_alen (64) dX7_clearTrust_7 f29 rfl rfl ?_
    refine aw_icmp_ge 31 dX7_clearTrust_8 (by decide) (fun c8 => ?_) (fun c8 => ?_)
    · have d8 := (nv_le (a := 64) (b := i) (rfl) (rfl) (by omega) (by omega)).mp c8
      refine aw_iconst (0) dX7_clearTrust_31 (by decide) ?_
      refine aw_istore_n [(1, .int 0), (0, .ref (G.1 + S))] dX7_clearTrust_32 rfl (by decide) rfl ?_
      have e64 : i = 64 := by omega
      subst e64
      refine aw_lv [(1, .int 0), (0, .ref (G.1 + S))] [0, 1] rfl ?_
      suffices L50 : ∀ (mm : Nat) (k : Nat) (e1 : Nat → Int32) (r1 : Nat → Int32) (h38 : List va_E), 8 - k < mm → (k ≤ 8) → (∀ j, j < k → e1 j = 0) → (∀ j, j < k → r1 j = 0) → h38[S]? = some (oB 7 (lSh G S (nI sz) tt su (nI b0) (nI y0))) → h38[S + 1]? = some (aI 8 tg) → h38[S + 2]? = some (aI 12 (nA po)) → h38[S + 3]? = some (aI 64 l1) → h38[S + 4]? = some (aI 64 b1) → h38[S + 5]? = some (aI 8 e1) → h38[S + 6]? = some (aI 8 r1) → h38[S + 7]? = some (aI 8 gg) → h38[S + 8]? = some (aI 2048 bs) → h38[S + 9]? = some (aI 8 to) → rng S (S + 9) h h38 → AW l G yX7_clearTrust cX7_clearTrust 2 none (xR 0 0 0) (fun _ _ => True) QF 0 0 33 [(1, .int (nI k)), (0, .ref (G.1 + S))] [] h38 from L50 (8 - 0 + 1) 0 le re _ (Nat.lt_succ_self _) (Nat.zero_le _) (fun j hj => absurd hj (by omega)) (fun j hj => absurd hj (by omega)) f26 f27 f28 f29 f30 f31 f32 f33 f34 f35 (k36)
      intro mm
      induction mm with
      | zero =>
        intro k e1 r1 h38 hmm hk h3 h4 f39 f40 f41 f42 f43 f44 f45 f46 f47 f48 k49
        exact absurd hmm (Nat.not_lt_zero _)
      | succ mm ih50 =>
        intro k e1 r1 h38 hmm hk h3 h4 f39 f40 f41 f42 f43 f44 f45 f46 f47 f48 k49
        refine aw_iload_n 0 dX7_clearTrust_33 rfl rfl ?_
        refine aw_bipush (8) dX7_clearTrust_34 (by decide) ?_
        refine aw_icmp_ge 59 dX7_clearTrust_36 (by decide) (fun c36 => ?_) (fun c36 => ?_)
        · have d36 := (nv_le (a := 8) (b := k) (rfl) (rfl) (by omega) (by omega)).mp c36
          subst hQF
          exact aw_vret rfl dX7_clearTrust_59 (by decide) (by decide) ⟨rfl, _, _, _, _, f39, f40, f41, f42, f43, f44, f45, f46, f47, f48, k49, fun j hj => ⟨h1 j hj, h2 j hj⟩, fun j hj => ⟨h3 j (by omega), h4 j (by omega)⟩⟩
        · have d36 := mt (nv_le (a := 8) (b := k) (rfl) (rfl) (by omega) (by omega)).mpr c36
          refine aw_aload_n 1 dX7_clearTrust_39 rfl rfl ?_
          refine aw_get fX7_24 dX7_clearTrust_40 f39 rfl ?_
          refine aw_iload_n 0 dX7_clearTrust_43 rfl rfl ?_
          refine aw_iconst (0) dX7_clearTrust_44 (by decide) ?_
          refine aw_iast k (rfl) (by omega) (by decide) dX7_clearTrust_45 f44 ?_
          refine aw_aload_n 1 dX7_clearTrust_46 rfl rfl ?_
          refine aw_get fX7_27 dX7_clearTrust_47 (gn (by omega) (f39)) rfl ?_
          refine aw_iload_n 0 dX7_clearTrust_50 rfl rfl ?_
          refine aw_iconst (0) dX7_clearTrust_51 (by decide) ?_
          refine aw_iast k (rfl) (by omega) (by decide) dX7_clearTrust_52 (gn (by omega) (f45)) ?_
          refine aw_iinc (j := 0) (nI (k + 1)) [(1, .int (nI (k + 1))), (0, .ref (G.1 + S))] dX7_clearTrust_53 rfl (nv_inc (rfl)) (by decide) rfl ?_
          refine aw_goto 33 dX7_clearTrust_56 (by decide) ?_
          refine aw_lv [(1, .int (nI (k + 1))), (0, .ref (G.1 + S))] [0, 1] rfl ?_
          exact ih50 (k + 1) (upd e1 k 0) (upd r1 k 0) _ (by omega) (by omega) (up_all h3) (up_all h4) (gn (by omega) (gn (by omega) (f39))) (gn (by omega) (gn (by omega) (f40))) (gn (by omega) (gn (by omega) (f41))) (gn (by omega) (gn (by omega) (f42))) (gn (by omega) (gn (by omega) (f43))) (gn (by omega) (gs f44)) (gs (gn (by omega) (f45))) (gn (by omega) (gn (by omega) (f46))) (gn (by omega) (gn (by omega) (f47))) (gn (by omega) (gn (by omega) (f48))) (rng_set (rng_set (k49) (by omega) (by omega)) (by omega) (by omega))
    · have d8 := mt (nv_le (a := 64) (b := i) (rfl) (rfl) (by omega) (by omega)).mpr c8
      refine aw_aload_n 1 dX7_clearTrust_11 rfl rfl ?_
      refine aw_get fX7_18 dX7_clearTrust_12 f26 rfl ?_
      refine aw_iload_n 0 dX7_clearTrust_15 rfl rfl ?_
      refine aw_iconst (0) dX7_clearTrust_16 (by decide) ?_
      refine aw_iast i (rfl) (by omega) (by decide) dX7_clearTrust_17 f29 ?_
      refine aw_aload_n 1 dX7_clearTrust_18 rfl rfl ?_
      refine aw_get fX7_21 dX7_clearTrust_19 (gn (by omega) (f26)) rfl ?_
      refine aw_iload_n 0 dX7_clearTrust_22 rfl rfl ?_
      refine aw_iconst (0) dX7_clearTrust_23 (by decide) ?_
      refine aw_iast i (rfl) (by omega) (by decide) dX7_clearTrust_24 (gn (by omega) (f30)) ?_
      refine aw_iinc (j := 0) (nI (i + 1)) [(1, .int (nI (i + 1))), (0, .ref (G.1 + S))] dX7_clearTrust_25 rfl (nv_inc (rfl)) (by decide) rfl ?_
      refine aw_goto 2 dX7_clearTrust_28 (by decide) ?_
      refine aw_lv [(1, .int (nI (i + 1))), (0, .ref (G.1 + S))] [0, 1] rfl ?_
      exact ih37 (i + 1) (upd l1 i 0) (upd b1 i 0) _ (by omega) (by omega) (up_all h1) (up_all h2) (gn (by omega) (gn (by omega) (f26))) (gn (by omega) (gn (by omega) (f27))) (gn (by omega) (gn (by omega) (f28))) (gn (by omega) (gs f29)) (gs (gn (by omega) (f30))) (gn (by omega) (gn (by omega) (f31))) (gn (by omega) (gn (by omega) (f32))) (gn (by omega) (gn (by omega) (f33))) (gn (by omega) (gn (by omega) (f34))) (gn (by omega) (gn (by omega) (f35))) (rng_set (rng_set (k36) (by omega) (by omega)) (by omega) (by omega))
set_option maxHeartbeats 4000000 in
theorem aX7_addTrust {l : Launch} {G : xG} {h : List va_E} {S sz b0 y0 : Nat} {tt su : Int32} {po : Nat → Nat} {tg lf be le re gg bs to : Nat → Int32} {s o k : Nat} {t : Int32} (hS : h[S]? = some (oB 7 (lSh G S (nI sz) tt su (nI b0) (nI y0)))) (hS_1 : h[S + 1]? = some (aI 8 tg)) (hS_2 : h[S + 2]? = some (aI 12 (nA po))) (hS_3 : h[S + 3]? = some (aI 64 lf)) (hS_4 : h[S + 4]? = some (aI 64 be)) (hS_5 : h[S + 5]? = some (aI 8 le)) (hS_6 : h[S + 6]? = some (aI 8 re)) (hS_7 : h[S + 7]? = some (aI 8 gg)) (hS_8 : h[S + 8]? = some (aI 2048 bs)) (hS_9 : h[S + 9]? = some (aI 8 to)) (bs_ : s < 4) (bo : o < 8) (bk : k < 8) : CE l G yX7_addTrust cX7_addTrust 5 none 0 0 0 [.ref (G.1 + S), .int (nI s), .int (nI o), .int (nI k), .int t] h none (fun h1 => h1[S]? = some (oB 7 (lSh G S (nI sz) tt su (nI b0) (nI y0))) ∧ h1[S + 1]? = some (aI 8 tg) ∧ h1[S + 2]? = some (aI 12 (nA po)) ∧ h1[S + 3]? = some (aI 64 ((atF s o k t (lf, be, le, re)).1)) ∧ h1[S + 4]? = some (aI 64 ((atF s o k t (lf, be, le, re)).2.1)) ∧ h1[S + 5]? = some (aI 8 ((atF s o k t (lf, be, le, re)).2.2.1)) ∧ h1[S + 6]? = some (aI 8 ((atF s o k t (lf, be, le, re)).2.2.2)) ∧ h1[S + 7]? = some (aI 8 gg) ∧ h1[S + 8]? = some (aI 2048 bs) ∧ h1[S + 9]? = some (aI 8 to) ∧ rng S (S + 9) h h1) := by
  refine cm_ofQ rfl (Nat.le_of_ble_eq_true rfl) [(0, .ref (G.1 + S)), (1, .int (nI s)), (2, .int (nI o)), (3, .int (nI k)), (4, .int t)] rfl (fun QF hQF => ?_)
  refine aw_iload_n 1 dX7_addTrust_0 rfl rfl ?_
  refine aw_if_ne 23 dX7_addTrust_1 (by decide) (fun c1 => ?_) (fun c1 => ?_)
  · have d1 := mt (nv_eq (a := s) (b := 0) (rfl) (rfl) (by omega) (by omega)).mpr c1
    refine aw_iload_n 1 dX7_addTrust_23 rfl rfl ?_
    refine aw_iconst (1) dX7_addTrust_24 (by decide) ?_
    refine aw_icmp_ne 63 dX7_addTrust_25 (by decide) (fun c25 => ?_) (fun c25 => ?_)
    · have d25 := mt (nv_eq (a := s) (b := 1) (rfl) (rfl) (by omega) (by omega)).mpr c25
      refine aw_iload_n 1 dX7_addTrust_63 rfl rfl ?_
      refine aw_iconst (2) dX7_addTrust_64 (by decide) ?_
      refine aw_icmp_ne 82 dX7_addTrust_65 (by decide) (fun c65 => ?_) (fun c65 => ?_)
      · have d65 := mt (nv_eq (a := s) (b := 2) (rfl) (rfl) (by omega) (by omega)).mpr c65
        refine aw_aload_n 0 dX7_addTrust_82 rfl rfl ?_
        refine aw_get fX7_27 dX7_addTrust_83 hS rfl ?_
        refine aw_iload_n 2 dX7_addTrust_86 rfl rfl ?_
        refine aw_dup2 dX7_addTrust_87 rfl rfl ?_
        refine aw_iald o (rfl) (by omega) (by decide) dX7_addTrust_88 hS_6 ?_
        refine aw_iload 4 dX7_addTrust_89 rfl ?_
        refine aw_iadd dX7_addTrust_91 ?_
        refine aw_iast o (rfl) (by omega) (by decide) dX7_addTrust_92 hS_6 ?_
        subst hQF
        have eF : atF s o k t (lf, be, le, re) = (lf, be, le, upd re o ((re o) + t)) := by unfold atF; rw [if_neg (by omega), if_neg (by omega), if_neg (by omega)]
        exact aw_vret rfl dX7_addTrust_93 (by decide) (by decide) ⟨rfl, (gn (by omega) (hS)), (gn (by omega) (hS_1)), (gn (by omega) (hS_2)), by rw [eF]; exact (gn (by omega) (hS_3)), by rw [eF]; exact (gn (by omega) (hS_4)), by rw [eF]; exact (gn (by omega) (hS_5)), by rw [eF]; exact (gs hS_6), (gn (by omega) (hS_7)), (gn (by omega) (hS_8)), (gn (by omega) (hS_9)), rng_set (rng_rf S (S + 9) h) (by omega) (by omega)⟩
      · have d65 := (nv_eq (a := s) (b := 2) (rfl) (rfl) (by omega) (by omega)).mp c65
        refine aw_aload_n 0 dX7_addTrust_68 rfl rfl ?_
        refine aw_get fX7_24 dX7_addTrust_69 hS rfl ?_
        refine aw_iload_n 2 dX7_addTrust_72 rfl rfl ?_
        refine aw_dup2 dX7_addTrust_73 rfl rfl ?_
        refine aw_iald o (rfl) (by omega) (by decide) dX7_addTrust_74 hS_5 ?_
        refine aw_iload 4 dX7_addTrust_75 rfl ?_
        refine aw_iadd dX7_addTrust_77 ?_
        refine aw_iast o (rfl) (by omega) (by decide) dX7_addTrust_78 hS_5 ?_
        refine aw_goto 93 dX7_addTrust_79 (by decide) ?_
        subst hQF
        have eF : atF s o k t (lf, be, le, re) = (lf, be, upd le o ((le o) + t), re) := by unfold atF; rw [if_neg (by omega), if_neg (by omega), if_pos (by omega)]
        exact aw_vret rfl dX7_addTrust_93 (by decide) (by decide) ⟨rfl, (gn (by omega) (hS)), (gn (by omega) (hS_1)), (gn (by omega) (hS_2)), by rw [eF]; exact (gn (by omega) (hS_3)), by rw [eF]; exact (gn (by omega) (hS_4)), by rw [eF]; exact (gs hS_5), by rw [eF]; exact (gn (by omega) (hS_6)), (gn (by omega) (hS_7)), (gn (by omega) (hS_8)), (gn (by omega) (hS_9)), rng_set (rng_rf S (S + 9) h) (by omega) (by omega)⟩
    · have d25 := (nv_eq (a := s) (b := 1) (rfl) (rfl) (by omega) (by omega)).mp c25
      refine aw_aload_n 0 dX7_addTrust_28 rfl rfl ?_
      refine aw_get fX7_21 dX7_addTrust_29 hS rfl ?_
      refine aw_iload_n 2 dX7_addTrust_32 rfl rfl ?_
      refine aw_bipush (8) dX7_addTrust_33 (by decide) ?_
      refine aw_imul dX7_addTrust_35 ?_
      refine aw_iload_n 3 dX7_addTrust_36 rfl rfl ?_
      refine aw_iadd dX7_addTrust_37 ?_
      refine aw_dup2 dX7_addTrust_38 rfl rfl ?_
      refine aw_iald ((o * 8) + k) (nv_add (nv_mul (rfl) (rfl)) (rfl)) (by omega) (by decide) dX7_addTrust_39 hS_4 ?_
      refine aw_iload 4 dX7_addTrust_40 rfl ?_
      refine aw_iadd dX7_addTrust_42 ?_
      refine aw_iast ((o * 8) + k) (nv_add (nv_mul (rfl) (rfl)) (rfl)) (by omega) (by decide) dX7_addTrust_43 hS_4 ?_
      refine aw_aload_n 0 dX7_addTrust_44 rfl rfl ?_
      refine aw_get fX7_21 dX7_addTrust_45 (gn (by omega) (hS)) rfl ?_
      refine aw_iload_n 3 dX7_addTrust_48 rfl rfl ?_
      refine aw_bipush (8) dX7_addTrust_49 (by decide) ?_
      refine aw_imul dX7_addTrust_51 ?_
      refine aw_iload_n 2 dX7_addTrust_52 rfl rfl ?_
      refine aw_iadd dX7_addTrust_53 ?_
      refine aw_dup2 dX7_addTrust_54 rfl rfl ?_
      refine aw_iald ((k * 8) + o) (nv_add (nv_mul (rfl) (rfl)) (rfl)) (by omega) (by decide) dX7_addTrust_55 (gs hS_4) ?_
      refine aw_iload 4 dX7_addTrust_56 rfl ?_
      refine aw_iadd dX7_addTrust_58 ?_
      refine aw_iast ((k * 8) + o) (nv_add (nv_mul (rfl) (rfl)) (rfl)) (by omega) (by decide) dX7_addTrust_59 (gs hS_4) ?_
      refine aw_goto 93 dX7_addTrust_60 (by decide) ?_
      subst hQF
      have eF : atF s o k t (lf, be, le, re) = (lf, upd (upd be ((o * 8) + k) ((be ((o * 8) + k)) + t)) ((k * 8) + o) (((upd be ((o * 8) + k) ((be ((o * 8) + k)) + t)) ((k * 8) + o)) + t), le, re) := by unfold atF; rw [if_neg (by omega), if_pos (by omega)]
      exact aw_vret rfl dX7_addTrust_93 (by decide) (by decide) ⟨rfl, (gn (by omega) (gn (by omega) (hS))), (gn (by omega) (gn (by omega) (hS_1))), (gn (by omega) (gn (by omega) (hS_2))), by rw [eF]; exact (gn (by omega) (gn (by omega) (hS_3))), by rw [eF]; exact (gs (gs hS_4)), by rw [eF]; exact (gn (by omega) (gn (by omega) (hS_5))), by rw [eF]; exact (gn (by omega) (gn (by omega) (hS_6))), (gn (by omega) (gn (by omega) (hS_7))), (gn (by omega) (gn (by omega) (hS_8))), (gn (by omega) (gn (by omega) (hS_9))), rng_set (rng_set (rng_rf S (S + 9) h) (by omega) (by omega)) (by omega) (by omega)⟩
  · have d1 := (nv_eq (a := s) (b := 0) (rfl) (rfl) (by omega) (by omega)).mp c1
    refine aw_aload_n 0 dX7_addTrust_4 rfl rfl ?_
    refine aw_get fX7_18 dX7_addTrust_5 hS rfl ?_
    refine aw_iload_n 2 dX7_addTrust_8 rfl rfl ?_
    refine aw_bipush (8) dX7_addTrust_9 (by decide) ?_
    refine aw_imul dX7_addTrust_11 ?_
    refine aw_iload_n 3 dX7_addTrust_12 rfl rfl ?_
    refine aw_iadd dX7_addTrust_13 ?_
    refine aw_dup2 dX7_addTrust_14 rfl rfl ?_
    refine aw_iald ((o * 8) + k) (nv_add (nv_mul (rfl) (rfl)) (rfl)) (by omega) (by decide) dX7_addTrust_15 hS_3 ?_
    refine aw_iload 4 dX7_addTrust_16 rfl ?_
    refine aw_iadd dX7_addTrust_18 ?_
    refine aw_iast ((o * 8) + k) (nv_add (nv_mul (rfl) (rfl)) (rfl)) (by omega) (by decide) dX7_addTrust_19 hS_3 ?_
    refine aw_goto 93 dX7_addTrust_20 (by decide) ?_
    subst hQF
    have eF : atF s o k t (lf, be, le, re) = (upd lf ((o * 8) + k) ((lf ((o * 8) + k)) + t), be, le, re) := by unfold atF; rw [if_pos (by omega)]
    exact aw_vret rfl dX7_addTrust_93 (by decide) (by decide) ⟨rfl, (gn (by omega) (hS)), (gn (by omega) (hS_1)), (gn (by omega) (hS_2)), by rw [eF]; exact (gs hS_3), by rw [eF]; exact (gn (by omega) (hS_4)), by rw [eF]; exact (gn (by omega) (hS_5)), by rw [eF]; exact (gn (by omega) (hS_6)), (gn (by omega) (hS_7)), (gn (by omega) (hS_8)), (gn (by omega) (hS_9)), rng_set (rng_rf S (S + 9) h) (by omega) (by omega)⟩
set_option maxHeartbeats 4000000 in
theorem aX7_readGains {l : Launch} {G : xG} {h : List va_E} {S sz b0 y0 : Nat} {tt su : Int32} {po : Nat → Nat} {tg lf be le re gg bs to : Nat → Int32} {st : Nat} (hS : h[S]? = some (oB 7 (lSh G S (nI sz) tt su (nI b0) (nI y0)))) (hS_1 : h[S + 1]? = some (aI 8 tg)) (hS_2 : h[S + 2]? = some (aI 12 (nA po))) (hS_3 : h[S + 3]? = some (aI 64 lf)) (hS_4 : h[S + 4]? = some (aI 64 be)) (hS_5 : h[S + 5]? = some (aI 8 le)) (hS_6 : h[S + 6]? = some (aI 8 re)) (hS_7 : h[S + 7]? = some (aI 8 gg)) (hS_8 : h[S + 8]? = some (aI 2048 bs)) (hS_9 : h[S + 9]? = some (aI 8 to)) (hsz : sz ≤ 8) (bst : st < 256) : CE l G yX7_readGains cX7_readGains 6 none 0 0 0 [.ref (G.1 + S), .int (nI st)] h none (fun h1 => h1[S]? = some (oB 7 (lSh G S (nI sz) tt su (nI b0) (nI y0))) ∧ h1[S + 1]? = some (aI 8 tg) ∧ h1[S + 2]? = some (aI 12 (nA po)) ∧ h1[S + 3]? = some (aI 64 lf) ∧ h1[S + 4]? = some (aI 64 be) ∧ h1[S + 5]? = some (aI 8 le) ∧ h1[S + 6]? = some (aI 8 re) ∧ h1[S + 7]? = some (aI 8 (gaF le re lf sz st gg sz)) ∧ h1[S + 8]? = some (aI 2048 bs) ∧ h1[S + 9]? = some (aI 8 to) ∧ rng S (S + 9) h h1) := by
  refine cm_ofQ rfl (Nat.le_of_ble_eq_true rfl) [(0, .ref (G.1 + S)), (1, .int (nI st))] rfl (fun QF hQF => ?_)
  have bw := pw8 sz hsz
  refine aw_iconst (1) dX7_readGains_0 (by decide) ?_
  refine aw_aload_n 0 dX7_readGains_1 rfl rfl ?_
  refine aw_get fX7_39 dX7_readGains_2 hS rfl ?_
  refine aw_ishl dX7_readGains_5 ?_
  refine aw_toe (nI (2 ^ sz)) (nv_shl1 (rfl) (by omega)) ?_
  refine aw_iconst (1) dX7_readGains_6 (by decide) ?_
  refine aw_isub dX7_readGains_7 ?_
  refine aw_toe (nI ((2 ^ sz) - 1)) (nv_sub (rfl) (rfl) (by omega)) ?_
  refine aw_istore_n [(2, .int (nI ((2 ^ sz) - 1))), (0, .ref (G.1 + S)), (1, .int (nI st))] dX7_readGains_8 rfl (by decide) rfl ?_
  refine aw_iconst (0) dX7_readGains_9 (by decide) ?_
  refine aw_istore_n [(3, .int 0), (2, .int (nI ((2 ^ sz) - 1))), (0, .ref (G.1 + S)), (1, .int (nI st))] dX7_readGains_10 rfl (by decide) rfl ?_
  refine aw_lv [(3, .int 0), (2, .int (nI ((2 ^ sz) - 1))), (1, .int (nI st)), (0, .ref (G.1 + S))] [0, 1, 3, 2] rfl ?_
  suffices L63 : ∀ (mm : Nat) (nx : Nat) (g1 : Nat → Int32) (h51 : List va_E), sz - nx < mm → (nx ≤ sz) → (g1 = (gaF le re lf sz st gg nx)) → h51[S]? = some (oB 7 (lSh G S (nI sz) tt su (nI b0) (nI y0))) → h51[S + 1]? = some (aI 8 tg) → h51[S + 2]? = some (aI 12 (nA po)) → h51[S + 3]? = some (aI 64 lf) → h51[S + 4]? = some (aI 64 be) → h51[S + 5]? = some (aI 8 le) → h51[S + 6]? = some (aI 8 re) → h51[S + 7]? = some (aI 8 g1) → h51[S + 8]? = some (aI 2048 bs) → h51[S + 9]? = some (aI 8 to) → rng S (S + 9) h h51 → AW l G yX7_readGains cX7_readGains 6 none (xR 0 0 0) (fun _ _ => True) QF 0 0 11 [(3, .int (nI nx)), (2, .int (nI (2 ^ sz - 1))), (1, .int (nI st)), (0, .ref (G.1 + S))] [] h51 from L63 (sz - 0 + 1) 0 gg _ (Nat.lt_succ_self _) (Nat.zero_le _) (rfl) hS hS_1 hS_2 hS_3 hS_4 hS_5 hS_6 hS_7 hS_8 hS_9 (rng_rf S (S + 9) h)
  intro mm
  induction mm with
  | zero =>
    intro nx g1 h51 hmm hnx hgn f52 f53 f54 f55 f56 f57 f58 f59 f60 f61 k62
    exact absurd hmm (Nat.not_lt_zero _)
  | succ mm ih63 =>
    intro nx g1 h51 hmm hnx hgn f52 f53 f54 f55 f56 f57 f58 f59 f60 f61 k62
    refine aw_iload_n 0 dX7_readGains_11 rfl rfl ?_
    refine aw_aload_n 3 dX7_readGains_12 rfl rfl ?_
    refine aw_get fX7_39 dX7_readGains_13 f52 rfl ?_
    refine aw_icmp_ge 113 dX7_readGains_16 (by decide) (fun c16 => ?_) (fun c16 => ?_)
    · have d16 := (nv_le (a := sz) (b := nx) (rfl) (rfl) (by omega) (by omega)).mp c16
      subst hQF
      have ez : nx = sz := by omega
      subst ez
      exact aw_vret rfl dX7_readGains_113 (by decide) (by decide) ⟨rfl, f52, f53, f54, f55, f56, f57, f58, by rw [← hgn]; exact f59, f60, f61, k62⟩
    · have d16 := mt (nv_le (a := sz) (b := nx) (rfl) (rfl) (by omega) (by omega)).mpr c16
      refine aw_iload_n 2 dX7_readGains_19 rfl rfl ?_
      refine aw_if_ne 32 dX7_readGains_20 (by decide) (fun c20 => ?_) (fun c20 => ?_)
      · have d20 := mt (nv_eq (a := st) (b := 0) (rfl) (rfl) (by omega) (by omega)).mpr c20
        refine aw_iconst (0) dX7_readGains_32 (by decide) ?_
        refine aw_istore [(4, .int 0), (3, .int (nI nx)), (2, .int (nI (2 ^ sz - 1))), (1, .int (nI st)), (0, .ref (G.1 + S))] dX7_readGains_33 (by decide) rfl ?_
        refine aw_iload_n 3 dX7_readGains_35 rfl rfl ?_
        refine aw_iconst (1) dX7_readGains_36 (by decide) ?_
        refine aw_iload_n 1 dX7_readGains_37 rfl rfl ?_
        refine aw_ishl dX7_readGains_38 ?_
        refine aw_toe (nI (2 ^ nx)) (nv_shl1 (rfl) (by omega)) ?_
        refine aw_ior dX7_readGains_39 ?_
        refine aw_toe (nI (st ||| (2 ^ nx))) (nv_or (rfl) (rfl)) ?_
        refine aw_iload_n 2 dX7_readGains_40 rfl rfl ?_
        have b41 := or_lt8 (a := st) (b := nx) bst (by omega)
        refine aw_icmp_ne 55 dX7_readGains_41 (by decide) (fun c41 => ?_) (fun c41 => ?_)
        · have d41 := mt (nv_eq (a := st ||| (2 ^ nx)) (b := 2 ^ sz - 1) (rfl) (rfl) (by omega) (by omega)).mpr c41
          refine aw_iconst (0) dX7_readGains_55 (by decide) ?_
          refine aw_istore [(5, .int 0), (4, .int 0), (3, .int (nI nx)), (2, .int (nI (2 ^ sz - 1))), (1, .int (nI st)), (0, .ref (G.1 + S))] dX7_readGains_56 (by decide) rfl ?_
          refine aw_lv [(5, .int 0), (4, .int 0), (3, .int (nI nx)), (2, .int (nI (2 ^ sz - 1))), (1, .int (nI st)), (0, .ref (G.1 + S))] [0, 1, 2, 3, 4, 5] rfl ?_
          suffices L64 : ∀ (mm : Nat) (i : Nat) (g : Int32), sz - i < mm → (i ≤ sz) → (g = glF le re lf sz st nx i) → AW l G yX7_readGains cX7_readGains 6 none (xR 0 0 0) (fun _ _ => True) QF 0 0 58 [(5, .int (nI i)), (4, .int g), (3, .int (nI nx)), (2, .int (nI (2 ^ sz - 1))), (1, .int (nI st)), (0, .ref (G.1 + S))] [] h51 from L64 (sz - 0 + 1) 0 0 (Nat.lt_succ_self _) (Nat.zero_le _) (by show _ = gbF le re sz st nx; unfold gbF; rw [if_neg d41, if_neg d20])
          intro mm
          induction mm with
          | zero =>
            intro i g hmm hi hg
            exact absurd hmm (Nat.not_lt_zero _)
          | succ mm ih64 =>
            intro i g hmm hi hg
            refine aw_iload 0 dX7_readGains_58 rfl ?_
            refine aw_aload_n 5 dX7_readGains_60 rfl rfl ?_
            refine aw_get fX7_39 dX7_readGains_61 f52 rfl ?_
            refine aw_icmp_ge 99 dX7_readGains_64 (by decide) (fun c64 => ?_) (fun c64 => ?_)
            · have d64 := (nv_le (a := sz) (b := i) (rfl) (rfl) (by omega) (by omega)).mp c64
              refine aw_aload_n 5 dX7_readGains_99 rfl rfl ?_
              refine aw_get fX7_30 dX7_readGains_100 f52 rfl ?_
              refine aw_iload_n 2 dX7_readGains_103 rfl rfl ?_
              refine aw_iload 1 dX7_readGains_104 rfl ?_
              refine aw_iast nx (rfl) (by omega) (by decide) dX7_readGains_106 f59 ?_
              refine aw_iinc (j := 2) (nI (nx + 1)) [(3, .int (nI (nx + 1))), (5, .int (nI i)), (4, .int g), (2, .int (nI (2 ^ sz - 1))), (1, .int (nI st)), (0, .ref (G.1 + S))] dX7_readGains_107 rfl (nv_inc (rfl)) (by decide) rfl ?_
              refine aw_goto 11 dX7_readGains_110 (by decide) ?_
              refine aw_lv [(3, .int (nI (nx + 1))), (2, .int (nI (2 ^ sz - 1))), (1, .int (nI st)), (0, .ref (G.1 + S))] [0, 3, 4, 5] rfl ?_
              exact ih63 (nx + 1) (upd g1 nx g) _ (by omega) (by omega) (by simp only [gaF]; rw [← hgn, hg, show i = sz by omega]) (gn (by omega) (f52)) (gn (by omega) (f53)) (gn (by omega) (f54)) (gn (by omega) (f55)) (gn (by omega) (f56)) (gn (by omega) (f57)) (gn (by omega) (f58)) (gs f59) (gn (by omega) (f60)) (gn (by omega) (f61)) (rng_set (k62) (by omega) (by omega))
            · have d64 := mt (nv_le (a := sz) (b := i) (rfl) (rfl) (by omega) (by omega)).mpr c64
              refine aw_iload_n 4 dX7_readGains_67 rfl rfl ?_
              refine aw_iload 0 dX7_readGains_68 rfl ?_
              refine aw_ishr dX7_readGains_70 ?_
              refine aw_iconst (1) dX7_readGains_71 (by decide) ?_
              refine aw_iand dX7_readGains_72 ?_
              refine aw_toe (if st.testBit i = true then 1 else 0) (nv_bit (rfl) (rfl) (by omega) (by omega)) ?_
              refine aw_if_eq 93 dX7_readGains_73 (by decide) (fun c73 => ?_) (fun c73 => ?_)
              · have t73 := ite_0 c73
                refine aw_iinc (j := 0) (nI (i + 1)) [(5, .int (nI (i + 1))), (4, .int g), (3, .int (nI nx)), (2, .int (nI (2 ^ sz - 1))), (1, .int (nI st)), (0, .ref (G.1 + S))] dX7_readGains_93 rfl (nv_inc (rfl)) (by decide) rfl ?_
                refine aw_goto 58 dX7_readGains_96 (by decide) ?_
                refine aw_lv [(5, .int (nI (i + 1))), (4, .int g), (3, .int (nI nx)), (2, .int (nI (2 ^ sz - 1))), (1, .int (nI st)), (0, .ref (G.1 + S))] [0, 1, 2, 3, 4, 5] rfl ?_
                exact ih64 (i + 1) g (by omega) (by omega) (by simp only [glF]; rw [if_neg t73]; exact hg)
              · have t73 := ite_1 c73
                refine aw_iload 1 dX7_readGains_76 rfl ?_
                refine aw_aload_n 5 dX7_readGains_78 rfl rfl ?_
                refine aw_get fX7_18 dX7_readGains_79 f52 rfl ?_
                refine aw_iload 0 dX7_readGains_82 rfl ?_
                refine aw_bipush (8) dX7_readGains_84 (by decide) ?_
                refine aw_imul dX7_readGains_86 ?_
                refine aw_iload_n 2 dX7_readGains_87 rfl rfl ?_
                refine aw_iadd dX7_readGains_88 ?_
                refine aw_iald ((i * 8) + nx) (nv_add (nv_mul (rfl) (rfl)) (rfl)) (by omega) (by decide) dX7_readGains_89 f55 ?_
                refine aw_iadd dX7_readGains_90 ?_
                refine aw_istore [(4, .int (g + (lf ((i * 8) + nx)))), (5, .int (nI i)), (3, .int (nI nx)), (2, .int (nI (2 ^ sz - 1))), (1, .int (nI st)), (0, .ref (G.1 + S))] dX7_readGains_91 (by decide) rfl ?_
                refine aw_iinc (j := 1) (nI (i + 1)) [(5, .int (nI (i + 1))), (4, .int (g + (lf ((i * 8) + nx)))), (3, .int (nI nx)), (2, .int (nI (2 ^ sz - 1))), (1, .int (nI st)), (0, .ref (G.1 + S))] dX7_readGains_93 rfl (nv_inc (rfl)) (by decide) rfl ?_
                refine aw_goto 58 dX7_readGains_96 (by decide) ?_
                refine aw_lv [(5, .int (nI (i + 1))), (4, .int (g + (lf ((i * 8) + nx)))), (3, .int (nI nx)), (2, .int (nI (2 ^ sz - 1))), (1, .int (nI st)), (0, .ref (G.1 + S))] [0, 1, 2, 3, 4, 5] rfl ?_
                exact ih64 (i + 1) (g + lf (i * 8 + nx)) (by omega) (by omega) (by simp only [glF]; rw [if_pos t73, ← hg])
        · have d41 := (nv_eq (a := st ||| (2 ^ nx)) (b := 2 ^ sz - 1) (rfl) (rfl) (by omega) (by omega)).mp c41
          refine aw_iload 0 dX7_readGains_44 rfl ?_
          refine aw_aload_n 4 dX7_readGains_46 rfl rfl ?_
          refine aw_get fX7_27 dX7_readGains_47 f52 rfl ?_
          refine aw_iload_n 1 dX7_readGains_50 rfl rfl ?_
          refine aw_iald nx (rfl) (by omega) (by decide) dX7_readGains_51 f58 ?_
          refine aw_iadd dX7_readGains_52 ?_
          refine aw_istore [(4, .int (0 + (re nx))), (3, .int (nI nx)), (2, .int (nI (2 ^ sz - 1))), (1, .int (nI st)), (0, .ref (G.1 + S))] dX7_readGains_53 (by decide) rfl ?_
          refine aw_iconst (0) dX7_readGains_55 (by decide) ?_
          refine aw_istore [(5, .int 0), (4, .int (0 + (re nx))), (3, .int (nI nx)), (2, .int (nI (2 ^ sz - 1))), (1, .int (nI st)), (0, .ref (G.1 + S))] dX7_readGains_56 (by decide) rfl ?_
          refine aw_lv [(5, .int 0), (4, .int (0 + (re nx))), (3, .int (nI nx)), (2, .int (nI (2 ^ sz - 1))), (1, .int (nI st)), (0, .ref (G.1 + S))] [0, 1, 2, 3, 4, 5] rfl ?_
          suffices L65 : ∀ (mm : Nat) (i : Nat) (g : Int32), sz - i < mm → (i ≤ sz) → (g = glF le re lf sz st nx i) → AW l G yX7_readGains cX7_readGains 6 none (xR 0 0 0) (fun _ _ => True) QF 0 0 58 [(5, .int (nI i)), (4, .int g), (3, .int (nI nx)), (2, .int (nI (2 ^ sz - 1))), (1, .int (nI st)), (0, .ref (G.1 + S))] [] h51 from L65 (sz - 0 + 1) 0 (0 + (re nx)) (Nat.lt_succ_self _) (Nat.zero_le _) (by show _ = gbF le re sz st nx; unfold gbF; rw [if_pos d41, if_neg d20])
          intro mm
          induction mm with
          | zero =>
            intro i g hmm hi hg
            exact absurd hmm (Nat.not_lt_zero _)
          | succ mm ih65 =>
            intro i g hmm hi hg
            refine aw_iload 0 dX7_readGains_58 rfl ?_
            refine aw_aload_n 5 dX7_readGains_60 rfl rfl ?_
            refine aw_get fX7_39 dX7_readGains_61 f52 rfl ?_
            refine aw_icmp_ge 99 dX7_readGains_64 (by decide) (fun c64 => ?_) (fun c64 => ?_)
            · have d64 := (nv_le (a := sz) (b := i) (rfl) (rfl) (by omega) (by omega)).mp c64
              refine aw_aload_n 5 dX7_readGains_99 rfl rfl ?_
              refine aw_get fX7_30 dX7_readGains_100 f52 rfl ?_
              refine aw_iload_n 2 dX7_readGains_103 rfl rfl ?_
              refine aw_iload 1 dX7_readGains_104 rfl ?_
              refine aw_iast nx (rfl) (by omega) (by decide) dX7_readGains_106 f59 ?_
              refine aw_iinc (j := 2) (nI (nx + 1)) [(3, .int (nI (nx + 1))), (5, .int (nI i)), (4, .int g), (2, .int (nI (2 ^ sz - 1))), (1, .int (nI st)), (0, .ref (G.1 + S))] dX7_readGains_107 rfl (nv_inc (rfl)) (by decide) rfl ?_
              refine aw_goto 11 dX7_readGains_110 (by decide) ?_
              refine aw_lv [(3, .int (nI (nx + 1))), (2, .int (nI (2 ^ sz - 1))), (1, .int (nI st)), (0, .ref (G.1 + S))] [0, 3, 4, 5] rfl ?_
              exact ih63 (nx + 1) (upd g1 nx g) _ (by omega) (by omega) (by simp only [gaF]; rw [← hgn, hg, show i = sz by omega]) (gn (by omega) (f52)) (gn (by omega) (f53)) (gn (by omega) (f54)) (gn (by omega) (f55)) (gn (by omega) (f56)) (gn (by omega) (f57)) (gn (by omega) (f58)) (gs f59) (gn (by omega) (f60)) (gn (by omega) (f61)) (rng_set (k62) (by omega) (by omega))
            · have d64 := mt (nv_le (a := sz) (b := i) (rfl) (rfl) (by omega) (by omega)).mpr c64
              refine aw_iload_n 4 dX7_readGains_67 rfl rfl ?_
              refine aw_iload 0 dX7_readGains_68 rfl ?_
              refine aw_ishr dX7_readGains_70 ?_
              refine aw_iconst (1) dX7_readGains_71 (by decide) ?_
              refine aw_iand dX7_readGains_72 ?_
              refine aw_toe (if st.testBit i = true then 1 else 0) (nv_bit (rfl) (rfl) (by omega) (by omega)) ?_
              refine aw_if_eq 93 dX7_readGains_73 (by decide) (fun c73 => ?_) (fun c73 => ?_)
              · have t73 := ite_0 c73
                refine aw_iinc (j := 0) (nI (i + 1)) [(5, .int (nI (i + 1))), (4, .int g), (3, .int (nI nx)), (2, .int (nI (2 ^ sz - 1))), (1, .int (nI st)), (0, .ref (G.1 + S))] dX7_readGains_93 rfl (nv_inc (rfl)) (by decide) rfl ?_
                refine aw_goto 58 dX7_readGains_96 (by decide) ?_
                refine aw_lv [(5, .int (nI (i + 1))), (4, .int g), (3, .int (nI nx)), (2, .int (nI (2 ^ sz - 1))), (1, .int (nI st)), (0, .ref (G.1 + S))] [0, 1, 2, 3, 4, 5] rfl ?_
                exact ih65 (i + 1) g (by omega) (by omega) (by simp only [glF]; rw [if_neg t73]; exact hg)
              · have t73 := ite_1 c73
                refine aw_iload 1 dX7_readGains_76 rfl ?_
                refine aw_aload_n 5 dX7_readGains_78 rfl rfl ?_
                refine aw_get fX7_18 dX7_readGains_79 f52 rfl ?_
                refine aw_iload 0 dX7_readGains_82 rfl ?_
                refine aw_bipush (8) dX7_readGains_84 (by decide) ?_
                refine aw_imul dX7_readGains_86 ?_
                refine aw_iload_n 2 dX7_readGains_87 rfl rfl ?_
                refine aw_iadd dX7_readGains_88 ?_
                refine aw_iald ((i * 8) + nx) (nv_add (nv_mul (rfl) (rfl)) (rfl)) (by omega) (by decide) dX7_readGains_89 f55 ?_
                refine aw_iadd dX7_readGains_90 ?_
                refine aw_istore [(4, .int (g + (lf ((i * 8) + nx)))), (5, .int (nI i)), (3, .int (nI nx)), (2, .int (nI (2 ^ sz - 1))), (1, .int (nI st)), (0, .ref (G.1 + S))] dX7_readGains_91 (by decide) rfl ?_
                refine aw_iinc (j := 1) (nI (i + 1)) [(5, .int (nI (i + 1))), (4, .int (g + (lf ((i * 8) + nx)))), (3, .int (nI nx)), (2, .int (nI (2 ^ sz - 1))), (1, .int (nI st)), (0, .ref (G.1 + S))] dX7_readGains_93 rfl (nv_inc (rfl)) (by decide) rfl ?_
                refine aw_goto 58 dX7_readGains_96 (by decide) ?_
                refine aw_lv [(5, .int (nI (i + 1))), (4, .int (g + (lf ((i * 8) + nx)))), (3, .int (nI nx)), (2, .int (nI (2 ^ sz - 1))), (1, .int (nI st)), (0, .ref (G.1 + S))] [0, 1, 2, 3, 4, 5] rfl ?_
                exact ih65 (i + 1) (g + lf (i * 8 + nx)) (by omega) (by omega) (by simp only [glF]; rw [if_pos t73, ← hg])
      · have d20 := (nv_eq (a := st) (b := 0) (rfl) (rfl) (by omega) (by omega)).mp c20
        refine aw_aload_n 3 dX7_readGains_23 rfl rfl ?_
        refine aw_get fX7_24 dX7_readGains_24 f52 rfl ?_
        refine aw_iload_n 0 dX7_readGains_27 rfl rfl ?_
        refine aw_iald nx (rfl) (by omega) (by decide) dX7_readGains_28 f57 ?_
        refine aw_goto 33 dX7_readGains_29 (by decide) ?_
        refine aw_istore [(4, .int (le nx)), (3, .int (nI nx)), (2, .int (nI (2 ^ sz - 1))), (1, .int (nI st)), (0, .ref (G.1 + S))] dX7_readGains_33 (by decide) rfl ?_
        refine aw_iload_n 3 dX7_readGains_35 rfl rfl ?_
        refine aw_iconst (1) dX7_readGains_36 (by decide) ?_
        refine aw_iload_n 1 dX7_readGains_37 rfl rfl ?_
        refine aw_ishl dX7_readGains_38 ?_
        refine aw_toe (nI (2 ^ nx)) (nv_shl1 (rfl) (by omega)) ?_
        refine aw_ior dX7_readGains_39 ?_
        refine aw_toe (nI (st ||| (2 ^ nx))) (nv_or (rfl) (rfl)) ?_
        refine aw_iload_n 2 dX7_readGains_40 rfl rfl ?_
        have b41 := or_lt8 (a := st) (b := nx) bst (by omega)
        refine aw_icmp_ne 55 dX7_readGains_41 (by decide) (fun c41 => ?_) (fun c41 => ?_)
        · have d41 := mt (nv_eq (a := st ||| (2 ^ nx)) (b := 2 ^ sz - 1) (rfl) (rfl) (by omega) (by omega)).mpr c41
          refine aw_iconst (0) dX7_readGains_55 (by decide) ?_
          refine aw_istore [(5, .int 0), (4, .int (le nx)), (3, .int (nI nx)), (2, .int (nI (2 ^ sz - 1))), (1, .int (nI st)), (0, .ref (G.1 + S))] dX7_readGains_56 (by decide) rfl ?_
          refine aw_lv [(5, .int 0), (4, .int (le nx)), (3, .int (nI nx)), (2, .int (nI (2 ^ sz - 1))), (1, .int (nI st)), (0, .ref (G.1 + S))] [0, 1, 2, 3, 4, 5] rfl ?_
          suffices L66 : ∀ (mm : Nat) (i : Nat) (g : Int32), sz - i < mm → (i ≤ sz) → (g = glF le re lf sz st nx i) → AW l G yX7_readGains cX7_readGains 6 none (xR 0 0 0) (fun _ _ => True) QF 0 0 58 [(5, .int (nI i)), (4, .int g), (3, .int (nI nx)), (2, .int (nI (2 ^ sz - 1))), (1, .int (nI st)), (0, .ref (G.1 + S))] [] h51 from L66 (sz - 0 + 1) 0 (le nx) (Nat.lt_succ_self _) (Nat.zero_le _) (by show _ = gbF le re sz st nx; unfold gbF; rw [if_neg d41, if_pos d20])
          intro mm
          induction mm with
          | zero =>
            intro i g hmm hi hg
            exact absurd hmm (Nat.not_lt_zero _)
          | succ mm ih66 =>
            intro i g hmm hi hg
            refine aw_iload 0 dX7_readGains_58 rfl ?_
            refine aw_aload_n 5 dX7_readGains_60 rfl rfl ?_
            refine aw_get fX7_39 dX7_readGains_61 f52 rfl ?_
            refine aw_icmp_ge 99 dX7_readGains_64 (by decide) (fun c64 => ?_) (fun c64 => ?_)
            · have d64 := (nv_le (a := sz) (b := i) (rfl) (rfl) (by omega) (by omega)).mp c64
              refine aw_aload_n 5 dX7_readGains_99 rfl rfl ?_
              refine aw_get fX7_30 dX7_readGains_100 f52 rfl ?_
              refine aw_iload_n 2 dX7_readGains_103 rfl rfl ?_
              refine aw_iload 1 dX7_readGains_104 rfl ?_
              refine aw_iast nx (rfl) (by omega) (by decide) dX7_readGains_106 f59 ?_
              refine aw_iinc (j := 2) (nI (nx + 1)) [(3, .int (nI (nx + 1))), (5, .int (nI i)), (4, .int g), (2, .int (nI (2 ^ sz - 1))), (1, .int (nI st)), (0, .ref (G.1 + S))] dX7_readGains_107 rfl (nv_inc (rfl)) (by decide) rfl ?_
              refine aw_goto 11 dX7_readGains_110 (by decide) ?_
              refine aw_lv [(3, .int (nI (nx + 1))), (2, .int (nI (2 ^ sz - 1))), (1, .int (nI st)), (0, .ref (G.1 + S))] [0, 3, 4, 5] rfl ?_
              exact ih63 (nx + 1) (upd g1 nx g) _ (by omega) (by omega) (by simp only [gaF]; rw [← hgn, hg, show i = sz by omega]) (gn (by omega) (f52)) (gn (by omega) (f53)) (gn (by omega) (f54)) (gn (by omega) (f55)) (gn (by omega) (f56)) (gn (by omega) (f57)) (gn (by omega) (f58)) (gs f59) (gn (by omega) (f60)) (gn (by omega) (f61)) (rng_set (k62) (by omega) (by omega))
            · have d64 := mt (nv_le (a := sz) (b := i) (rfl) (rfl) (by omega) (by omega)).mpr c64
              refine aw_iload_n 4 dX7_readGains_67 rfl rfl ?_
              refine aw_iload 0 dX7_readGains_68 rfl ?_
              refine aw_ishr dX7_readGains_70 ?_
              refine aw_iconst (1) dX7_readGains_71 (by decide) ?_
              refine aw_iand dX7_readGains_72 ?_
              refine aw_toe (if st.testBit i = true then 1 else 0) (nv_bit (rfl) (rfl) (by omega) (by omega)) ?_
              refine aw_if_eq 93 dX7_readGains_73 (by decide) (fun c73 => ?_) (fun c73 => ?_)
              · have t73 := ite_0 c73
                refine aw_iinc (j := 0) (nI (i + 1)) [(5, .int (nI (i + 1))), (4, .int g), (3, .int (nI nx)), (2, .int (nI (2 ^ sz - 1))), (1, .int (nI st)), (0, .ref (G.1 + S))] dX7_readGains_93 rfl (nv_inc (rfl)) (by decide) rfl ?_
                refine aw_goto 58 dX7_readGains_96 (by decide) ?_
                refine aw_lv [(5, .int (nI (i + 1))), (4, .int g), (3, .int (nI nx)), (2, .int (nI (2 ^ sz - 1))), (1, .int (nI st)), (0, .ref (G.1 + S))] [0, 1, 2, 3, 4, 5] rfl ?_
                exact ih66 (i + 1) g (by omega) (by omega) (by simp only [glF]; rw [if_neg t73]; exact hg)
              · have t73 := ite_1 c73
                refine aw_iload 1 dX7_readGains_76 rfl ?_
                refine aw_aload_n 5 dX7_readGains_78 rfl rfl ?_
                refine aw_get fX7_18 dX7_readGains_79 f52 rfl ?_
                refine aw_iload 0 dX7_readGains_82 rfl ?_
                refine aw_bipush (8) dX7_readGains_84 (by decide) ?_
                refine aw_imul dX7_readGains_86 ?_
                refine aw_iload_n 2 dX7_readGains_87 rfl rfl ?_
                refine aw_iadd dX7_readGains_88 ?_
                refine aw_iald ((i * 8) + nx) (nv_add (nv_mul (rfl) (rfl)) (rfl)) (by omega) (by decide) dX7_readGains_89 f55 ?_
                refine aw_iadd dX7_readGains_90 ?_
                refine aw_istore [(4, .int (g + (lf ((i * 8) + nx)))), (5, .int (nI i)), (3, .int (nI nx)), (2, .int (nI (2 ^ sz - 1))), (1, .int (nI st)), (0, .ref (G.1 + S))] dX7_readGains_91 (by decide) rfl ?_
                refine aw_iinc (j := 1) (nI (i + 1)) [(5, .int (nI (i + 1))), (4, .int (g + (lf ((i * 8) + nx)))), (3, .int (nI nx)), (2, .int (nI (2 ^ sz - 1))), (1, .int (nI st)), (0, .ref (G.1 + S))] dX7_readGains_93 rfl (nv_inc (rfl)) (by decide) rfl ?_
                refine aw_goto 58 dX7_readGains_96 (by decide) ?_
                refine aw_lv [(5, .int (nI (i + 1))), (4, .int (g + (lf ((i * 8) + nx)))), (3, .int (nI nx)), (2, .int (nI (2 ^ sz - 1))), (1, .int (nI st)), (0, .ref (G.1 + S))] [0, 1, 2, 3, 4, 5] rfl ?_
                exact ih66 (i + 1) (g + lf (i * 8 + nx)) (by omega) (by omega) (by simp only [glF]; rw [if_pos t73, ← hg])
        · have d41 := (nv_eq (a := st ||| (2 ^ nx)) (b := 2 ^ sz - 1) (rfl) (rfl) (by omega) (by omega)).mp c41
          refine aw_iload 0 dX7_readGains_44 rfl ?_
          refine aw_aload_n 4 dX7_readGains_46 rfl rfl ?_
          refine aw_get fX7_27 dX7_readGains_47 f52 rfl ?_
          refine aw_iload_n 1 dX7_readGains_50 rfl rfl ?_
          refine aw_iald nx (rfl) (by omega) (by decide) dX7_readGains_51 f58 ?_
          refine aw_iadd dX7_readGains_52 ?_
          refine aw_istore [(4, .int ((le nx) + (re nx))), (3, .int (nI nx)), (2, .int (nI (2 ^ sz - 1))), (1, .int (nI st)), (0, .ref (G.1 + S))] dX7_readGains_53 (by decide) rfl ?_
          refine aw_iconst (0) dX7_readGains_55 (by decide) ?_
          refine aw_istore [(5, .int 0), (4, .int ((le nx) + (re nx))), (3, .int (nI nx)), (2, .int (nI (2 ^ sz - 1))), (1, .int (nI st)), (0, .ref (G.1 + S))] dX7_readGains_56 (by decide) rfl ?_
          refine aw_lv [(5, .int 0), (4, .int ((le nx) + (re nx))), (3, .int (nI nx)), (2, .int (nI (2 ^ sz - 1))), (1, .int (nI st)), (0, .ref (G.1 + S))] [0, 1, 2, 3, 4, 5] rfl ?_
          suffices L67 : ∀ (mm : Nat) (i : Nat) (g : Int32), sz - i < mm → (i ≤ sz) → (g = glF le re lf sz st nx i) → AW l G yX7_readGains cX7_readGains 6 none (xR 0 0 0) (fun _ _ => True) QF 0 0 58 [(5, .int (nI i)), (4, .int g), (3, .int (nI nx)), (2, .int (nI (2 ^ sz - 1))), (1, .int (nI st)), (0, .ref (G.1 + S))] [] h51 from L67 (sz - 0 + 1) 0 ((le nx) + (re nx)) (Nat.lt_succ_self _) (Nat.zero_le _) (by show _ = gbF le re sz st nx; unfold gbF; rw [if_pos d41, if_pos d20])
          intro mm
          induction mm with
          | zero =>
            intro i g hmm hi hg
            exact absurd hmm (Nat.not_lt_zero _)
          | succ mm ih67 =>
            intro i g hmm hi hg
            refine aw_iload 0 dX7_readGains_58 rfl ?_
            refine aw_aload_n 5 dX7_readGains_60 rfl rfl ?_
            refine aw_get fX7_39 dX7_readGains_61 f52 rfl ?_
            refine aw_icmp_ge 99 dX7_readGains_64 (by decide) (fun c64 => ?_) (fun c64 => ?_)
            · have d64 := (nv_le (a := sz) (b := i) (rfl) (rfl) (by omega) (by omega)).mp c64
              refine aw_aload_n 5 dX7_readGains_99 rfl rfl ?_
              refine aw_get fX7_30 dX7_readGains_100 f52 rfl ?_
              refine aw_iload_n 2 dX7_readGains_103 rfl rfl ?_
              refine aw_iload 1 dX7_readGains_104 rfl ?_
              refine aw_iast nx (rfl) (by omega) (by decide) dX7_readGains_106 f59 ?_
              refine aw_iinc (j := 2) (nI (nx + 1)) [(3, .int (nI (nx + 1))), (5, .int (nI i)), (4, .int g), (2, .int (nI (2 ^ sz - 1))), (1, .int (nI st)), (0, .ref (G.1 + S))] dX7_readGains_107 rfl (nv_inc (rfl)) (by decide) rfl ?_
              refine aw_goto 11 dX7_readGains_110 (by decide) ?_
              refine aw_lv [(3, .int (nI (nx + 1))), (2, .int (nI (2 ^ sz - 1))), (1, .int (nI st)), (0, .ref (G.1 + S))] [0, 3, 4, 5] rfl ?_
              exact ih63 (nx + 1) (upd g1 nx g) _ (by omega) (by omega) (by simp only [gaF]; rw [← hgn, hg, show i = sz by omega]) (gn (by omega) (f52)) (gn (by omega) (f53)) (gn (by omega) (f54)) (gn (by omega) (f55)) (gn (by omega) (f56)) (gn (by omega) (f57)) (gn (by omega) (f58)) (gs f59) (gn (by omega) (f60)) (gn (by omega) (f61)) (rng_set (k62) (by omega) (by omega))
            · have d64 := mt (nv_le (a := sz) (b := i) (rfl) (rfl) (by omega) (by omega)).mpr c64
              refine aw_iload_n 4 dX7_readGains_67 rfl rfl ?_
              refine aw_iload 0 dX7_readGains_68 rfl ?_
              refine aw_ishr dX7_readGains_70 ?_
              refine aw_iconst (1) dX7_readGains_71 (by decide) ?_
              refine aw_iand dX7_readGains_72 ?_
              refine aw_toe (if st.testBit i = true then 1 else 0) (nv_bit (rfl) (rfl) (by omega) (by omega)) ?_
              refine aw_if_eq 93 dX7_readGains_73 (by decide) (fun c73 => ?_) (fun c73 => ?_)
              · have t73 := ite_0 c73
                refine aw_iinc (j := 0) (nI (i + 1)) [(5, .int (nI (i + 1))), (4, .int g), (3, .int (nI nx)), (2, .int (nI (2 ^ sz - 1))), (1, .int (nI st)), (0, .ref (G.1 + S))] dX7_readGains_93 rfl (nv_inc (rfl)) (by decide) rfl ?_
                refine aw_goto 58 dX7_readGains_96 (by decide) ?_
                refine aw_lv [(5, .int (nI (i + 1))), (4, .int g), (3, .int (nI nx)), (2, .int (nI (2 ^ sz - 1))), (1, .int (nI st)), (0, .ref (G.1 + S))] [0, 1, 2, 3, 4, 5] rfl ?_
                exact ih67 (i + 1) g (by omega) (by omega) (by simp only [glF]; rw [if_neg t73]; exact hg)
              · have t73 := ite_1 c73
                refine aw_iload 1 dX7_readGains_76 rfl ?_
                refine aw_aload_n 5 dX7_readGains_78 rfl rfl ?_
                refine aw_get fX7_18 dX7_readGains_79 f52 rfl ?_
                refine aw_iload 0 dX7_readGains_82 rfl ?_
                refine aw_bipush (8) dX7_readGains_84 (by decide) ?_
                refine aw_imul dX7_readGains_86 ?_
                refine aw_iload_n 2 dX7_readGains_87 rfl rfl ?_
                refine aw_iadd dX7_readGains_88 ?_
                refine aw_iald ((i * 8) + nx) (nv_add (nv_mul (rfl) (rfl)) (rfl)) (by omega) (by decide) dX7_readGains_89 f55 ?_
                refine aw_iadd dX7_readGains_90 ?_
                refine aw_istore [(4, .int (g + (lf ((i * 8) + nx)))), (5, .int (nI i)), (3, .int (nI nx)), (2, .int (nI (2 ^ sz - 1))), (1, .int (nI st)), (0, .ref (G.1 + S))] dX7_readGains_91 (by decide) rfl ?_
                refine aw_iinc (j := 1) (nI (i + 1)) [(5, .int (nI (i + 1))), (4, .int (g + (lf ((i * 8) + nx)))), (3, .int (nI nx)), (2, .int (nI (2 ^ sz - 1))), (1, .int (nI st)), (0, .ref (G.1 + S))] dX7_readGains_93 rfl (nv_inc (rfl)) (by decide) rfl ?_
                refine aw_goto 58 dX7_readGains_96 (by decide) ?_
                refine aw_lv [(5, .int (nI (i + 1))), (4, .int (g + (lf ((i * 8) + nx)))), (3, .int (nI nx)), (2, .int (nI (2 ^ sz - 1))), (1, .int (nI st)), (0, .ref (G.1 + S))] [0, 1, 2, 3, 4, 5] rfl ?_
                exact ih67 (i + 1) (g + lf (i * 8 + nx)) (by omega) (by omega) (by simp only [glF]; rw [if_pos t73, ← hg])
