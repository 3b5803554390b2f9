set_option maxHeartbeats 4000000 in
theorem gX5_add_l {l : Launch} {G : xG} {R : Room} {E : Array Value → State → Prop} {QF : List Frame → Array Value → State → State → Prop} {kc ns : Nat} {od dy : Nat → Nat} {n d0 r : Nat} {wd kv sv dv pv tv : Int32} {hX : List va_E} (c0 : hX[r]? = some (.inr (5, [.ref (G.1 + (r + 1)), .ref (G.1 + (r + 2)), .ref (G.1 + (r + 3)), .ref (G.1 + (r + 4)), .ref (G.1 + (r + 5)), .ref (G.1 + (r + 6)), .ref (G.1 + (r + 7)), .int (nI n), .int wd]))) (c3 : hX[r + 3]? = some (.inl (0, 60, .inl (nA (un dy n d0))))) (hn : n < 60) (hod : srt dy od n) (ed : dv = nI d0) (bd : d0 ≤ 80000) (hdy : ∀ j, j < 60 → dy j ≤ 80000)
    (K : ∀ (a : Nat) (h' : List va_E) (av : Int32), av = nI a → a ≤ n → (0 < a → dy (od (a - 1)) ≤ d0) → (∀ j, a ≤ j → j < n → d0 < dy (od j)) → ex1 (r + 7) hX h' → h'[r + 7]? = some (.inl (0, 60, .inl (nA (shF od a n)))) → AW l G yX5_addRecord cX5_addRecord 8 (some .int) R E QF kc ns 106 [(7, .int av), (6, .int (nI n)), (0, .ref (G.1 + r))] [] h') :
    ∀ (a : Nat) (h : List va_E) (av : Int32), a ≤ n → av = nI a → (∀ j, a ≤ j → j < n → d0 < dy (od j)) → ex1 (r + 7) hX h → h[r + 7]? = some (.inl (0, 60, .inl (nA (shF od a n)))) → AW l G yX5_addRecord cX5_addRecord 8 (some .int) R E QF kc ns 61 [(7, .int av), (6, .int (nI n)), (5, .int kv), (4, .int sv), (3, .int dv), (2, .int pv), (1, .int tv), (0, .ref (G.1 + r))] [] h := by
  intro a
  induction a with
  | zero =>
    intro h av han ea hj hk h7
    have g0 := ex1_at hk (by omega) c0
    have g3 := ex1_at hk (by omega) c3
    refine aw_iload 0 dX5_addRecord_61 rfl ?_
    refine aw_if_le 106 dX5_addRecord_63 (by decide) (fun c63 => ?_) (fun c63 => absurd (by simp only [i_le, (i_toNat (ea) (by omega)), (show (0 : Int32).toInt = 0 from rfl)] <;> omega) c63)
    refine aw_lv [(7, .int av), (6, .int (nI n)), (0, .ref (G.1 + r))] [0, 1, 7] rfl ?_
    exact K 0 h _ ea han (fun q => absurd q (by omega)) hj hk h7
  | succ a ih =>
    intro h av han ea hj hk h7
    have g0 := ex1_at hk (by omega) c0
    have g3 := ex1_at hk (by omega) c3
    have e1 : shF od (a + 1) n a = od a := shF_at (by omega)
    have b1 := hod.1 a (by omega)
    have e2 : un dy n d0 (od a) = dy (od a) := un_n (by omega)
    have b2 := hdy (od a) (by omega)
    refine aw_iload 0 dX5_addRecord_61 rfl ?_
    refine aw_if_le 106 dX5_addRecord_63 (by decide) (fun c63 => absurd c63 (by simp only [i_le, (i_toNat (ea) (by omega)), (show (0 : Int32).toInt = 0 from rfl)] <;> omega)) (fun c63 => ?_)
    refine aw_aload_n 7 dX5_addRecord_66 rfl rfl ?_
    refine aw_get fX5_18 dX5_addRecord_67 g0 rfl ?_
    refine aw_aload_n 7 dX5_addRecord_70 rfl rfl ?_
    refine aw_get fX5_30 dX5_addRecord_71 g0 rfl ?_
    refine aw_iload 0 dX5_addRecord_74 rfl ?_
    refine aw_iconst (1) dX5_addRecord_76 (by decide) ?_
    refine aw_isub dX5_addRecord_77 ?_
    refine aw_iald a (nv_p1 (ea)) (by omega) (by decide) dX5_addRecord_78 h7 ?_
    refine aw_toe (nI (od a)) (by show nI _ = _; rw [e1]) ?_
    refine aw_iald (od a) (rfl) (by omega) (by decide) dX5_addRecord_79 g3 ?_
    refine aw_toe (nI (dy (od a))) (by show nI _ = _; rw [e2]) ?_
    refine aw_iload_n 4 dX5_addRecord_80 rfl rfl ?_
    refine aw_icmp_le 106 dX5_addRecord_81 (by decide) (fun c81 => ?_) (fun c81 => ?_)
    · refine aw_lv [(7, .int av), (6, .int (nI n)), (0, .ref (G.1 + r))] [0, 1, 7] rfl ?_
      exact K (a + 1) h _ ea han (fun _ => by have c9 := c81; rw [ed, nI_leI (by omega) (by omega)] at c9; simpa using c9) hj hk h7
    · refine aw_aload_n 7 dX5_addRecord_84 rfl rfl ?_
      refine aw_get fX5_30 dX5_addRecord_85 g0 rfl ?_
      refine aw_iload 0 dX5_addRecord_88 rfl ?_
      refine aw_aload_n 7 dX5_addRecord_90 rfl rfl ?_
      refine aw_get fX5_30 dX5_addRecord_91 g0 rfl ?_
      refine aw_iload 0 dX5_addRecord_94 rfl ?_
      refine aw_iconst (1) dX5_addRecord_96 (by decide) ?_
      refine aw_isub dX5_addRecord_97 ?_
      refine aw_iald a (nv_p1 (ea)) (by omega) (by decide) dX5_addRecord_98 h7 ?_
      refine aw_toe (nI (od a)) (by show nI _ = _; rw [e1]) ?_
      refine aw_iast (a + 1) (ea) (by omega) (by decide) dX5_addRecord_99 h7 ?_
      rw [nA_u (f := (shF od (a + 1) n)) (i := (a + 1)) (x := (nI (od a))) (v := od a) (rfl)]
      obtain ⟨v1, ev1⟩ : ∃ q : Int32, q = av + Int32.ofInt (-1) := ⟨_, rfl⟩
      refine aw_iinc (j := 0) v1 [(7, .int v1), (6, .int (nI n)), (5, .int kv), (4, .int sv), (3, .int dv), (2, .int pv), (1, .int tv), (0, .ref (G.1 + r))] dX5_addRecord_100 rfl ev1.symm (by decide) rfl ?_
      refine aw_goto 61 dX5_addRecord_103 (by decide) ?_
      refine aw_lv [(7, .int v1), (6, .int (nI n)), (5, .int kv), (4, .int sv), (3, .int dv), (2, .int pv), (1, .int tv), (0, .ref (G.1 + r))] [0, 1, 2, 3, 4, 5, 6, 7] rfl ?_
      refine ih _ _ (by omega) (ev1.trans (nv_d1 ea)) (fun j j1 j2 => ?_) (ex1_set hk) (by rw [← shF_s (od := od) (a := a) (n := n) (by omega)]; exact (gs h7))
      by_cases e : j = a
      · rw [e]; have c9 := c81; rw [ed, nI_leI (by omega) (by omega)] at c9; omega
      · exact hj j (by omega) j2
set_option maxHeartbeats 4000000 in
theorem gX5_addRecord {l : Launch} {G : xG} {h : List va_E} {th ot dy so kn go od : Nat → Nat} {n : Nat} {wd : Int32} {r : Nat} {tv pv dv sv kv : Int32} {t0 p0 d0 s0 k0 : Nat} (hR : xRec G r th ot dy so kn go od n wd h) (hn : n < 60) (hod : srt dy od n) (hdy : ∀ j, j < 60 → dy j ≤ 80000) (et : tv = nI t0) (ep : pv = nI p0) (ed : dv = nI d0) (bd : d0 ≤ 80000) (es : sv = nI s0) (ek : kv = nI k0) : CE l G yX5_addRecord cX5_addRecord 8 (some .int) 0 0 0 [.ref (G.1 + r), .int tv, .int pv, .int dv, .int sv, .int kv] h (some (.int (nI n))) (fun h1 => ∃ od1, xRec G r (un th n t0) (un ot n p0) (un dy n d0) (un so n s0) (un kn n k0) (un go n 80001) od1 (n + 1) wd h1 ∧ srt (un dy n d0) od1 (n + 1) ∧ rng r (r + 7) h h1) := by
  refine cm_of rfl (Nat.le_of_ble_eq_true rfl) [(0, .ref (G.1 + r)), (1, .int tv), (2, .int pv), (3, .int dv), (4, .int sv), (5, .int kv)] rfl ?_
  refine aw_aload_n 0 dX5_addRecord_0 rfl rfl ?_
  refine aw_get fX5_33 dX5_addRecord_1 hR.1 rfl ?_
  refine aw_istore [(6, .int (nI n)), (0, .ref (G.1 + r)), (1, .int tv), (2, .int pv), (3, .int dv), (4, .int sv), (5, .int kv)] dX5_addRecord_4 (by decide) rfl ?_
  refine aw_aload_n 1 dX5_addRecord_6 rfl rfl ?_
  refine aw_get fX5_9 dX5_addRecord_7 hR.1 rfl ?_
  refine aw_iload 0 dX5_addRecord_10 rfl ?_
  refine aw_iload_n 2 dX5_addRecord_12 rfl rfl ?_
  refine aw_iast n (rfl) (by omega) (by decide) dX5_addRecord_13 hR.2.1 ?_
  rw [nA_u (f := th) (i := n) (x := tv) (v := t0) (et)]
  refine aw_aload_n 1 dX5_addRecord_14 rfl rfl ?_
  refine aw_get fX5_15 dX5_addRecord_15 (gn (by omega) (hR.1)) rfl ?_
  refine aw_iload 0 dX5_addRecord_18 rfl ?_
  refine aw_iload_n 3 dX5_addRecord_20 rfl rfl ?_
  refine aw_iast n (rfl) (by omega) (by decide) dX5_addRecord_21 (gn (by omega) (hR.2.2.1)) ?_
  rw [nA_u (f := ot) (i := n) (x := pv) (v := p0) (ep)]
  refine aw_aload_n 1 dX5_addRecord_22 rfl rfl ?_
  refine aw_get fX5_18 dX5_addRecord_23 (gn (by omega) (gn (by omega) (hR.1))) rfl ?_
  refine aw_iload 0 dX5_addRecord_26 rfl ?_
  refine aw_iload_n 4 dX5_addRecord_28 rfl rfl ?_
  refine aw_iast n (rfl) (by omega) (by decide) dX5_addRecord_29 (gn (by omega) (gn (by omega) (hR.2.2.2.1))) ?_
  rw [nA_u (f := dy) (i := n) (x := dv) (v := d0) (ed)]
  refine aw_aload_n 1 dX5_addRecord_30 rfl rfl ?_
  refine aw_get fX5_21 dX5_addRecord_31 (gn (by omega) (gn (by omega) (gn (by omega) (hR.1)))) rfl ?_
  refine aw_iload 0 dX5_addRecord_34 rfl ?_
  refine aw_iload 5 dX5_addRecord_36 rfl ?_
  refine aw_iast n (rfl) (by omega) (by decide) dX5_addRecord_38 (gn (by omega) (gn (by omega) (gn (by omega) (hR.2.2.2.2.1)))) ?_
  rw [nA_u (f := so) (i := n) (x := sv) (v := s0) (es)]
  refine aw_aload_n 1 dX5_addRecord_39 rfl rfl ?_
  refine aw_get fX5_24 dX5_addRecord_40 (gn (by omega) (gn (by omega) (gn (by omega) (gn (by omega) (hR.1))))) rfl ?_
  refine aw_iload 0 dX5_addRecord_43 rfl ?_
  refine aw_iload 6 dX5_addRecord_45 rfl ?_
  refine aw_iast n (rfl) (by omega) (by decide) dX5_addRecord_47 (gn (by omega) (gn (by omega) (gn (by omega) (gn (by omega) (hR.2.2.2.2.2.1))))) ?_
  rw [nA_u (f := kn) (i := n) (x := kv) (v := k0) (ek)]
  refine aw_aload_n 1 dX5_addRecord_48 rfl rfl ?_
  refine aw_get fX5_27 dX5_addRecord_49 (gn (by omega) (gn (by omega) (gn (by omega) (gn (by omega) (gn (by omega) (hR.1)))))) rfl ?_
  refine aw_iload 0 dX5_addRecord_52 rfl ?_
  refine aw_ldc (80001) kX5_40 dX5_addRecord_54 ?_
  refine aw_iast n (rfl) (by omega) (by decide) dX5_addRecord_56 (gn (by omega) (gn (by omega) (gn (by omega) (gn (by omega) (gn (by omega) (hR.2.2.2.2.2.2.1)))))) ?_
  rw [nA_u (f := go) (i := n) (x := 80001) (v := 80001) (rfl)]
  refine aw_iload 0 dX5_addRecord_57 rfl ?_
  refine aw_istore [(7, .int (nI n)), (6, .int (nI n)), (0, .ref (G.1 + r)), (1, .int tv), (2, .int pv), (3, .int dv), (4, .int sv), (5, .int kv)] dX5_addRecord_59 (by decide) rfl ?_
  refine aw_lv [(7, .int (nI n)), (6, .int (nI n)), (5, .int kv), (4, .int sv), (3, .int dv), (2, .int pv), (1, .int tv), (0, .ref (G.1 + r))] [0, 1, 7, 6, 5, 4, 3, 2] rfl ?_
  refine aw_fg (fun hX => hX[r]? = some (.inr (5, [.ref (G.1 + (r + 1)), .ref (G.1 + (r + 2)), .ref (G.1 + (r + 3)), .ref (G.1 + (r + 4)), .ref (G.1 + (r + 5)), .ref (G.1 + (r + 6)), .ref (G.1 + (r + 7)), .int (nI n), .int wd])) ∧ hX[r + 1]? = some (.inl (0, 60, .inl (nA (un th n t0)))) ∧ hX[r + 2]? = some (.inl (0, 60, .inl (nA (un ot n p0)))) ∧ hX[r + 3]? = some (.inl (0, 60, .inl (nA (un dy n d0)))) ∧ hX[r + 4]? = some (.inl (0, 60, .inl (nA (un so n s0)))) ∧ hX[r + 5]? = some (.inl (0, 60, .inl (nA (un kn n k0)))) ∧ hX[r + 6]? = some (.inl (0, 60, .inl (nA (un go n 80001)))) ∧ hX[r + 7]? = some (.inl (0, 60, .inl (nA od))) ∧ rng r (r + 7) h hX) ⟨(gn (by omega) (gn (by omega) (gn (by omega) (gn (by omega) (gn (by omega) (gn (by omega) (hR.1))))))), (gn (by omega) (gn (by omega) (gn (by omega) (gn (by omega) (gn (by omega) (gs hR.2.1)))))), (gn (by omega) (gn (by omega) (gn (by omega) (gn (by omega) (gs (gn (by omega) (hR.2.2.1))))))), (gn (by omega) (gn (by omega) (gn (by omega) (gs (gn (by omega) (gn (by omega) (hR.2.2.2.1))))))), (gn (by omega) (gn (by omega) (gs (gn (by omega) (gn (by omega) (gn (by omega) (hR.2.2.2.2.1))))))), (gn (by omega) (gs (gn (by omega) (gn (by omega) (gn (by omega) (gn (by omega) (hR.2.2.2.2.2.1))))))), (gs (gn (by omega) (gn (by omega) (gn (by omega) (gn (by omega) (gn (by omega) (hR.2.2.2.2.2.2.1))))))), (gn (by omega) (gn (by omega) (gn (by omega) (gn (by omega) (gn (by omega) (gn (by omega) (hR.2.2.2.2.2.2.2))))))), rng_set (rng_set (rng_set (rng_set (rng_set (rng_set (rng_rf r (r + 7) h) (by omega) (by omega)) (by omega) (by omega)) (by omega) (by omega)) (by omega) (by omega)) (by omega) (by omega)) (by omega) (by omega)⟩ ?_
  rintro hX ⟨x0, x1, x2, x3, x4, x5, x6, x7, xk⟩
  refine gX5_add_l x0 x3 hn hod ed bd hdy ?_ n hX _ (Nat.le_refl n) rfl (fun j j1 j2 => absurd j1 (by omega)) (ex1_rf _ hX) (by rw [shF_n]; exact x7)
  intro a h2 av ea han d1 d2 k2 m2
  refine aw_aload_n 2 dX5_addRecord_106 rfl rfl ?_
  refine aw_get fX5_30 dX5_addRecord_107 (ex1_at k2 (by omega) x0) rfl ?_
  refine aw_iload 0 dX5_addRecord_110 rfl ?_
  refine aw_iload 1 dX5_addRecord_112 rfl ?_
  refine aw_iast a (ea) (by omega) (by decide) dX5_addRecord_114 m2 ?_
  rw [nA_u (f := (shF od a n)) (i := a) (x := (nI n)) (v := n) (rfl)]
  refine aw_aload_n 2 dX5_addRecord_115 rfl rfl ?_
  refine aw_iload 1 dX5_addRecord_116 rfl ?_
  refine aw_iconst (1) dX5_addRecord_118 (by decide) ?_
  refine aw_iadd dX5_addRecord_119 ?_
  refine aw_toe (nI (n + 1)) (nv_add (rfl) (rfl)) ?_
  refine aw_putQ fX5_33 dX5_addRecord_120 [.ref (G.1 + (r + 1)), .ref (G.1 + (r + 2)), .ref (G.1 + (r + 3)), .ref (G.1 + (r + 4)), .ref (G.1 + (r + 5)), .ref (G.1 + (r + 6)), .ref (G.1 + (r + 7)), .int (nI (n + 1)), .int wd] (gn (by omega) (ex1_at k2 (by omega) x0)) rfl rfl rfl (Nat.le_of_ble_eq_true rfl) rfl ?_
  refine aw_iload 1 dX5_addRecord_123 rfl ?_
  exact aw_iret rfl dX5_addRecord_125 (by decide) (by decide) ⟨rfl, _, ⟨(gs (gn (by omega) (ex1_at k2 (by omega) x0))), (gn (by omega) (gn (by omega) (ex1_at k2 (by omega) x1))), (gn (by omega) (gn (by omega) (ex1_at k2 (by omega) x2))), (gn (by omega) (gn (by omega) (ex1_at k2 (by omega) x3))), (gn (by omega) (gn (by omega) (ex1_at k2 (by omega) x4))), (gn (by omega) (gn (by omega) (ex1_at k2 (by omega) x5))), (gn (by omega) (gn (by omega) (ex1_at k2 (by omega) x6))), (gn (by omega) (gs m2))⟩, srt_add hod han d1 d2, rng_set (rng_set (rng_tr xk (rng_w (ex1_rng k2) (by omega) (by omega))) (by omega) (by omega)) (by omega) (by omega)⟩
