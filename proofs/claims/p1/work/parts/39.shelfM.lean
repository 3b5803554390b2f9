def xMs (G : xG) (tM rF : Nat → Int32) (sz : Int32) (h : List va_E) : Prop := h[88]? = some (.inr (9, [.ref (G.1 + 89), .ref (G.1 + 90), .ref (G.1 + 91), .ref (G.1 + 92), .ref (G.1 + 93), .ref (G.1 + 94), .ref (G.1 + 95), .ref (G.1 + 96), .ref (G.1 + 97), .ref (G.1 + 98), .int 5, .int 1, .int 0, .ref (G.1 + 99), .ref (G.1 + 100), .ref (G.1 + 101), .ref (G.1 + 102), .int 0, .int 0, .ref (G.1 + 103), .ref (G.1 + 104), .ref (G.1 + 105), .ref (G.1 + 106), .ref (G.1 + 107), .ref (G.1 + 108), .ref (G.1 + 109), .ref (G.1 + 110), .ref (G.1 + 111), .ref (G.1 + 112), .ref (G.1 + 113), .ref (G.1 + 114), .ref (G.1 + 115), .int 0, .int 0, .int 0, .int 0, .ref (G.1 + 116), .ref (G.1 + 117), .ref (G.1 + 118), .ref (G.1 + 119), .ref (G.1 + 120), .ref (G.1 + 121), .ref (G.1 + 122), .int sz, .ref (G.1 + 123), .ref (G.1 + 124)])) ∧ h[120]? = some (.inl (0, 8, .inl tM)) ∧ h[121]? = some (.inl (0, 2304, .inl (fun _ => 0))) ∧ h[122]? = some (.inl (0, 8, .inl rF))
theorem lm_t {x : Int32} {q : Nat} (e : x = nI q - 1) (hq : q < 2 ^ 30) : x.toInt = (q : Int) - 1 := by
  rw [e]; exact pk_sub_toInt (a := q) (b := 1) hq (by decide)
theorem lm_a {x z : Int32} {a q : Nat} (e1 : x = nI a) (e : z = nI q - 1) : (x + z) + 1 = nI (a + q) := by
  rw [e1, e, Int32.add_assoc, Int32.sub_add_cancel, nI_add]
theorem lm_s {x : Int32} {q : Nat} (e : x = nI q - 1) : x + Int32.ofInt 1 = nI (q + 1) - 1 := by
  rw [e, nI_pred q, show Int32.ofInt 1 = (1 : Int32) from rfl, Int32.sub_add_cancel]
theorem lm_d {x : Int32} {q : Nat} (e : x = nI q) : x + Int32.ofInt (-1) = nI q - 1 := by
  rw [e, show Int32.ofInt (-1) = (-1 : Int32) from rfl, Int32.sub_eq_add_neg]
theorem lm_p {x : Int32} {q : Nat} (e : x = nI (q + 1) - 1) : x = nI q := by rw [e, nI_pred]
theorem all_bits {p n : Nat} (hp : p < 2 ^ n) (h : ∀ j, j < n → p.testBit j = true) : p = 2 ^ n - 1 := by
  apply Nat.eq_of_testBit_eq
  intro j
  rw [pw_b]
  by_cases hj : j < n
  · simp [hj, h j hj]
  · simp only [hj, decide_false]
    exact Nat.testBit_lt_two_pow (Nat.lt_of_lt_of_le hp (Nat.pow_le_pow_right (by decide) (by omega)))
set_option maxHeartbeats 4000000 in
theorem X9_wins_o {l : Launch} {G : xG} {h : List va_E} {tM rF : Nat → Int32} {sz w p la kv : Int32} {k : Nat} (hS : xMs G tM rF sz h) (ek : kv = nI k) (bk : k < 8) : CD l G yX9_wins cX9_wins 10 (some .int) 0 0 0 [.ref (G.1 + 88), .int w, .int p, .int la, .int kv] h (some (.int 0)) h := by
  refine cm_of rfl (Nat.le_of_ble_eq_true rfl) [(0, .ref (G.1 + 88)), (1, .int w), (2, .int p), (3, .int la), (4, .int kv)] rfl ?_
  refine aw_aload_n 0 dX9_wins_0 rfl rfl ?_
  refine aw_get fX9_110 dX9_wins_1 hS.1 rfl ?_
  refine aw_iload 4 dX9_wins_4 rfl ?_
  refine aw_iald k (ek) (by omega) (by decide) dX9_wins_6 hS.2.1 ?_
  refine aw_top (fun v1 ev1 => ?_)
  refine aw_istore [(5, .int v1), (0, .ref (G.1 + 88)), (1, .int w), (2, .int p), (3, .int la), (4, .int kv)] dX9_wins_7 (by decide) rfl ?_
  refine aw_iconst (0) dX9_wins_9 (by decide) ?_
  refine aw_istore [(6, .int 0), (5, .int v1), (0, .ref (G.1 + 88)), (1, .int w), (2, .int p), (3, .int la), (4, .int kv)] dX9_wins_10 (by decide) rfl ?_
  refine aw_iconst (0) dX9_wins_12 (by decide) ?_
  refine aw_istore [(7, .int 0), (6, .int 0), (5, .int v1), (0, .ref (G.1 + 88)), (1, .int w), (2, .int p), (3, .int la), (4, .int kv)] dX9_wins_13 (by decide) rfl ?_
  refine aw_iload 0 dX9_wins_15 rfl ?_
  refine aw_aload_n 3 dX9_wins_17 rfl rfl ?_
  refine aw_get fX9_227 dX9_wins_18 hS.1 rfl ?_
  refine aw_icmp_ge 308 dX9_wins_21 (by decide) (fun c21 => ?_) (fun c21 => absurd (by decide) c21)
  refine aw_iload 1 dX9_wins_308 rfl ?_
  exact aw_iret rfl dX9_wins_310 (by decide) (by decide) ⟨rfl, rfl⟩
set_option maxHeartbeats 4000000 in
theorem X9_shelves_k {l : Launch} {G : xG} {R : Room} {E : Array Value → State → Prop} {QF : List Frame → Array Value → State → State → Prop} {kc ns : Nat} {h : List va_E} {tM rF : Nat → Int32} {sz : Int32} {n : Nat} {pv la av w : Int32} {p : Nat} (hS : xMs G tM rF sz h) (en : sz = nI n) (hn : n ≤ 8) (ep : pv = nI p) (bp : p < 2 ^ n) (bp8 : p < 256) (hR : 1 ≤ R.frames ∧ 40 ≤ R.locals ∧ kc ≤ R.cells ∧ ns ≤ R.slots)
    (K : AW l G yX9_shelves cX9_shelves 7 (some .int) R E QF kc ns 153 [(5, .int 0), (4, .int la), (3, .int pv), (2, .int av), (1, .int w), (0, .ref (G.1 + 88))] [] h) :
    ∀ (m i : Nat) (iv bv : Int32), i + m = n → iv = nI i → (bv = 0 ∨ (bv = -1 ∧ p ≠ 2 ^ n - 1 ∧ ∀ j, j < i → p.testBit j = true)) → AW l G yX9_shelves cX9_shelves 7 (some .int) R E QF kc ns 92 [(6, .int iv), (5, .int bv), (4, .int la), (3, .int pv), (2, .int av), (1, .int w), (0, .ref (G.1 + 88))] [] h := by
  intro m
  induction m with
  | zero =>
    intro i iv bv hi ei hv
    have hi2 : i = n := by omega
    have hb0 : bv = 0 := by
      rcases hv with e | ⟨_, e2, e3⟩
      · exact e
      · exact absurd (all_bits bp (by rw [← hi2]; exact e3)) e2
    subst hb0
    refine aw_iload 0 dX9_shelves_92 rfl ?_
    refine aw_aload_n 6 dX9_shelves_94 rfl rfl ?_
    refine aw_get fX9_233 dX9_shelves_95 hS.1 rfl ?_
    refine aw_icmp_ge 153 dX9_shelves_98 (by decide) (fun c98 => ?_) (fun c98 => absurd (by simp only [i_le, (i_toNat (ei) (by omega)), (i_toNat (en) (by omega))] <;> omega) c98)
    refine aw_lv [(5, .int 0), (4, .int la), (3, .int pv), (2, .int av), (1, .int w), (0, .ref (G.1 + 88))] [1, 2, 3, 4, 5, 6] rfl ?_
    exact K
  | succ m ih =>
    intro i iv bv hi ei hv
    cases hb : p.testBit i
    · refine aw_iload 0 dX9_shelves_92 rfl ?_
      refine aw_aload_n 6 dX9_shelves_94 rfl rfl ?_
      refine aw_get fX9_233 dX9_shelves_95 hS.1 rfl ?_
      refine aw_icmp_ge 153 dX9_shelves_98 (by decide) (fun c98 => absurd c98 (by simp only [i_le, (i_toNat (ei) (by omega)), (i_toNat (en) (by omega))] <;> omega)) (fun c98 => ?_)
      refine aw_iload_n 3 dX9_shelves_101 rfl rfl ?_
      refine aw_iload 0 dX9_shelves_102 rfl ?_
      refine aw_ishr dX9_shelves_104 ?_
      refine aw_iconst (1) dX9_shelves_105 (by decide) ?_
      refine aw_iand dX9_shelves_106 ?_
      refine aw_if_ne 147 dX9_shelves_107 (by decide) (fun c107 => absurd (nv_bf ep ei (by omega) (by omega) hb) c107) (fun c107 => ?_)
      refine aw_iload 1 dX9_shelves_110 rfl ?_
      refine aw_aload_n 6 dX9_shelves_112 rfl rfl ?_
      refine aw_iload_n 5 dX9_shelves_113 rfl rfl ?_
      refine aw_iload_n 3 dX9_shelves_114 rfl rfl ?_
      refine aw_iload 2 dX9_shelves_115 rfl ?_
      refine aw_iload 0 dX9_shelves_117 rfl ?_
      refine aw_dV [.int w, .int pv, .int la, .int iv] [.int bv] lX9_236 vX9_wins mX9_wins dX9_shelves_119 (X9_wins_o hS (ei) (by omega)) hS.1 rfl rfl rfl (Nat.le_of_ble_eq_true rfl) (by omega) (by omega) rfl ?_
      refine aw_aload_n 6 dX9_shelves_122 rfl rfl ?_
      refine aw_get fX9_113 dX9_shelves_123 hS.1 rfl ?_
      refine aw_bipush (9) dX9_shelves_126 (by decide) ?_
      refine aw_iload_n 3 dX9_shelves_128 rfl rfl ?_
      refine aw_iconst (1) dX9_shelves_129 (by decide) ?_
      refine aw_iload 0 dX9_shelves_130 rfl ?_
      refine aw_ishl dX9_shelves_132 ?_
      refine aw_ior dX9_shelves_133 ?_
      refine aw_imul dX9_shelves_134 ?_
      refine aw_iload 0 dX9_shelves_135 rfl ?_
      refine aw_iadd dX9_shelves_137 ?_
      refine aw_iconst (1) dX9_shelves_138 (by decide) ?_
      refine aw_iadd dX9_shelves_139 ?_
      refine aw_iald (9 * (p ||| 2 ^ i) + i + 1) (nv_add (nv_add (nv_mul rfl (nv_or1 ep ei (by omega))) ei) rfl) (by have := or_lt8 (b := i) bp8 (by omega); omega) (by decide) dX9_shelves_140 hS.2.2.1 ?_
      refine aw_toe 0 (rfl) ?_
      refine aw_iadd dX9_shelves_141 ?_
      refine aw_toe 0 (by decide) ?_
      refine aw_mmax lX9_162 dX9_shelves_142 (Nat.le_of_ble_eq_true rfl) (by omega) (by omega) ?_
      refine aw_toe 0 (by rcases hv with e | ⟨e, _⟩ <;> rw [e] <;> decide) ?_
      refine aw_istore [(5, .int 0), (6, .int iv), (4, .int la), (3, .int pv), (2, .int av), (1, .int w), (0, .ref (G.1 + 88))] dX9_shelves_145 (by decide) rfl ?_
      obtain ⟨v2, ev2⟩ : ∃ q : Int32, q = iv + Int32.ofInt (1) := ⟨_, rfl⟩
      refine aw_iinc (j := 1) v2 [(6, .int v2), (5, .int 0), (4, .int la), (3, .int pv), (2, .int av), (1, .int w), (0, .ref (G.1 + 88))] dX9_shelves_147 rfl ev2.symm (by decide) rfl ?_
      refine aw_goto 92 dX9_shelves_150 (by decide) ?_
      refine aw_lv [(6, .int v2), (5, .int 0), (4, .int la), (3, .int pv), (2, .int av), (1, .int w), (0, .ref (G.1 + 88))] [0, 1, 2, 3, 4, 5, 6] rfl ?_
      exact ih (i + 1) _ _ (by omega) (ev2.trans (nv_inc (ei))) (Or.inl rfl)
    · refine aw_iload 0 dX9_shelves_92 rfl ?_
      refine aw_aload_n 6 dX9_shelves_94 rfl rfl ?_
      refine aw_get fX9_233 dX9_shelves_95 hS.1 rfl ?_
      refine aw_icmp_ge 153 dX9_shelves_98 (by decide) (fun c98 => absurd c98 (by simp only [i_le, (i_toNat (ei) (by omega)), (i_toNat (en) (by omega))] <;> omega)) (fun c98 => ?_)
      refine aw_iload_n 3 dX9_shelves_101 rfl rfl ?_
      refine aw_iload 0 dX9_shelves_102 rfl ?_
      refine aw_ishr dX9_shelves_104 ?_
      refine aw_iconst (1) dX9_shelves_105 (by decide) ?_
      refine aw_iand dX9_shelves_106 ?_
      refine aw_if_ne 147 dX9_shelves_107 (by decide) (fun c107 => ?_) (fun c107 => absurd c107 (by rw [nv_bt ep ei (by omega) (by omega) hb]; decide))
      obtain ⟨v3, ev3⟩ : ∃ q : Int32, q = iv + Int32.ofInt (1) := ⟨_, rfl⟩
      refine aw_iinc (j := 0) v3 [(6, .int v3), (5, .int bv), (4, .int la), (3, .int pv), (2, .int av), (1, .int w), (0, .ref (G.1 + 88))] dX9_shelves_147 rfl ev3.symm (by decide) rfl ?_
      refine aw_goto 92 dX9_shelves_150 (by decide) ?_
      refine aw_lv [(6, .int v3), (5, .int bv), (4, .int la), (3, .int pv), (2, .int av), (1, .int w), (0, .ref (G.1 + 88))] [0, 1, 2, 3, 4, 5, 6] rfl ?_
      refine ih (i + 1) _ _ (by omega) (ev3.trans (nv_inc (ei))) ?_
      rcases hv with e | ⟨e1, e2, e3⟩
      · exact Or.inl e
      · refine Or.inr ⟨e1, e2, fun j hj => ?_⟩
        by_cases q : j = i
        · rw [q]; exact hb
        · exact e3 j (by omega)
set_option maxHeartbeats 4000000 in
theorem X9_shelves_q {l : Launch} {G : xG} {R : Room} {E : Array Value → State → Prop} {QF : List Frame → Array Value → State → State → Prop} {kc ns : Nat} {tM rF : Nat → Int32} {sz : Int32} {n : Nat} {pv av w : Int32} {p : Nat} (en : sz = nI n) (hn : n ≤ 8) (ea : av = nI (2 ^ n - 1)) (ep : pv = nI p) (bp : p < 2 ^ n) (bp8 : p < 256) (hR : 1 ≤ R.frames ∧ 40 ≤ R.locals ∧ kc ≤ R.cells ∧ ns ≤ R.slots)
    (K : ∀ h, xMs G tM rF sz h → AW l G yX9_shelves cX9_shelves 7 (some .int) R E QF kc ns 175 [(3, .int pv), (2, .int av), (1, .int w), (0, .ref (G.1 + 88))] [] h) :
    ∀ (m q : Nat) (h : List va_E) (la : Int32), q + m = n + 1 → la = nI q - 1 → xMs G tM rF sz h → AW l G yX9_shelves cX9_shelves 7 (some .int) R E QF kc ns 68 [(4, .int la), (3, .int pv), (2, .int av), (1, .int w), (0, .ref (G.1 + 88))] [] h := by
  intro m
  induction m with
  | zero =>
    intro q h la hq el hS
    have tl := lm_t el (by omega)
    refine aw_iload 0 dX9_shelves_68 rfl ?_
    refine aw_aload_n 4 dX9_shelves_70 rfl rfl ?_
    refine aw_get fX9_233 dX9_shelves_71 hS.1 rfl ?_
    refine aw_icmp_ge 175 dX9_shelves_74 (by decide) (fun c74 => ?_) (fun c74 => absurd (by simp only [i_le, (i_toNat (en) (by omega))] <;> omega) c74)
    refine aw_lv [(3, .int pv), (2, .int av), (1, .int w), (0, .ref (G.1 + 88))] [1, 2, 3, 4] rfl ?_
    exact K h hS
  | succ m ih =>
    intro q h la hq el hS
    have tl := lm_t el (by omega)
    by_cases hpa : p = 2 ^ n - 1
    · refine aw_iload 0 dX9_shelves_68 rfl ?_
      refine aw_aload_n 4 dX9_shelves_70 rfl rfl ?_
      refine aw_get fX9_233 dX9_shelves_71 hS.1 rfl ?_
      refine aw_icmp_ge 175 dX9_shelves_74 (by decide) (fun c74 => absurd c74 (by simp only [i_le, (i_toNat (en) (by omega))] <;> omega)) (fun c74 => ?_)
      refine aw_iload_n 1 dX9_shelves_77 rfl rfl ?_
      refine aw_iload_n 2 dX9_shelves_78 rfl rfl ?_
      refine aw_icmp_ne 86 dX9_shelves_79 (by decide) (fun c79 => absurd (by rw [ep, ea, hpa]) c79) (fun c79 => ?_)
      refine aw_iconst (0) dX9_shelves_82 (by decide) ?_
      refine aw_goto 87 dX9_shelves_83 (by decide) ?_
      refine aw_istore [(5, .int 0), (4, .int la), (3, .int pv), (2, .int av), (1, .int w), (0, .ref (G.1 + 88))] dX9_shelves_87 (by decide) rfl ?_
      refine aw_iconst (0) dX9_shelves_89 (by decide) ?_
      refine aw_istore [(6, .int 0), (5, .int 0), (4, .int la), (3, .int pv), (2, .int av), (1, .int w), (0, .ref (G.1 + 88))] dX9_shelves_90 (by decide) rfl ?_
      refine aw_lv [(6, .int 0), (5, .int 0), (4, .int la), (3, .int pv), (2, .int av), (1, .int w), (0, .ref (G.1 + 88))] [0, 1, 2, 3, 4, 5, 6] rfl ?_
      refine X9_shelves_k hS en hn ep bp bp8 hR ?_ n 0 _ _ (by omega) rfl (Or.inl rfl)
      refine aw_aload_n 5 dX9_shelves_153 rfl rfl ?_
      refine aw_get fX9_113 dX9_shelves_154 hS.1 rfl ?_
      refine aw_bipush (9) dX9_shelves_157 (by decide) ?_
      refine aw_iload_n 2 dX9_shelves_159 rfl rfl ?_
      refine aw_imul dX9_shelves_160 ?_
      refine aw_iload 1 dX9_shelves_161 rfl ?_
      refine aw_iadd dX9_shelves_163 ?_
      refine aw_iconst (1) dX9_shelves_164 (by decide) ?_
      refine aw_iadd dX9_shelves_165 ?_
      refine aw_iload 0 dX9_shelves_166 rfl ?_
      refine aw_iast (9 * p + q) (lm_a (nv_mul rfl ep) el) (by omega) (by decide) dX9_shelves_168 hS.2.2.1 ?_
      rw [upz]
      obtain ⟨v4, ev4⟩ : ∃ q : Int32, q = la + Int32.ofInt (1) := ⟨_, rfl⟩
      refine aw_iinc (j := 1) v4 [(4, .int v4), (5, .int 0), (3, .int pv), (2, .int av), (1, .int w), (0, .ref (G.1 + 88))] dX9_shelves_169 rfl ev4.symm (by decide) rfl ?_
      refine aw_goto 68 dX9_shelves_172 (by decide) ?_
      refine aw_lv [(4, .int v4), (3, .int pv), (2, .int av), (1, .int w), (0, .ref (G.1 + 88))] [0, 2, 3, 4, 5] rfl ?_
      exact ih (q + 1) _ _ (by omega) (by rw [ev4]; exact lm_s el) ⟨(gn (by decide) (hS.1)), (gn (by decide) (hS.2.1)), (gs hS.2.2.1), (gn (by decide) (hS.2.2.2))⟩
    · refine aw_iload 0 dX9_shelves_68 rfl ?_
      refine aw_aload_n 4 dX9_shelves_70 rfl rfl ?_
      refine aw_get fX9_233 dX9_shelves_71 hS.1 rfl ?_
      refine aw_icmp_ge 175 dX9_shelves_74 (by decide) (fun c74 => absurd c74 (by simp only [i_le, (i_toNat (en) (by omega))] <;> omega)) (fun c74 => ?_)
      refine aw_iload_n 1 dX9_shelves_77 rfl rfl ?_
      refine aw_iload_n 2 dX9_shelves_78 rfl rfl ?_
      refine aw_icmp_ne 86 dX9_shelves_79 (by decide) (fun c79 => ?_) (fun c79 => absurd c79 (by rw [ep, ea]; intro q9; exact hpa ((nI_eq (by omega) (by have := pw_lt n (by omega); omega)).mp q9)))
      refine aw_iconst (-1) dX9_shelves_86 (by decide) ?_
      refine aw_istore [(5, .int (-1)), (4, .int la), (3, .int pv), (2, .int av), (1, .int w), (0, .ref (G.1 + 88))] dX9_shelves_87 (by decide) rfl ?_
      refine aw_iconst (0) dX9_shelves_89 (by decide) ?_
      refine aw_istore [(6, .int 0), (5, .int (-1)), (4, .int la), (3, .int pv), (2, .int av), (1, .int w), (0, .ref (G.1 + 88))] dX9_shelves_90 (by decide) rfl ?_
      refine aw_lv [(6, .int 0), (5, .int (-1)), (4, .int la), (3, .int pv), (2, .int av), (1, .int w), (0, .ref (G.1 + 88))] [0, 1, 2, 3, 4, 5, 6] rfl ?_
      refine X9_shelves_k hS en hn ep bp bp8 hR ?_ n 0 _ _ (by omega) rfl (Or.inr ⟨rfl, hpa, fun j hj => absurd hj (by omega)⟩)
      refine aw_aload_n 5 dX9_shelves_153 rfl rfl ?_
      refine aw_get fX9_113 dX9_shelves_154 hS.1 rfl ?_
      refine aw_bipush (9) dX9_shelves_157 (by decide) ?_
      refine aw_iload_n 2 dX9_shelves_159 rfl rfl ?_
      refine aw_imul dX9_shelves_160 ?_
      refine aw_iload 1 dX9_shelves_161 rfl ?_
      refine aw_iadd dX9_shelves_163 ?_
      refine aw_iconst (1) dX9_shelves_164 (by decide) ?_
      refine aw_iadd dX9_shelves_165 ?_
      refine aw_iload 0 dX9_shelves_166 rfl ?_
      refine aw_iast (9 * p + q) (lm_a (nv_mul rfl ep) el) (by omega) (by decide) dX9_shelves_168 hS.2.2.1 ?_
      rw [upz]
      obtain ⟨v5, ev5⟩ : ∃ q : Int32, q = la + Int32.ofInt (1) := ⟨_, rfl⟩
      refine aw_iinc (j := 1) v5 [(4, .int v5), (5, .int 0), (3, .int pv), (2, .int av), (1, .int w), (0, .ref (G.1 + 88))] dX9_shelves_169 rfl ev5.symm (by decide) rfl ?_
      refine aw_goto 68 dX9_shelves_172 (by decide) ?_
      refine aw_lv [(4, .int v5), (3, .int pv), (2, .int av), (1, .int w), (0, .ref (G.1 + 88))] [0, 2, 3, 4, 5] rfl ?_
      exact ih (q + 1) _ _ (by omega) (by rw [ev5]; exact lm_s el) ⟨(gn (by decide) (hS.1)), (gn (by decide) (hS.2.1)), (gs hS.2.2.1), (gn (by decide) (hS.2.2.2))⟩
set_option maxHeartbeats 4000000 in
theorem X9_shelves_p {l : Launch} {G : xG} {R : Room} {E : Array Value → State → Prop} {QF : List Frame → Array Value → State → State → Prop} {kc ns : Nat} {tM rF : Nat → Int32} {sz : Int32} {n : Nat} {av w : Int32} (en : sz = nI n) (hn : n ≤ 8) (ea : av = nI (2 ^ n - 1)) (hR : 1 ≤ R.frames ∧ 40 ≤ R.locals ∧ kc ≤ R.cells ∧ ns ≤ R.slots)
    (K : ∀ h, xMs G tM rF sz h → AW l G yX9_shelves cX9_shelves 7 (some .int) R E QF kc ns 181 [(1, .int w), (0, .ref (G.1 + 88))] [] h) :
    ∀ (m : Nat) (h : List va_E) (pv : Int32), m ≤ 2 ^ n → m ≤ 256 → pv = nI m - 1 → xMs G tM rF sz h → AW l G yX9_shelves cX9_shelves 7 (some .int) R E QF kc ns 61 [(3, .int pv), (2, .int av), (1, .int w), (0, .ref (G.1 + 88))] [] h := by
  intro m
  induction m with
  | zero =>
    intro h pv hm hm2 ep hS
    have tl := lm_t ep (by omega)
    refine aw_iload_n 0 dX9_shelves_61 rfl rfl ?_
    refine aw_if_lt 181 dX9_shelves_62 (by decide) (fun c62 => ?_) (fun c62 => absurd (by simp only [i_lt, (show (0 : Int32).toInt = 0 from rfl)] <;> omega) c62)
    refine aw_lv [(1, .int w), (0, .ref (G.1 + 88))] [2, 3] rfl ?_
    exact K h hS
  | succ m ih =>
    intro h pv hm hm2 ep hS
    have ep2 := lm_p ep
    have tl := lm_t ep (by omega)
    refine aw_iload_n 0 dX9_shelves_61 rfl rfl ?_
    refine aw_if_lt 181 dX9_shelves_62 (by decide) (fun c62 => absurd c62 (by simp only [i_lt, (show (0 : Int32).toInt = 0 from rfl)] <;> omega)) (fun c62 => ?_)
    refine aw_iconst (-1) dX9_shelves_65 (by decide) ?_
    refine aw_istore [(4, .int (-1)), (3, .int pv), (2, .int av), (1, .int w), (0, .ref (G.1 + 88))] dX9_shelves_66 (by decide) rfl ?_
    refine aw_lv [(4, .int (-1)), (3, .int pv), (2, .int av), (1, .int w), (0, .ref (G.1 + 88))] [0, 1, 2, 3, 4] rfl ?_
    refine X9_shelves_q en hn ea ep2 (by omega) (by omega) hR ?_ (n + 1) 0 h _ (by omega) rfl hS
    intro h1 hS1
    obtain ⟨v6, ev6⟩ : ∃ q : Int32, q = pv + Int32.ofInt (-1) := ⟨_, rfl⟩
    refine aw_iinc (j := 0) v6 [(3, .int v6), (2, .int av), (1, .int w), (0, .ref (G.1 + 88))] dX9_shelves_175 rfl ev6.symm (by decide) rfl ?_
    refine aw_goto 61 dX9_shelves_178 (by decide) ?_
    refine aw_lv [(3, .int v6), (2, .int av), (1, .int w), (0, .ref (G.1 + 88))] [0, 1, 2, 3] rfl ?_
    exact ih _ _ (by omega) (by omega) (by rw [ev6]; exact lm_d ep2) hS1
