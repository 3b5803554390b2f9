set_option maxHeartbeats 4000000 in
theorem X9_shelves_t {l : Launch} {G : xG} {R : Room} {E : Array Value → State → Prop} {QF : List Frame → Array Value → State → State → Prop} {kc ns : Nat} {rF : Nat → Int32} {w : Int32} {st : Nat} (ew : w = nI st) (bst : st < 4096) (hp : popN st ≤ 8)
    (K : ∀ h sz, sz = nI (popN st) → xMs G (thF st 12) rF sz h → AW l G yX9_shelves cX9_shelves 7 (some .int) R E QF kc ns 50 [(1, .int w), (0, .ref (G.1 + 88))] [] h) :
    ∀ (m i : Nat) (h : List va_E) (iv sz : Int32), i + m = 12 → iv = nI i → sz = nI (thL st i).length → xMs G (thF st i) rF sz h → AW l G yX9_shelves cX9_shelves 7 (some .int) R E QF kc ns 7 [(2, .int iv), (1, .int w), (0, .ref (G.1 + 88))] [] h := by
  intro m
  induction m with
  | zero =>
    intro i h iv sz hi ei ez hS
    have hi2 : i = 12 := by omega
    subst hi2
    refine aw_iload_n 0 dX9_shelves_7 rfl rfl ?_
    refine aw_bipush (12) dX9_shelves_8 (by decide) ?_
    refine aw_icmp_ge 50 dX9_shelves_10 (by decide) (fun c10 => ?_) (fun c10 => absurd (by simp only [i_le, (i_toNat (ei) (by omega)), (show (12 : Int32).toInt = 12 from rfl)] <;> omega) c10)
    refine aw_lv [(1, .int w), (0, .ref (G.1 + 88))] [1, 2] rfl ?_
    exact K h sz ez hS
  | succ m ih =>
    intro i h iv sz hi ei ez hS
    cases hb : st.testBit i
    · refine aw_iload_n 0 dX9_shelves_7 rfl rfl ?_
      refine aw_bipush (12) dX9_shelves_8 (by decide) ?_
      refine aw_icmp_ge 50 dX9_shelves_10 (by decide) (fun c10 => absurd c10 (by simp only [i_le, (i_toNat (ei) (by omega)), (show (12 : Int32).toInt = 12 from rfl)] <;> omega)) (fun c10 => ?_)
      refine aw_iload_n 1 dX9_shelves_13 rfl rfl ?_
      refine aw_iload_n 0 dX9_shelves_14 rfl rfl ?_
      refine aw_ishr dX9_shelves_15 ?_
      refine aw_iconst (1) dX9_shelves_16 (by decide) ?_
      refine aw_iand dX9_shelves_17 ?_
      refine aw_if_ne 24 dX9_shelves_18 (by decide) (fun c18 => absurd (nv_bf ew ei (by omega) (by omega) hb) c18) (fun c18 => ?_)
      refine aw_goto 44 dX9_shelves_21 (by decide) ?_
      obtain ⟨v7, ev7⟩ : ∃ q : Int32, q = iv + Int32.ofInt (1) := ⟨_, rfl⟩
      refine aw_iinc (j := 0) v7 [(2, .int v7), (1, .int w), (0, .ref (G.1 + 88))] dX9_shelves_44 rfl ev7.symm (by decide) rfl ?_
      refine aw_goto 7 dX9_shelves_47 (by decide) ?_
      refine aw_lv [(2, .int v7), (1, .int w), (0, .ref (G.1 + 88))] [0, 1, 2] rfl ?_
      exact ih (i + 1) h _ sz (by omega) (ev7.trans (nv_inc (ei))) (by rw [thL_f hb]; exact ez) (by rw [thF_f hb]; exact hS)
    · have hc := thL_lt hb (by omega)
      rw [popL] at hp
      refine aw_iload_n 0 dX9_shelves_7 rfl rfl ?_
      refine aw_bipush (12) dX9_shelves_8 (by decide) ?_
      refine aw_icmp_ge 50 dX9_shelves_10 (by decide) (fun c10 => absurd c10 (by simp only [i_le, (i_toNat (ei) (by omega)), (show (12 : Int32).toInt = 12 from rfl)] <;> omega)) (fun c10 => ?_)
      refine aw_iload_n 1 dX9_shelves_13 rfl rfl ?_
      refine aw_iload_n 0 dX9_shelves_14 rfl rfl ?_
      refine aw_ishr dX9_shelves_15 ?_
      refine aw_iconst (1) dX9_shelves_16 (by decide) ?_
      refine aw_iand dX9_shelves_17 ?_
      refine aw_if_ne 24 dX9_shelves_18 (by decide) (fun c18 => ?_) (fun c18 => absurd c18 (by rw [nv_bt ew ei (by omega) (by omega) hb]; decide))
      refine aw_aload_n 2 dX9_shelves_24 rfl rfl ?_
      refine aw_get fX9_110 dX9_shelves_25 hS.1 rfl ?_
      refine aw_aload_n 2 dX9_shelves_28 rfl rfl ?_
      refine aw_get fX9_233 dX9_shelves_29 hS.1 rfl ?_
      refine aw_iload_n 0 dX9_shelves_32 rfl rfl ?_
      refine aw_iast ((thL st i).length) (ez) (by omega) (by decide) dX9_shelves_33 hS.2.1 ?_
      rw [show upd (thF st i) (thL st i).length iv = thF st (i + 1) from by rw [ei]; exact thF_t hb]
      refine aw_aload_n 2 dX9_shelves_34 rfl rfl ?_
      refine aw_dup dX9_shelves_35 rfl ?_
      refine aw_get fX9_233 dX9_shelves_36 (gn (by decide) (hS.1)) rfl ?_
      refine aw_iconst (1) dX9_shelves_39 (by decide) ?_
      refine aw_iadd dX9_shelves_40 ?_
      refine aw_top (fun v8 ev8 => ?_)
      refine aw_putQ fX9_233 dX9_shelves_41 [.ref (G.1 + 89), .ref (G.1 + 90), .ref (G.1 + 91), .ref (G.1 + 92), .ref (G.1 + 93), .ref (G.1 + 94), .ref (G.1 + 95), .ref (G.1 + 96), .ref (G.1 + 97), .ref (G.1 + 98), .int 5, .int 1, .int 0, .ref (G.1 + 99), .ref (G.1 + 100), .ref (G.1 + 101), .ref (G.1 + 102), .int 0, .int 0, .ref (G.1 + 103), .ref (G.1 + 104), .ref (G.1 + 105), .ref (G.1 + 106), .ref (G.1 + 107), .ref (G.1 + 108), .ref (G.1 + 109), .ref (G.1 + 110), .ref (G.1 + 111), .ref (G.1 + 112), .ref (G.1 + 113), .ref (G.1 + 114), .ref (G.1 + 115), .int 0, .int 0, .int 0, .int 0, .ref (G.1 + 116), .ref (G.1 + 117), .ref (G.1 + 118), .ref (G.1 + 119), .ref (G.1 + 120), .ref (G.1 + 121), .ref (G.1 + 122), .int v8, .ref (G.1 + 123), .ref (G.1 + 124)] (gn (by decide) (hS.1)) rfl rfl rfl (Nat.le_of_ble_eq_true rfl) rfl ?_
      obtain ⟨v9, ev9⟩ : ∃ q : Int32, q = iv + Int32.ofInt (1) := ⟨_, rfl⟩
      refine aw_iinc (j := 0) v9 [(2, .int v9), (1, .int w), (0, .ref (G.1 + 88))] dX9_shelves_44 rfl ev9.symm (by decide) rfl ?_
      refine aw_goto 7 dX9_shelves_47 (by decide) ?_
      refine aw_lv [(2, .int v9), (1, .int w), (0, .ref (G.1 + 88))] [0, 1, 2] rfl ?_
      exact ih (i + 1) _ _ v8 (by omega) (ev9.trans (nv_inc (ei))) (by rw [ev8, ez, thL_t hb, List.length_append]; exact nI_1 _) ⟨(gs (gn (by decide) (hS.1))), (gn (by decide) (gs hS.2.1)), (gn (by decide) (gn (by decide) (hS.2.2.1))), (gn (by decide) (gn (by decide) (hS.2.2.2)))⟩
set_option maxHeartbeats 4000000 in
theorem X9_shelves_s {l : Launch} {G : xG} {R : Room} {E : Array Value → State → Prop} {QF : List Frame → Array Value → State → State → Prop} {kc ns : Nat} {h : List va_E} {tM rF : Nat → Int32} {sz : Int32} {n : Nat} {pv la nv w : Int32} {p q : Nat} (hS : xMs G tM rF sz h) (hn : n ≤ 8) (ep : pv = nI (2 ^ p - 1)) (bp : p < n) (el : la = nI q - 1) (bq : q ≤ 8) (hR : 1 ≤ R.frames ∧ 40 ≤ R.locals ∧ kc ≤ R.cells ∧ ns ≤ R.slots)
    (K : ∀ kv : Int32, kv = nI p → AW l G yX9_shelves cX9_shelves 7 (some .int) R E QF kc ns 264 [(6, .int kv), (5, .int nv), (4, .int la), (3, .int pv), (1, .int w), (0, .ref (G.1 + 88))] [] h) :
    ∀ (m i : Nat) (iv : Int32), i + m = p → iv = nI i → AW l G yX9_shelves cX9_shelves 7 (some .int) R E QF kc ns 201 [(6, .int iv), (5, .int nv), (4, .int la), (3, .int pv), (1, .int w), (0, .ref (G.1 + 88))] [] h := by
  have b8 := pw_lt p (by omega)
  intro m
  induction m with
  | zero =>
    intro i iv hi ei
    refine aw_iload_n 3 dX9_shelves_201 rfl rfl ?_
    refine aw_iload 0 dX9_shelves_202 rfl ?_
    refine aw_ishr dX9_shelves_204 ?_
    refine aw_iconst (1) dX9_shelves_205 (by decide) ?_
    refine aw_iand dX9_shelves_206 ?_
    refine aw_iconst (1) dX9_shelves_207 (by decide) ?_
    refine aw_icmp_eq 258 dX9_shelves_208 (by decide) (fun c208 => absurd c208 (by rw [nv_bf ep ei (by omega) (by omega) (by rw [pw_b]; simp; omega)]; decide)) (fun c208 => ?_)
    refine aw_aload_n 5 dX9_shelves_211 rfl rfl ?_
    refine aw_iload_n 4 dX9_shelves_212 rfl rfl ?_
    refine aw_iload_n 3 dX9_shelves_213 rfl rfl ?_
    refine aw_iload 2 dX9_shelves_214 rfl ?_
    refine aw_iload 0 dX9_shelves_216 rfl ?_
    refine aw_dV [.int w, .int pv, .int la, .int iv] [] lX9_236 vX9_wins mX9_wins dX9_shelves_218 (X9_wins_o hS (ei) (by omega)) hS.1 rfl rfl rfl (Nat.le_of_ble_eq_true rfl) (by omega) (by omega) rfl ?_
    refine aw_aload_n 5 dX9_shelves_221 rfl rfl ?_
    refine aw_get fX9_113 dX9_shelves_222 hS.1 rfl ?_
    refine aw_bipush (9) dX9_shelves_225 (by decide) ?_
    refine aw_iload_n 3 dX9_shelves_227 rfl rfl ?_
    refine aw_iconst (1) dX9_shelves_228 (by decide) ?_
    refine aw_iload 0 dX9_shelves_229 rfl ?_
    refine aw_ishl dX9_shelves_231 ?_
    refine aw_ior dX9_shelves_232 ?_
    refine aw_imul dX9_shelves_233 ?_
    refine aw_iload 0 dX9_shelves_234 rfl ?_
    refine aw_iadd dX9_shelves_236 ?_
    refine aw_iconst (1) dX9_shelves_237 (by decide) ?_
    refine aw_iadd dX9_shelves_238 ?_
    refine aw_iald (9 * ((2 ^ p - 1) ||| 2 ^ i) + i + 1) (nv_add (nv_add (nv_mul rfl (nv_or1 ep ei (by omega))) ei) rfl) (by have := or_lt8 (b := i) b8 (by omega); omega) (by decide) dX9_shelves_239 hS.2.2.1 ?_
    refine aw_toe 0 (rfl) ?_
    refine aw_iadd dX9_shelves_240 ?_
    refine aw_toe 0 (by decide) ?_
    refine aw_aload_n 5 dX9_shelves_241 rfl rfl ?_
    refine aw_get fX9_113 dX9_shelves_242 hS.1 rfl ?_
    refine aw_bipush (9) dX9_shelves_245 (by decide) ?_
    refine aw_iload_n 3 dX9_shelves_247 rfl rfl ?_
    refine aw_imul dX9_shelves_248 ?_
    refine aw_iload 2 dX9_shelves_249 rfl ?_
    refine aw_iadd dX9_shelves_251 ?_
    refine aw_iconst (1) dX9_shelves_252 (by decide) ?_
    refine aw_iadd dX9_shelves_253 ?_
    refine aw_iald (9 * (2 ^ p - 1) + q) (lm_a (nv_mul rfl ep) el) (by omega) (by decide) dX9_shelves_254 hS.2.2.1 ?_
    refine aw_toe 0 (rfl) ?_
    refine aw_icmp_eq 264 dX9_shelves_255 (by decide) (fun c255 => ?_) (fun c255 => absurd (by decide) c255)
    refine aw_lv [(6, .int iv), (5, .int nv), (4, .int la), (3, .int pv), (1, .int w), (0, .ref (G.1 + 88))] [0, 1, 2, 3, 4, 5] rfl ?_
    exact K _ (by rw [ei, show i = p by omega])
  | succ m ih =>
    intro i iv hi ei
    refine aw_iload_n 3 dX9_shelves_201 rfl rfl ?_
    refine aw_iload 0 dX9_shelves_202 rfl ?_
    refine aw_ishr dX9_shelves_204 ?_
    refine aw_iconst (1) dX9_shelves_205 (by decide) ?_
    refine aw_iand dX9_shelves_206 ?_
    refine aw_iconst (1) dX9_shelves_207 (by decide) ?_
    refine aw_icmp_eq 258 dX9_shelves_208 (by decide) (fun c208 => ?_) (fun c208 => absurd (nv_bt ep ei (by omega) (by omega) (by rw [pw_b]; simp; omega)) c208)
    obtain ⟨v10, ev10⟩ : ∃ q : Int32, q = iv + Int32.ofInt (1) := ⟨_, rfl⟩
    refine aw_iinc (j := 0) v10 [(6, .int v10), (5, .int nv), (4, .int la), (3, .int pv), (1, .int w), (0, .ref (G.1 + 88))] dX9_shelves_258 rfl ev10.symm (by decide) rfl ?_
    refine aw_goto 201 dX9_shelves_261 (by decide) ?_
    refine aw_lv [(6, .int v10), (5, .int nv), (4, .int la), (3, .int pv), (1, .int w), (0, .ref (G.1 + 88))] [0, 1, 2, 3, 4, 5] rfl ?_
    exact ih (i + 1) _ (by omega) (ev10.trans (nv_inc (ei)))
set_option maxHeartbeats 4000000 in
theorem X9_shelves_r {l : Launch} {G : xG} {R : Room} {E : Array Value → State → Prop} {QF : List Frame → Array Value → State → State → Prop} {kc ns : Nat} {tM : Nat → Int32} {sz w : Int32} {n : Nat} (en : sz = nI n) (hn : n ≤ 8) (hR : 1 ≤ R.frames ∧ 40 ≤ R.locals ∧ kc ≤ R.cells ∧ ns ≤ R.slots)
    (K : ∀ h, xMs G tM (tkF tM n) sz h → AW l G yX9_shelves cX9_shelves 7 (some .int) R E QF kc ns 295 [(0, .ref (G.1 + 88))] [] h) :
    ∀ (m i q : Nat) (h : List va_E) (iv la pv : Int32), i + m = n → iv = nI i → la = nI q - 1 → q ≤ 8 → pv = nI (2 ^ i - 1) → xMs G tM (tkF tM i) sz h → AW l G yX9_shelves cX9_shelves 7 (some .int) R E QF kc ns 189 [(5, .int iv), (4, .int la), (3, .int pv), (1, .int w), (0, .ref (G.1 + 88))] [] h := by
  intro m
  induction m with
  | zero =>
    intro i q h iv la pv hi ei el bq ep hS
    refine aw_iload 0 dX9_shelves_189 rfl ?_
    refine aw_aload_n 4 dX9_shelves_191 rfl rfl ?_
    refine aw_get fX9_233 dX9_shelves_192 hS.1 rfl ?_
    refine aw_icmp_ge 295 dX9_shelves_195 (by decide) (fun c195 => ?_) (fun c195 => absurd (by simp only [i_le, (i_toNat (ei) (by omega)), (i_toNat (en) (by omega))] <;> omega) c195)
    refine aw_lv [(0, .ref (G.1 + 88))] [4] rfl ?_
    exact K h (by rw [show n = i by omega]; exact hS)
  | succ m ih =>
    intro i q h iv la pv hi ei el bq ep hS
    refine aw_iload 0 dX9_shelves_189 rfl ?_
    refine aw_aload_n 4 dX9_shelves_191 rfl rfl ?_
    refine aw_get fX9_233 dX9_shelves_192 hS.1 rfl ?_
    refine aw_icmp_ge 295 dX9_shelves_195 (by decide) (fun c195 => absurd c195 (by simp only [i_le, (i_toNat (ei) (by omega)), (i_toNat (en) (by omega))] <;> omega)) (fun c195 => ?_)
    refine aw_iconst (0) dX9_shelves_198 (by decide) ?_
    refine aw_istore [(6, .int 0), (5, .int iv), (4, .int la), (3, .int pv), (1, .int w), (0, .ref (G.1 + 88))] dX9_shelves_199 (by decide) rfl ?_
    refine aw_lv [(6, .int 0), (5, .int iv), (4, .int la), (3, .int pv), (1, .int w), (0, .ref (G.1 + 88))] [0, 1, 2, 3, 4, 5] rfl ?_
    refine X9_shelves_s hS hn ep (by omega) el bq hR ?_ i 0 _ (by omega) rfl
    intro kv ek
    refine aw_aload_n 5 dX9_shelves_264 rfl rfl ?_
    refine aw_get fX9_116 dX9_shelves_265 hS.1 rfl ?_
    refine aw_iload 1 dX9_shelves_268 rfl ?_
    refine aw_aload_n 5 dX9_shelves_270 rfl rfl ?_
    refine aw_get fX9_110 dX9_shelves_271 hS.1 rfl ?_
    refine aw_iload 0 dX9_shelves_274 rfl ?_
    refine aw_iald i (ek) (by omega) (by decide) dX9_shelves_276 hS.2.1 ?_
    refine aw_iast i (ei) (by omega) (by decide) dX9_shelves_277 hS.2.2.2 ?_
    rw [tkF_s]
    refine aw_iload_n 3 dX9_shelves_278 rfl rfl ?_
    refine aw_iconst (1) dX9_shelves_279 (by decide) ?_
    refine aw_iload 0 dX9_shelves_280 rfl ?_
    refine aw_ishl dX9_shelves_282 ?_
    refine aw_ior dX9_shelves_283 ?_
    refine aw_top (fun v11 ev11 => ?_)
    refine aw_istore_n [(3, .int v11), (6, .int kv), (5, .int iv), (4, .int la), (1, .int w), (0, .ref (G.1 + 88))] dX9_shelves_284 rfl (by decide) rfl ?_
    refine aw_iload 1 dX9_shelves_285 rfl ?_
    refine aw_istore [(4, .int kv), (3, .int v11), (6, .int kv), (5, .int iv), (1, .int w), (0, .ref (G.1 + 88))] dX9_shelves_287 (by decide) rfl ?_
    obtain ⟨v12, ev12⟩ : ∃ q : Int32, q = iv + Int32.ofInt (1) := ⟨_, rfl⟩
    refine aw_iinc (j := 3) v12 [(5, .int v12), (4, .int kv), (3, .int v11), (6, .int kv), (1, .int w), (0, .ref (G.1 + 88))] dX9_shelves_289 rfl ev12.symm (by decide) rfl ?_
    refine aw_goto 189 dX9_shelves_292 (by decide) ?_
    refine aw_lv [(5, .int v12), (4, .int kv), (3, .int v11), (1, .int w), (0, .ref (G.1 + 88))] [0, 1, 2, 4, 5] rfl ?_
    exact ih (i + 1) (i + 1) _ _ _ _ (by omega) (ev12.trans (nv_inc (ei))) (by rw [nI_pred]; exact ek) (by omega) (by rw [ev11, nv_or1 ep ek (by omega), pw_or i (by omega)]) ⟨(gn (by decide) (hS.1)), (gn (by decide) (hS.2.1)), (gn (by decide) (hS.2.2.1)), (gs hS.2.2.2)⟩
set_option maxHeartbeats 4000000 in
theorem X9_shelves_o {l : Launch} {G : xG} {h : List va_E} {w : Int32} {st : Nat} (hM : xF9 G h) (ew : w = nI st) (bst : st < 4096) (hp : popN st ≤ 8) : CE l G yX9_shelves cX9_shelves 7 (some .int) 1 0 0 [.ref (G.1 + 88), .int w] h (some (.int 0)) (xMs G (thF st 12) (tkF (thF st 12) (popN st)) (nI (popN st))) := by
  refine cm_of rfl (Nat.le_of_ble_eq_true rfl) [(0, .ref (G.1 + 88)), (1, .int w)] rfl ?_
  refine aw_aload_n 0 dX9_shelves_0 rfl rfl ?_
  refine aw_iconst (0) dX9_shelves_1 (by decide) ?_
  refine aw_putQ fX9_233 dX9_shelves_2 [.ref (G.1 + 89), .ref (G.1 + 90), .ref (G.1 + 91), .ref (G.1 + 92), .ref (G.1 + 93), .ref (G.1 + 94), .ref (G.1 + 95), .ref (G.1 + 96), .ref (G.1 + 97), .ref (G.1 + 98), .int 5, .int 1, .int 0, .ref (G.1 + 99), .ref (G.1 + 100), .ref (G.1 + 101), .ref (G.1 + 102), .int 0, .int 0, .ref (G.1 + 103), .ref (G.1 + 104), .ref (G.1 + 105), .ref (G.1 + 106), .ref (G.1 + 107), .ref (G.1 + 108), .ref (G.1 + 109), .ref (G.1 + 110), .ref (G.1 + 111), .ref (G.1 + 112), .ref (G.1 + 113), .ref (G.1 + 114), .ref (G.1 + 115), .int 0, .int 0, .int 0, .int 0, .ref (G.1 + 116), .ref (G.1 + 117), .ref (G.1 + 118), .ref (G.1 + 119), .ref (G.1 + 120), .ref (G.1 + 121), .ref (G.1 + 122), .int 0, .ref (G.1 + 123), .ref (G.1 + 124)] hM.1 rfl rfl rfl (Nat.le_of_ble_eq_true rfl) rfl ?_
  refine aw_iconst (0) dX9_shelves_5 (by decide) ?_
  refine aw_istore_n [(2, .int 0), (0, .ref (G.1 + 88)), (1, .int w)] dX9_shelves_6 rfl (by decide) rfl ?_
  refine aw_lv [(2, .int 0), (1, .int w), (0, .ref (G.1 + 88))] [0, 2, 1] rfl ?_
  refine X9_shelves_t ew bst hp ?_ 12 0 _ _ _ rfl rfl rfl (by rw [thF_0]; exact ⟨(gs hM.1), (gn (by decide) (hM.2.2.2.2.2.2.2.2.2.2.2.2.2.2.2.2.2.2.2.2.2.2.2.2.2.2.2.2.2.2.2.2.1)), (gn (by decide) (hM.2.2.2.2.2.2.2.2.2.2.2.2.2.2.2.2.2.2.2.2.2.2.2.2.2.2.2.2.2.2.2.2.2.1)), (gn (by decide) (hM.2.2.2.2.2.2.2.2.2.2.2.2.2.2.2.2.2.2.2.2.2.2.2.2.2.2.2.2.2.2.2.2.2.2.1))⟩)
  intro h1 sz1 ez1 hS1
  refine aw_iconst (1) dX9_shelves_50 (by decide) ?_
  refine aw_aload_n 1 dX9_shelves_51 rfl rfl ?_
  refine aw_get fX9_233 dX9_shelves_52 hS1.1 rfl ?_
  refine aw_ishl dX9_shelves_55 ?_
  refine aw_iconst (1) dX9_shelves_56 (by decide) ?_
  refine aw_isub dX9_shelves_57 ?_
  refine aw_top (fun v13 ev13 => ?_)
  refine aw_istore_n [(2, .int v13), (1, .int w), (0, .ref (G.1 + 88))] dX9_shelves_58 rfl (by decide) rfl ?_
  refine aw_iload_n 0 dX9_shelves_59 rfl rfl ?_
  refine aw_istore_n [(3, .int v13), (2, .int v13), (1, .int w), (0, .ref (G.1 + 88))] dX9_shelves_60 rfl (by decide) rfl ?_
  refine aw_lv [(3, .int v13), (2, .int v13), (1, .int w), (0, .ref (G.1 + 88))] [0, 1, 2, 3] rfl ?_
  have ea : v13 = nI (2 ^ popN st - 1) := ev13.trans (nv_sub (nv_shl1 ez1 (by omega)) rfl Nat.one_le_two_pow)
  have b2 := pw_lt (popN st) (by omega)
  have b3 : 1 ≤ 2 ^ popN st := Nat.one_le_two_pow
  refine X9_shelves_p ez1 hp ea (by decide) ?_ (2 ^ popN st) h1 _ (by omega) (by omega) (by rw [ea]; exact (pk_sub (a := 2 ^ popN st) (b := 1) b3).symm) hS1
  intro h2 hS2
  refine aw_iconst (0) dX9_shelves_181 (by decide) ?_
  refine aw_istore_n [(3, .int 0), (1, .int w), (0, .ref (G.1 + 88))] dX9_shelves_182 rfl (by decide) rfl ?_
  refine aw_iconst (-1) dX9_shelves_183 (by decide) ?_
  refine aw_istore [(4, .int (-1)), (3, .int 0), (1, .int w), (0, .ref (G.1 + 88))] dX9_shelves_184 (by decide) rfl ?_
  refine aw_iconst (0) dX9_shelves_186 (by decide) ?_
  refine aw_istore [(5, .int 0), (4, .int (-1)), (3, .int 0), (1, .int w), (0, .ref (G.1 + 88))] dX9_shelves_187 (by decide) rfl ?_
  refine aw_lv [(5, .int 0), (4, .int (-1)), (3, .int 0), (1, .int w), (0, .ref (G.1 + 88))] [0, 1, 2, 3, 4] rfl ?_
  refine X9_shelves_r ez1 hp (by decide) ?_ (popN st) 0 0 h2 _ _ _ (by omega) rfl rfl (by omega) rfl (by rw [tkF_0]; exact hS2)
  intro h3 hS3
  refine aw_aload_n 0 dX9_shelves_295 rfl rfl ?_
  refine aw_get fX9_113 dX9_shelves_296 hS3.1 rfl ?_
  refine aw_iconst (0) dX9_shelves_299 (by decide) ?_
  refine aw_iald 0 (rfl) (by decide) (by decide) dX9_shelves_300 hS3.2.2.1 ?_
  refine aw_toe 0 (rfl) ?_
  exact aw_iret rfl dX9_shelves_301 (by decide) (by decide) ⟨rfl, by rw [← ez1]; exact hS3⟩
