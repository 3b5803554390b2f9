set_option maxHeartbeats 4000000 in
theorem J6_bitCount_g {l : Launch} {G : xG} {h : List va_E} {x : Int32}  : CD l G yJ6_bitCount_0f7a4 cJ6_bitCount_0f7a4 1 (some .int) 0 0 0 [.int x] h (some (.int (bcF x))) h := by
  refine cm_of rfl (Nat.le_of_ble_eq_true rfl) [(0, .int x)] rfl ?_
  refine aw_iload_n 0 dJ6_bitCount_0f7a4_0 rfl rfl ?_
  refine aw_iload_n 0 dJ6_bitCount_0f7a4_1 rfl rfl ?_
  refine aw_iconst (1) dJ6_bitCount_0f7a4_2 (by decide) ?_
  refine aw_iushr _ dJ6_bitCount_0f7a4_3 rfl ?_
  refine aw_ldcw (1431655765) kJ6_265 dJ6_bitCount_0f7a4_4 ?_
  refine aw_iand dJ6_bitCount_0f7a4_7 ?_
  refine aw_isub dJ6_bitCount_0f7a4_8 ?_
  refine aw_top (fun v1 ev1 => ?_)
  refine aw_istore_n [(0, .int v1)] dJ6_bitCount_0f7a4_9 rfl (by decide) rfl ?_
  refine aw_iload_n 0 dJ6_bitCount_0f7a4_10 rfl rfl ?_
  refine aw_ldcw (858993459) kJ6_266 dJ6_bitCount_0f7a4_11 ?_
  refine aw_iand dJ6_bitCount_0f7a4_14 ?_
  refine aw_iload_n 0 dJ6_bitCount_0f7a4_15 rfl rfl ?_
  refine aw_iconst (2) dJ6_bitCount_0f7a4_16 (by decide) ?_
  refine aw_iushr _ dJ6_bitCount_0f7a4_17 rfl ?_
  refine aw_ldcw (858993459) kJ6_266 dJ6_bitCount_0f7a4_18 ?_
  refine aw_iand dJ6_bitCount_0f7a4_21 ?_
  refine aw_iadd dJ6_bitCount_0f7a4_22 ?_
  refine aw_top (fun v2 ev2 => ?_)
  refine aw_istore_n [(0, .int v2)] dJ6_bitCount_0f7a4_23 rfl (by decide) rfl ?_
  refine aw_iload_n 0 dJ6_bitCount_0f7a4_24 rfl rfl ?_
  refine aw_iload_n 0 dJ6_bitCount_0f7a4_25 rfl rfl ?_
  refine aw_iconst (4) dJ6_bitCount_0f7a4_26 (by decide) ?_
  refine aw_iushr _ dJ6_bitCount_0f7a4_27 rfl ?_
  refine aw_iadd dJ6_bitCount_0f7a4_28 ?_
  refine aw_ldcw (252645135) kJ6_267 dJ6_bitCount_0f7a4_29 ?_
  refine aw_iand dJ6_bitCount_0f7a4_32 ?_
  refine aw_top (fun v3 ev3 => ?_)
  refine aw_istore_n [(0, .int v3)] dJ6_bitCount_0f7a4_33 rfl (by decide) rfl ?_
  refine aw_iload_n 0 dJ6_bitCount_0f7a4_34 rfl rfl ?_
  refine aw_iload_n 0 dJ6_bitCount_0f7a4_35 rfl rfl ?_
  refine aw_bipush (8) dJ6_bitCount_0f7a4_36 (by decide) ?_
  refine aw_iushr _ dJ6_bitCount_0f7a4_38 rfl ?_
  refine aw_iadd dJ6_bitCount_0f7a4_39 ?_
  refine aw_top (fun v4 ev4 => ?_)
  refine aw_istore_n [(0, .int v4)] dJ6_bitCount_0f7a4_40 rfl (by decide) rfl ?_
  refine aw_iload_n 0 dJ6_bitCount_0f7a4_41 rfl rfl ?_
  refine aw_iload_n 0 dJ6_bitCount_0f7a4_42 rfl rfl ?_
  refine aw_bipush (16) dJ6_bitCount_0f7a4_43 (by decide) ?_
  refine aw_iushr _ dJ6_bitCount_0f7a4_45 rfl ?_
  refine aw_iadd dJ6_bitCount_0f7a4_46 ?_
  refine aw_top (fun v5 ev5 => ?_)
  refine aw_istore_n [(0, .int v5)] dJ6_bitCount_0f7a4_47 rfl (by decide) rfl ?_
  refine aw_iload_n 0 dJ6_bitCount_0f7a4_48 rfl rfl ?_
  refine aw_bipush (63) dJ6_bitCount_0f7a4_49 (by decide) ?_
  refine aw_iand dJ6_bitCount_0f7a4_51 ?_
  exact aw_iret rfl dJ6_bitCount_0f7a4_52 (by decide) (by decide) ⟨by subst_vars; rfl, rfl⟩
/-- an array of small numbers -/
def nA (f : Nat → Nat) : Nat → Int32 := fun j => nI (f j)
def un (f : Nat → Nat) (i v : Nat) : Nat → Nat := fun j => if j = i then v else f j
theorem nA_u {f : Nat → Nat} {i v : Nat} {x : Int32} (e : x = nI v) : upd (nA f) i x = nA (un f i v) := by
  subst e
  funext j
  by_cases h : j = i <;> simp [upd, nA, un, h]
theorem un_s {f : Nat → Nat} {i v : Nat} : un f i v i = v := by simp [un]
theorem un_n {f : Nat → Nat} {i v j : Nat} (h : j ≠ i) : un f i v j = f j := by simp [un, h]
theorem un_lt {f : Nat → Nat} {i v N B : Nat} (hf : ∀ j, j < N → f j < B) (hv : v < B) : ∀ j, j < N → un f i v j < B := by
  intro j hj
  by_cases h : j = i
  · rw [h, un_s]; exact hv
  · rw [un_n h]; exact hf j hj
theorem nA_0 : (fun _ => 0 : Nat → Int32) = nA (fun _ => 0) := by funext j; rfl
/-- what a word means in the end -/
def rt (m : Nat → Nat) : Nat → Nat → Nat
  | 0, w => w
  | k + 1, w => if m w < w then rt m k (m w) else w
def root (m : Nat → Nat) (w : Nat) : Nat := rt m w w
theorem rt_ext (m : Nat → Nat) : ∀ k l w, w ≤ k → w ≤ l → rt m k w = rt m l w := by
  intro k
  induction k with
  | zero =>
    intro l w hk hl
    have : w = 0 := by omega
    subst this
    cases l with
    | zero => rfl
    | succ l => simp [rt]
  | succ k ih =>
    intro l w hk hl
    cases l with
    | zero =>
      have : w = 0 := by omega
      subst this
      simp [rt]
    | succ l =>
      by_cases h : m w < w
      · simp only [rt, if_pos h]; exact ih l (m w) (by omega) (by omega)
      · simp only [rt, if_neg h]
theorem root_st {m : Nat → Nat} {w : Nat} (h : m w < w) : root m w = root m (m w) := by
  unfold root
  cases w with
  | zero => omega
  | succ w =>
    rw [rt, if_pos h]
    exact rt_ext m w (m (w + 1)) (m (w + 1)) (by omega) (by omega)
theorem root_fix {m : Nat → Nat} {w : Nat} (h : ¬ m w < w) : root m w = w := by
  unfold root
  cases w with
  | zero => rfl
  | succ w => rw [rt, if_neg h]
theorem root_le (m : Nat → Nat) : ∀ w, root m w ≤ w := by
  intro w
  induction w using Nat.strongRecOn with
  | ind w ih =>
    by_cases h : m w < w
    · rw [root_st h]; have := ih (m w) h; omega
    · rw [root_fix h]; exact Nat.le_refl w
/-- only the cells from a to b may have changed -/
def rng (a b : Nat) (h h1 : List va_E) : Prop := h1.length = h.length ∧ ∀ j, j < a ∨ b < j → h1[j]? = h[j]?
theorem rng_rf (a b : Nat) (h : List va_E) : rng a b h h := ⟨rfl, fun _ _ => rfl⟩
theorem rng_set {a b i : Nat} {h h1 : List va_E} {c : va_E} (q : rng a b h h1) (h0 : a ≤ i) (h2 : i ≤ b) : rng a b h (h1.set i c) := ⟨by rw [List.length_set]; exact q.1, fun j hj => by rw [List.getElem?_set_ne (by omega)]; exact q.2 j hj⟩
theorem rng_tr {a b : Nat} {h h1 h2 : List va_E} (p : rng a b h h1) (q : rng a b h1 h2) : rng a b h h2 := ⟨q.1.trans p.1, fun j hj => (q.2 j hj).trans (p.2 j hj)⟩
theorem rng_w {a b c d : Nat} {h h1 : List va_E} (p : rng a b h h1) (h0 : c ≤ a) (h2 : b ≤ d) : rng c d h h1 := ⟨p.1, fun j hj => p.2 j (by omega)⟩
theorem rng_at {a b i : Nat} {h h1 : List va_E} {c : Option va_E} (p : rng a b h h1) (hi : i < a ∨ b < i) (e : h[i]? = c) : h1[i]? = c := (p.2 i hi).trans e
theorem ex1_rng {p : Nat} {h h1 : List va_E} (q : ex1 p h h1) : rng p p h h1 := ⟨q.1, fun j hj => q.2 j (by omega)⟩
/-- the senses of a set of words -/
def snF (se : Nat → Nat) (x : Int32) : Nat → Int32
  | 0 => 0
  | k + 1 => if (x >>> (nI k &&& 31)) &&& 1 = 0 then snF se x k else snF se x k ||| ((1 : Int32) <<< (nI (se k) &&& 31))
theorem snF_0 {se : Nat → Nat} {x : Int32} {k : Nat} (h : (x >>> (nI k &&& 31)) &&& 1 = 0) : snF se x (k + 1) = snF se x k := by simp [snF, h]
theorem snF_1 {se : Nat → Nat} {x : Int32} {k : Nat} (h : ¬ (x >>> (nI k &&& 31)) &&& 1 = 0) : snF se x (k + 1) = snF se x k ||| ((1 : Int32) <<< (nI (se k) &&& 31)) := by simp [snF, h]
theorem nv_div {x z : Int32} {a b : Nat} (h1 : x = nI a) (h2 : z = nI b) (ha : a < 2 ^ 31) (h0 : 0 < b) (hb : b < 2 ^ 31) : x / z = nI (a / b) := by rw [h1, h2]; exact pk_div ha h0 hb
theorem nv_rem {x z : Int32} {a b : Nat} (h1 : x = nI a) (h2 : z = nI b) (ha : a < 2 ^ 31) (h0 : 0 < b) (hb : b < 2 ^ 31) : x - x / z * z = nI (a % b) := by rw [h1, h2]; exact pk_rem ha h0 hb
/-- is a bar told -/
def barF (Ba : Nat → Int64) (e : Nat) (f : Int32) : Int32 := if lg_cmp ((Ba e >>> (f.toInt64 &&& 63)) &&& 1) 0 = 0 then 0 else 1
/-- whether a colour fades as it may, as the class reckons -/
def fadeC (ye : Nat → Nat) (Co : Nat → Int32) (fa e f : Nat) : Int32 :=
  if (if nI (ye (e / 10)) = nI (ye (f / 10)) then ¬ nI (f / 10) ≤ nI (e / 10) else ¬ nI (ye (f / 10)) ≤ nI (ye (e / 10))) then
    (if Co e - Co f < 0 then 0 else if (nI (ye (f / 10)) - nI (ye (e / 10))) * nI fa + 5 < Co e - Co f then 0 else 1)
  else (if Co f - Co e < 0 then 0 else if (nI (ye (e / 10)) - nI (ye (f / 10))) * nI fa + 5 < Co f - Co e then 0 else 1)
def apF (Z : Nat → Int32) (e f : Nat) : Int32 := if 0 ≤ Z e - Z f then Z e - Z f else 0 - (Z e - Z f)
def likeC (ye : Nat → Nat) (Sn Z Ro Co : Nat → Int32) (Ba : Nat → Int64) (sp fa e f : Nat) : Int32 :=
  if nI sp < apF Z e f then 0 else if Sn e &&& Sn f = 0 then 0 else if barF Ba e (nI f) = 0 then
    (if fadeC ye Co fa e f = 0 then 0 else
      let p0 := 10 * bcF (Sn e &&& Sn f) - 2 * bcF (Sn e ^^^ Sn f) - apF Z e f
      let p := if Ro e = Ro f then p0 + 7 else p0
      if 1 < p then p else 1)
  else 0
theorem nv_p1 {x : Int32} {a : Nat} (h1 : x = nI (a + 1)) : x - 1 = nI a := by rw [h1]; exact nI_pred a
theorem nv_d1 {x : Int32} {a : Nat} (h1 : x = nI (a + 1)) : x + Int32.ofInt (-1) = nI a := by rw [h1]; exact pk_m1 a
def xCat (G : xG) (m se ye fi : Nat → Nat) (W Sn Z Ro Co : Nat → Int32) (Ba : Nat → Int64) (nb sp fa : Nat) (ver : Int32) (h : List va_E) : Prop := h[1]? = some (.inr (1, [.ref (G.1 + 2), .ref (G.1 + 3), .ref (G.1 + 4), .ref (G.1 + 5), .ref (G.1 + 6), .ref (G.1 + 7), .ref (G.1 + 8), .ref (G.1 + 9), .ref (G.1 + 10), .ref (G.1 + 11), .int (nI nb), .int (nI sp), .int (nI fa), .int ver])) ∧ h[2]? = some (.inl (0, 20, .inl (nA m))) ∧ h[3]? = some (.inl (0, 20, .inl (nA se))) ∧ h[4]? = some (.inl (0, 4, .inl (nA ye))) ∧ h[5]? = some (.inl (0, 4, .inl (nA fi))) ∧ h[6]? = some (.inl (0, 40, .inl W)) ∧ h[7]? = some (.inl (0, 40, .inl Sn)) ∧ h[8]? = some (.inl (0, 40, .inl Z)) ∧ h[9]? = some (.inl (0, 40, .inl Ro)) ∧ h[10]? = some (.inl (0, 40, .inl Co)) ∧ h[11]? = some (.inl (1, 40, .inr (.inl Ba)))
set_option maxHeartbeats 4000000 in
theorem gX1_sensesOf_l {l : Launch} {G : xG} {R : Room} {E : Array Value → State → Prop} {QF : List Frame → Array Value → State → State → Prop} {kc ns : Nat} {h : List va_E} {nb sp fa : Nat} {ver w : Int32} {se : Nat → Nat} (h1 : h[1]? = some (.inr (1, [.ref (G.1 + 2), .ref (G.1 + 3), .ref (G.1 + 4), .ref (G.1 + 5), .ref (G.1 + 6), .ref (G.1 + 7), .ref (G.1 + 8), .ref (G.1 + 9), .ref (G.1 + 10), .ref (G.1 + 11), .int (nI nb), .int (nI sp), .int (nI fa), .int ver]))) (h3 : h[3]? = some (.inl (0, 20, .inl (nA se))))
    (K : AW l G yX1_sensesOf cX1_sensesOf 4 (some .int) R E QF kc ns 35 [(2, .int (snF se w 20))] [] h) :
    ∀ (mm i : Nat) (fv iv : Int32), i + mm = 20 → iv = nI i → fv = snF se w i → AW l G yX1_sensesOf cX1_sensesOf 4 (some .int) R E QF kc ns 4 [(3, .int iv), (2, .int fv), (1, .int w), (0, .ref (G.1 + 1))] [] h := by
  intro mm
  induction mm with
  | zero =>
    intro i fv iv hi ei ef
    have e20 : i = 20 := by omega
    subst e20; subst ef
    refine aw_iload_n 0 dX1_sensesOf_4 rfl rfl ?_
    refine aw_bipush (20) dX1_sensesOf_5 (by decide) ?_
    refine aw_icmp_ge 35 dX1_sensesOf_7 (by decide) (fun c7 => ?_) (fun c7 => absurd (by simp only [i_le, (i_toNat (ei) (by omega)), (show (20 : Int32).toInt = 20 from rfl)] <;> omega) c7)
    refine aw_lv [(2, .int (snF se w 20))] [1] rfl ?_
    exact K
  | succ mm ih =>
    intro i fv iv hi ei ef
    refine aw_iload_n 0 dX1_sensesOf_4 rfl rfl ?_
    refine aw_bipush (20) dX1_sensesOf_5 (by decide) ?_
    refine aw_icmp_ge 35 dX1_sensesOf_7 (by decide) (fun c7 => absurd c7 (by simp only [i_le, (i_toNat (ei) (by omega)), (show (20 : Int32).toInt = 20 from rfl)] <;> omega)) (fun c7 => ?_)
    refine aw_iload_n 2 dX1_sensesOf_10 rfl rfl ?_
    refine aw_iload_n 0 dX1_sensesOf_11 rfl rfl ?_
    refine aw_ishr dX1_sensesOf_12 ?_
    refine aw_iconst (1) dX1_sensesOf_13 (by decide) ?_
    refine aw_iand dX1_sensesOf_14 ?_
    refine aw_if_eq 29 dX1_sensesOf_15 (by decide) (fun c15 => ?_) (fun c15 => ?_)
    · obtain ⟨v1, ev1⟩ : ∃ q : Int32, q = iv + Int32.ofInt (1) := ⟨_, rfl⟩
      refine aw_iinc (j := 0) v1 [(3, .int v1), (2, .int fv), (1, .int w), (0, .ref (G.1 + 1))] dX1_sensesOf_29 rfl ev1.symm (by decide) rfl ?_
      refine aw_goto 4 dX1_sensesOf_32 (by decide) ?_
      refine aw_lv [(3, .int v1), (2, .int fv), (1, .int w), (0, .ref (G.1 + 1))] [0, 1, 2, 3] rfl ?_
      exact ih (i + 1) _ _ (by omega) (ev1.trans (nv_inc (ei))) (by rw [snF_0 (by rw [← ei]; exact c15)]; exact ef)
    · refine aw_iload_n 1 dX1_sensesOf_18 rfl rfl ?_
      refine aw_iconst (1) dX1_sensesOf_19 (by decide) ?_
      refine aw_aload_n 3 dX1_sensesOf_20 rfl rfl ?_
      refine aw_get fX1_15 dX1_sensesOf_21 h1 rfl ?_
      refine aw_iload_n 0 dX1_sensesOf_24 rfl rfl ?_
      refine aw_iald i (ei) (by omega) (by decide) dX1_sensesOf_25 h3 ?_
      refine aw_toe (nI (se i)) (rfl) ?_
      refine aw_ishl dX1_sensesOf_26 ?_
      refine aw_ior dX1_sensesOf_27 ?_
      refine aw_top (fun v2 ev2 => ?_)
      refine aw_istore_n [(2, .int v2), (3, .int iv), (1, .int w), (0, .ref (G.1 + 1))] dX1_sensesOf_28 rfl (by decide) rfl ?_
      obtain ⟨v3, ev3⟩ : ∃ q : Int32, q = iv + Int32.ofInt (1) := ⟨_, rfl⟩
      refine aw_iinc (j := 1) v3 [(3, .int v3), (2, .int v2), (1, .int w), (0, .ref (G.1 + 1))] dX1_sensesOf_29 rfl ev3.symm (by decide) rfl ?_
      refine aw_goto 4 dX1_sensesOf_32 (by decide) ?_
      refine aw_lv [(3, .int v3), (2, .int v2), (1, .int w), (0, .ref (G.1 + 1))] [0, 1, 2, 3] rfl ?_
      exact ih (i + 1) _ _ (by omega) (ev3.trans (nv_inc (ei))) (by rw [snF_1 (by rw [← ei]; exact c15), ev2, ef])
set_option maxHeartbeats 4000000 in
theorem gX1_sensesOf {l : Launch} {G : xG} {h : List va_E} {nb sp fa : Nat} {ver w : Int32} {se : Nat → Nat}  (h1 : h[1]? = some (.inr (1, [.ref (G.1 + 2), .ref (G.1 + 3), .ref (G.1 + 4), .ref (G.1 + 5), .ref (G.1 + 6), .ref (G.1 + 7), .ref (G.1 + 8), .ref (G.1 + 9), .ref (G.1 + 10), .ref (G.1 + 11), .int (nI nb), .int (nI sp), .int (nI fa), .int ver]))) (h3 : h[3]? = some (.inl (0, 20, .inl (nA se)))) : CD l G yX1_sensesOf cX1_sensesOf 4 (some .int) 0 0 0 [.ref (G.1 + 1), .int w] h (some (.int (snF se w 20))) h := by
  refine cm_of rfl (Nat.le_of_ble_eq_true rfl) [(0, .ref (G.1 + 1)), (1, .int w)] rfl ?_
  refine aw_iconst (0) dX1_sensesOf_0 (by decide) ?_
  refine aw_istore_n [(2, .int 0), (0, .ref (G.1 + 1)), (1, .int w)] dX1_sensesOf_1 rfl (by decide) rfl ?_
  refine aw_iconst (0) dX1_sensesOf_2 (by decide) ?_
  refine aw_istore_n [(3, .int 0), (2, .int 0), (0, .ref (G.1 + 1)), (1, .int w)] dX1_sensesOf_3 rfl (by decide) rfl ?_
  refine aw_lv [(3, .int 0), (2, .int 0), (1, .int w), (0, .ref (G.1 + 1))] [0, 1, 3, 2] rfl ?_
  refine gX1_sensesOf_l h1 h3 ?_ 20 0 _ _ rfl rfl rfl
  refine aw_iload_n 0 dX1_sensesOf_35 rfl rfl ?_
  exact aw_iret rfl dX1_sensesOf_36 (by decide) (by decide) ⟨rfl, rfl⟩
set_option maxHeartbeats 4000000 in
theorem gX1_tellMeaning_l1 {l : Launch} {G : xG} {R : Room} {E : Array Value → State → Prop} {QF : List Frame → Array Value → State → State → Prop} {kc ns : Nat} {nb sp fa : Nat} {ver w o wv : Int32} {m : Nat → Nat} {hX : List va_E} (h1 : hX[1]? = some (.inr (1, [.ref (G.1 + 2), .ref (G.1 + 3), .ref (G.1 + 4), .ref (G.1 + 5), .ref (G.1 + 6), .ref (G.1 + 7), .ref (G.1 + 8), .ref (G.1 + 9), .ref (G.1 + 10), .ref (G.1 + 11), .int (nI nb), .int (nI sp), .int (nI fa), .int ver]))) (h2 : hX[2]? = some (.inl (0, 20, .inl (nA m)))) (hm : ∀ j, j < 20 → m j ≤ j)
    (K : ∀ h' se, ex1 3 hX h' → h'[3]? = some (.inl (0, 20, .inl (nA se))) → (∀ j, j < 20 → se j = root m j) → AW l G yX1_tellMeaning cX1_tellMeaning 5 (some .int) R E QF kc ns 66 [(3, .int wv), (2, .int o), (1, .int w), (0, .ref (G.1 + 1))] [] h') :
    ∀ (mm i : Nat) (h : List va_E) (se : Nat → Nat) (iv : Int32), i + mm = 20 → iv = nI i → ex1 3 hX h → h[3]? = some (.inl (0, 20, .inl (nA se))) → (∀ j, j < i → se j = root m j) → AW l G yX1_tellMeaning cX1_tellMeaning 5 (some .int) R E QF kc ns 17 [(4, .int iv), (3, .int wv), (2, .int o), (1, .int w), (0, .ref (G.1 + 1))] [] h := by
  intro mm
  induction mm with
  | zero =>
    intro i h se iv hi ei hk h3 hr
    have g1 := ex1_at hk (by decide) h1
    have g2 := ex1_at hk (by decide) h2
    refine aw_iload 0 dX1_tellMeaning_17 rfl ?_
    refine aw_bipush (20) dX1_tellMeaning_19 (by decide) ?_
    refine aw_icmp_ge 66 dX1_tellMeaning_21 (by decide) (fun c21 => ?_) (fun c21 => absurd (by simp only [i_le, (i_toNat (ei) (by omega)), (show (20 : Int32).toInt = 20 from rfl)] <;> omega) c21)
    refine aw_lv [(3, .int wv), (2, .int o), (1, .int w), (0, .ref (G.1 + 1))] [1, 2, 3, 4] rfl ?_
    exact K _ _ hk h3 (by rw [show 20 = i by omega]; exact hr)
  | succ mm ih =>
    intro i h se iv hi ei hk h3 hr
    have g1 := ex1_at hk (by decide) h1
    have g2 := ex1_at hk (by decide) h2
    have hmi := hm i (by omega)
    refine aw_iload 0 dX1_tellMeaning_17 rfl ?_
    refine aw_bipush (20) dX1_tellMeaning_19 (by decide) ?_
    refine aw_icmp_ge 66 dX1_tellMeaning_21 (by decide) (fun c21 => absurd c21 (by simp only [i_le, (i_toNat (ei) (by omega)), (show (20 : Int32).toInt = 20 from rfl)] <;> omega)) (fun c21 => ?_)
    refine aw_aload_n 4 dX1_tellMeaning_24 rfl rfl ?_
    refine aw_get fX1_15 dX1_tellMeaning_25 g1 rfl ?_
    refine aw_iload 0 dX1_tellMeaning_28 rfl ?_
    refine aw_aload_n 4 dX1_tellMeaning_30 rfl rfl ?_
    refine aw_get fX1_9 dX1_tellMeaning_31 g1 rfl ?_
    refine aw_iload 0 dX1_tellMeaning_34 rfl ?_
    refine aw_iald i (ei) (by omega) (by decide) dX1_tellMeaning_36 g2 ?_
    refine aw_toe (nI (m i)) (rfl) ?_
    refine aw_iload 0 dX1_tellMeaning_37 rfl ?_
    refine aw_icmp_ne 47 dX1_tellMeaning_39 (by decide) (fun c39 => ?_) (fun c39 => ?_)
    · refine aw_aload_n 4 dX1_tellMeaning_47 rfl rfl ?_
      refine aw_get fX1_15 dX1_tellMeaning_48 g1 rfl ?_
      refine aw_aload_n 4 dX1_tellMeaning_51 rfl rfl ?_
      refine aw_get fX1_9 dX1_tellMeaning_52 g1 rfl ?_
      refine aw_iload 0 dX1_tellMeaning_55 rfl ?_
      refine aw_iald i (ei) (by omega) (by decide) dX1_tellMeaning_57 g2 ?_
      refine aw_toe (nI (m i)) (rfl) ?_
      refine aw_iald (m i) (rfl) (by omega) (by decide) dX1_tellMeaning_58 h3 ?_
      refine aw_toe (nI (se (m i))) (rfl) ?_
      refine aw_iast i (ei) (by omega) (by decide) dX1_tellMeaning_59 h3 ?_
      rw [nA_u (f := se) (i := i) (x := (nI (se (m i)))) (v := se (m i)) (rfl)]
      obtain ⟨v4, ev4⟩ : ∃ q : Int32, q = iv + Int32.ofInt (1) := ⟨_, rfl⟩
      refine aw_iinc (j := 0) v4 [(4, .int v4), (3, .int wv), (2, .int o), (1, .int w), (0, .ref (G.1 + 1))] dX1_tellMeaning_60 rfl ev4.symm (by decide) rfl ?_
      refine aw_goto 17 dX1_tellMeaning_63 (by decide) ?_
      refine aw_lv [(4, .int v4), (3, .int wv), (2, .int o), (1, .int w), (0, .ref (G.1 + 1))] [0, 1, 2, 3, 4] rfl ?_
      refine ih (i + 1) _ _ _ (by omega) (ev4.trans (nv_inc (ei))) (ex1_set hk) ((gs h3)) ?_
      intro j hj
      by_cases hji : j = i
      · have hlt : m i < i := by rcases Nat.lt_or_eq_of_le hmi with q | q; exact q; exact absurd (by rw [q, ei]) c39
        rw [hji, un_s, root_st hlt]; exact hr _ hlt
      · rw [un_n hji]; exact hr j (by omega)
    · refine aw_iload 0 dX1_tellMeaning_42 rfl ?_
      refine aw_goto 59 dX1_tellMeaning_44 (by decide) ?_
      refine aw_iast i (ei) (by omega) (by decide) dX1_tellMeaning_59 h3 ?_
      rw [nA_u (f := se) (i := i) (x := iv) (v := i) (ei)]
      obtain ⟨v5, ev5⟩ : ∃ q : Int32, q = iv + Int32.ofInt (1) := ⟨_, rfl⟩
      refine aw_iinc (j := 0) v5 [(4, .int v5), (3, .int wv), (2, .int o), (1, .int w), (0, .ref (G.1 + 1))] dX1_tellMeaning_60 rfl ev5.symm (by decide) rfl ?_
      refine aw_goto 17 dX1_tellMeaning_63 (by decide) ?_
      refine aw_lv [(4, .int v5), (3, .int wv), (2, .int o), (1, .int w), (0, .ref (G.1 + 1))] [0, 1, 2, 3, 4] rfl ?_
      refine ih (i + 1) _ _ _ (by omega) (ev5.trans (nv_inc (ei))) (ex1_set hk) ((gs h3)) ?_
      intro j hj
      by_cases hji : j = i
      · have heq : m i = i := (nI_eq (by omega) (by omega)).mp (c39.trans ei)
        rw [hji, un_s, root_fix (by omega)]
      · rw [un_n hji]; exact hr j (by omega)
set_option maxHeartbeats 4000000 in
theorem gX1_tellMeaning_l2 {l : Launch} {G : xG} {R : Room} {E : Array Value → State → Prop} {QF : List Frame → Array Value → State → State → Prop} {kc ns : Nat} {nb sp fa : Nat} {ver w o wv : Int32} {se : Nat → Nat} {W : Nat → Int32} {hX : List va_E} (h1 : hX[1]? = some (.inr (1, [.ref (G.1 + 2), .ref (G.1 + 3), .ref (G.1 + 4), .ref (G.1 + 5), .ref (G.1 + 6), .ref (G.1 + 7), .ref (G.1 + 8), .ref (G.1 + 9), .ref (G.1 + 10), .ref (G.1 + 11), .int (nI nb), .int (nI sp), .int (nI fa), .int ver]))) (h3 : hX[3]? = some (.inl (0, 20, .inl (nA se)))) (h6 : hX[6]? = some (.inl (0, 40, .inl W))) (hR : 1 ≤ R.frames ∧ 40 ≤ R.locals ∧ kc ≤ R.cells ∧ ns ≤ R.slots)
    (K : ∀ h' Sn, ex1 7 hX h' → h'[7]? = some (.inl (0, 40, .inl Sn)) → (∀ j, j < 40 → Sn j = snF se (W j) 20) → AW l G yX1_tellMeaning cX1_tellMeaning 5 (some .int) R E QF kc ns 103 [(3, .int wv), (2, .int o), (1, .int w), (0, .ref (G.1 + 1))] [] h') :
    ∀ (mm i : Nat) (h : List va_E) (Sn : Nat → Int32) (iv : Int32), i + mm = 40 → iv = nI i → ex1 7 hX h → h[7]? = some (.inl (0, 40, .inl Sn)) → (∀ j, j < i → Sn j = snF se (W j) 20) → AW l G yX1_tellMeaning cX1_tellMeaning 5 (some .int) R E QF kc ns 69 [(4, .int iv), (3, .int wv), (2, .int o), (1, .int w), (0, .ref (G.1 + 1))] [] h := by
  intro mm
  induction mm with
  | zero =>
    intro i h Sn iv hi ei hk h7 hr
    have g1 := ex1_at hk (by decide) h1
    have g3 := ex1_at hk (by decide) h3
    have g6 := ex1_at hk (by decide) h6
    refine aw_iload 0 dX1_tellMeaning_69 rfl ?_
    refine aw_aload_n 4 dX1_tellMeaning_71 rfl rfl ?_
    refine aw_get fX1_24 dX1_tellMeaning_72 g1 rfl ?_
    refine aw_alen (40) dX1_tellMeaning_75 g6 rfl rfl ?_
    refine aw_icmp_ge 103 dX1_tellMeaning_76 (by decide) (fun c76 => ?_) (fun c76 => absurd (by simp only [i_le, (i_toNat (ei) (by omega)), (show (40 : Int32).toInt = 40 from rfl)] <;> omega) c76)
    refine aw_lv [(3, .int wv), (2, .int o), (1, .int w), (0, .ref (G.1 + 1))] [1, 2, 3, 4] rfl ?_
    exact K _ _ hk h7 (by rw [show 40 = i by omega]; exact hr)
  | succ mm ih =>
    intro i h Sn iv hi ei hk h7 hr
    have g1 := ex1_at hk (by decide) h1
    have g3 := ex1_at hk (by decide) h3
    have g6 := ex1_at hk (by decide) h6
    refine aw_iload 0 dX1_tellMeaning_69 rfl ?_
    refine aw_aload_n 4 dX1_tellMeaning_71 rfl rfl ?_
    refine aw_get fX1_24 dX1_tellMeaning_72 g1 rfl ?_
    refine aw_alen (40) dX1_tellMeaning_75 g6 rfl rfl ?_
    refine aw_icmp_ge 103 dX1_tellMeaning_76 (by decide) (fun c76 => absurd c76 (by simp only [i_le, (i_toNat (ei) (by omega)), (show (40 : Int32).toInt = 40 from rfl)] <;> omega)) (fun c76 => ?_)
    refine aw_aload_n 4 dX1_tellMeaning_79 rfl rfl ?_
    refine aw_get fX1_27 dX1_tellMeaning_80 g1 rfl ?_
    refine aw_iload 0 dX1_tellMeaning_83 rfl ?_
    refine aw_aload_n 4 dX1_tellMeaning_85 rfl rfl ?_
    refine aw_aload_n 4 dX1_tellMeaning_86 rfl rfl ?_
    refine aw_get fX1_24 dX1_tellMeaning_87 g1 rfl ?_
    refine aw_iload 0 dX1_tellMeaning_90 rfl ?_
    refine aw_iald i (ei) (by omega) (by decide) dX1_tellMeaning_92 g6 ?_
    refine aw_dV [.int (W i)] [.int iv, .ref (G.1 + 7)] lX1_56 vX1_sensesOf mX1_sensesOf dX1_tellMeaning_93 (gX1_sensesOf g1 g3) g1 rfl rfl rfl (Nat.le_of_ble_eq_true rfl) (by omega) (by omega) rfl ?_
    refine aw_iast i (ei) (by omega) (by decide) dX1_tellMeaning_96 h7 ?_
    obtain ⟨v1, ev1⟩ : ∃ q : Int32, q = iv + Int32.ofInt (1) := ⟨_, rfl⟩
    refine aw_iinc (j := 0) v1 [(4, .int v1), (3, .int wv), (2, .int o), (1, .int w), (0, .ref (G.1 + 1))] dX1_tellMeaning_97 rfl ev1.symm (by decide) rfl ?_
    refine aw_goto 69 dX1_tellMeaning_100 (by decide) ?_
    refine aw_lv [(4, .int v1), (3, .int wv), (2, .int o), (1, .int w), (0, .ref (G.1 + 1))] [0, 1, 2, 3, 4] rfl ?_
    refine ih (i + 1) _ _ _ (by omega) (ev1.trans (nv_inc (ei))) (ex1_set hk) ((gs h7)) ?_
    intro j hj
    by_cases hji : j = i
    · rw [hji]; simp [upd]
    · simp only [upd, if_neg hji]; exact hr j (by omega)
set_option maxHeartbeats 4000000 in
theorem gX1_tellMeaning {l : Launch} {G : xG} {h : List va_E} {m se ye fi : Nat → Nat} {W Sn Z Ro Co : Nat → Int32} {Ba : Nat → Int64} {nb sp fa : Nat} {ver : Int32} {w o : Int32} {w0 o0 : Nat} (hC : xCat G m se ye fi W Sn Z Ro Co Ba nb sp fa ver h) (hm : ∀ j, j < 20 → m j ≤ j) (hse : ∀ j, j < 20 → se j < 20) (hfi : ∀ j, j < 4 → fi j < 11) (hye : ∀ j, j < 4 → ye j < 1901) (ew : w = nI w0) (bw : w0 < 20) (eo : o = nI o0) (bo : o0 ≤ w0) : CE l G yX1_tellMeaning cX1_tellMeaning 5 (some .int) 1 0 0 [.ref (G.1 + 1), .int w, .int o] h (some (.int (nI (m w0)))) (fun h1 => ∃ se1 Sn1 ver1, xCat G (un m w0 o0) se1 ye fi W Sn1 Z Ro Co Ba nb sp fa ver1 h1 ∧ (∀ j, j < 20 → se1 j = root (un m w0 o0) j) ∧ (∀ j, j < 40 → Sn1 j = snF se1 (W j) 20) ∧ rng 1 11 h h1) := by
  refine cm_of rfl (Nat.le_of_ble_eq_true rfl) [(0, .ref (G.1 + 1)), (1, .int w), (2, .int o)] rfl ?_
  refine aw_aload_n 0 dX1_tellMeaning_0 rfl rfl ?_
  refine aw_get fX1_9 dX1_tellMeaning_1 hC.1 rfl ?_
  refine aw_iload_n 1 dX1_tellMeaning_4 rfl rfl ?_
  refine aw_iald w0 (ew) (by omega) (by decide) dX1_tellMeaning_5 hC.2.1 ?_
  refine aw_toe (nI (m w0)) (rfl) ?_
  refine aw_istore_n [(3, .int (nI (m w0))), (0, .ref (G.1 + 1)), (1, .int w), (2, .int o)] dX1_tellMeaning_6 rfl (by decide) rfl ?_
  refine aw_aload_n 1 dX1_tellMeaning_7 rfl rfl ?_
  refine aw_get fX1_9 dX1_tellMeaning_8 hC.1 rfl ?_
  refine aw_iload_n 2 dX1_tellMeaning_11 rfl rfl ?_
  refine aw_iload_n 3 dX1_tellMeaning_12 rfl rfl ?_
  refine aw_iast w0 (ew) (by omega) (by decide) dX1_tellMeaning_13 hC.2.1 ?_
  rw [nA_u (f := m) (i := w0) (x := o) (v := o0) (eo)]
  refine aw_iconst (0) dX1_tellMeaning_14 (by decide) ?_
  refine aw_istore [(4, .int 0), (3, .int (nI (m w0))), (0, .ref (G.1 + 1)), (1, .int w), (2, .int o)] dX1_tellMeaning_15 (by decide) rfl ?_
  refine aw_lv [(4, .int 0), (3, .int (nI (m w0))), (2, .int o), (1, .int w), (0, .ref (G.1 + 1))] [0, 1, 4, 3, 2] rfl ?_
  refine aw_fg (fun hX => hX[1]? = some (.inr (1, [.ref (G.1 + 2), .ref (G.1 + 3), .ref (G.1 + 4), .ref (G.1 + 5), .ref (G.1 + 6), .ref (G.1 + 7), .ref (G.1 + 8), .ref (G.1 + 9), .ref (G.1 + 10), .ref (G.1 + 11), .int (nI nb), .int (nI sp), .int (nI fa), .int ver])) ∧ hX[2]? = some (.inl (0, 20, .inl (nA (un m w0 o0)))) ∧ hX[3]? = some (.inl (0, 20, .inl (nA se))) ∧ hX[4]? = some (.inl (0, 4, .inl (nA ye))) ∧ hX[5]? = some (.inl (0, 4, .inl (nA fi))) ∧ hX[6]? = some (.inl (0, 40, .inl W)) ∧ hX[7]? = some (.inl (0, 40, .inl Sn)) ∧ hX[8]? = some (.inl (0, 40, .inl Z)) ∧ hX[9]? = some (.inl (0, 40, .inl Ro)) ∧ hX[10]? = some (.inl (0, 40, .inl Co)) ∧ hX[11]? = some (.inl (1, 40, .inr (.inl Ba))) ∧ rng 1 11 h hX) ⟨(gn (by decide) (hC.1)), (gs hC.2.1), (gn (by decide) (hC.2.2.1)), (gn (by decide) (hC.2.2.2.1)), (gn (by decide) (hC.2.2.2.2.1)), (gn (by decide) (hC.2.2.2.2.2.1)), (gn (by decide) (hC.2.2.2.2.2.2.1)), (gn (by decide) (hC.2.2.2.2.2.2.2.1)), (gn (by decide) (hC.2.2.2.2.2.2.2.2.1)), (gn (by decide) (hC.2.2.2.2.2.2.2.2.2.1)), (gn (by decide) (hC.2.2.2.2.2.2.2.2.2.2)), rng_set (rng_rf 1 11 h) (by decide) (by decide)⟩ ?_
  rintro hX ⟨x1, x2, x3, x4, x5, x6, x7, x8, x9, x10, x11, xk⟩
  refine gX1_tellMeaning_l1 x1 x2 (fun j hj => ?_) ?_ 20 0 hX _ _ rfl rfl (ex1_rf 3 hX) x3 (fun j hj => absurd hj (by omega))
  · by_cases e : j = w0
    · rw [e, un_s]; omega
    · rw [un_n e]; exact hm j hj
  intro h' se1 k1 m1 r1
  refine aw_iconst (0) dX1_tellMeaning_66 (by decide) ?_
  refine aw_istore [(4, .int 0), (3, .int (nI (m w0))), (2, .int o), (1, .int w), (0, .ref (G.1 + 1))] dX1_tellMeaning_67 (by decide) rfl ?_
  refine aw_lv [(4, .int 0), (3, .int (nI (m w0))), (2, .int o), (1, .int w), (0, .ref (G.1 + 1))] [0, 1, 2, 3, 4] rfl ?_
  refine gX1_tellMeaning_l2 (ex1_at k1 (by decide) x1) m1 (ex1_at k1 (by decide) x6) (by decide) ?_ 40 0 h' _ _ rfl rfl (ex1_rf 7 h') (ex1_at k1 (by decide) x7) (fun j hj => absurd hj (by omega))
  intro h2 Sn1 k2 m2 r2
  refine aw_aload_n 3 dX1_tellMeaning_103 rfl rfl ?_
  refine aw_dup dX1_tellMeaning_104 rfl ?_
  refine aw_get fX1_53 dX1_tellMeaning_105 (ex1_at k2 (by decide) (ex1_at k1 (by decide) x1)) rfl ?_
  refine aw_iconst (1) dX1_tellMeaning_108 (by decide) ?_
  refine aw_iadd dX1_tellMeaning_109 ?_
  refine aw_top (fun v2 ev2 => ?_)
  refine aw_putQ fX1_53 dX1_tellMeaning_110 [.ref (G.1 + 2), .ref (G.1 + 3), .ref (G.1 + 4), .ref (G.1 + 5), .ref (G.1 + 6), .ref (G.1 + 7), .ref (G.1 + 8), .ref (G.1 + 9), .ref (G.1 + 10), .ref (G.1 + 11), .int (nI nb), .int (nI sp), .int (nI fa), .int v2] (ex1_at k2 (by decide) (ex1_at k1 (by decide) x1)) rfl rfl rfl (Nat.le_of_ble_eq_true rfl) rfl ?_
  refine aw_iload_n 0 dX1_tellMeaning_113 rfl rfl ?_
  exact aw_iret rfl dX1_tellMeaning_114 (by decide) (by decide) ⟨rfl, se1, Sn1, v2, ⟨(gs (ex1_at k2 (by decide) (ex1_at k1 (by decide) x1))), (gn (by decide) (ex1_at k2 (by decide) (ex1_at k1 (by decide) x2))), (gn (by decide) (ex1_at k2 (by decide) m1)), (gn (by decide) (ex1_at k2 (by decide) (ex1_at k1 (by decide) x4))), (gn (by decide) (ex1_at k2 (by decide) (ex1_at k1 (by decide) x5))), (gn (by decide) (ex1_at k2 (by decide) (ex1_at k1 (by decide) x6))), (gn (by decide) (m2)), (gn (by decide) (ex1_at k2 (by decide) (ex1_at k1 (by decide) x8))), (gn (by decide) (ex1_at k2 (by decide) (ex1_at k1 (by decide) x9))), (gn (by decide) (ex1_at k2 (by decide) (ex1_at k1 (by decide) x10))), (gn (by decide) (ex1_at k2 (by decide) (ex1_at k1 (by decide) x11)))⟩, r1, r2, rng_set (rng_tr (rng_tr xk (rng_w (ex1_rng k1) (by decide) (by decide))) (rng_w (ex1_rng k2) (by decide) (by decide))) (by decide) (by decide)⟩
set_option maxHeartbeats 4000000 in
theorem gX1_tellYear {l : Launch} {G : xG} {h : List va_E} {m se ye fi : Nat → Nat} {W Sn Z Ro Co : Nat → Int32} {Ba : Nat → Int64} {nb sp fa : Nat} {ver : Int32} {c y : Int32} {c0 y0 : Nat} (hC : xCat G m se ye fi W Sn Z Ro Co Ba nb sp fa ver h) (hm : ∀ j, j < 20 → m j ≤ j) (hse : ∀ j, j < 20 → se j < 20) (hfi : ∀ j, j < 4 → fi j < 11) (hye : ∀ j, j < 4 → ye j < 1901) (ec : c = nI c0) (bc : c0 < 4) (ey : y = nI y0) : CE l G yX1_tellYear cX1_tellYear 4 (some .int) 0 0 0 [.ref (G.1 + 1), .int c, .int y] h (some (.int (nI (ye c0)))) (fun h1 => ∃ ver1, xCat G m se (un ye c0 y0) fi W Sn Z Ro Co Ba nb sp fa ver1 h1 ∧ rng 1 11 h h1) := by
  refine cm_of rfl (Nat.le_of_ble_eq_true rfl) [(0, .ref (G.1 + 1)), (1, .int c), (2, .int y)] rfl ?_
  refine aw_aload_n 0 dX1_tellYear_0 rfl rfl ?_
  refine aw_get fX1_18 dX1_tellYear_1 hC.1 rfl ?_
  refine aw_iload_n 1 dX1_tellYear_4 rfl rfl ?_
  refine aw_iald c0 (ec) (by omega) (by decide) dX1_tellYear_5 hC.2.2.2.1 ?_
  refine aw_toe (nI (ye c0)) (rfl) ?_
  refine aw_istore_n [(3, .int (nI (ye c0))), (0, .ref (G.1 + 1)), (1, .int c), (2, .int y)] dX1_tellYear_6 rfl (by decide) rfl ?_
  refine aw_aload_n 1 dX1_tellYear_7 rfl rfl ?_
  refine aw_get fX1_18 dX1_tellYear_8 hC.1 rfl ?_
  refine aw_iload_n 2 dX1_tellYear_11 rfl rfl ?_
  refine aw_iload_n 3 dX1_tellYear_12 rfl rfl ?_
  refine aw_iast c0 (ec) (by omega) (by decide) dX1_tellYear_13 hC.2.2.2.1 ?_
  rw [nA_u (f := ye) (i := c0) (x := y) (v := y0) (ey)]
  refine aw_aload_n 1 dX1_tellYear_14 rfl rfl ?_
  refine aw_dup dX1_tellYear_15 rfl ?_
  refine aw_get fX1_53 dX1_tellYear_16 (gn (by decide) (hC.1)) rfl ?_
  refine aw_iconst (1) dX1_tellYear_19 (by decide) ?_
  refine aw_iadd dX1_tellYear_20 ?_
  refine aw_top (fun v3 ev3 => ?_)
  refine aw_putQ fX1_53 dX1_tellYear_21 [.ref (G.1 + 2), .ref (G.1 + 3), .ref (G.1 + 4), .ref (G.1 + 5), .ref (G.1 + 6), .ref (G.1 + 7), .ref (G.1 + 8), .ref (G.1 + 9), .ref (G.1 + 10), .ref (G.1 + 11), .int (nI nb), .int (nI sp), .int (nI fa), .int v3] (gn (by decide) (hC.1)) rfl rfl rfl (Nat.le_of_ble_eq_true rfl) rfl ?_
  refine aw_iload_n 0 dX1_tellYear_24 rfl rfl ?_
  exact aw_iret rfl dX1_tellYear_25 (by decide) (by decide) ⟨rfl, v3, ⟨(gs (gn (by decide) (hC.1))), (gn (by decide) (gn (by decide) (hC.2.1))), (gn (by decide) (gn (by decide) (hC.2.2.1))), (gn (by decide) (gs hC.2.2.2.1)), (gn (by decide) (gn (by decide) (hC.2.2.2.2.1))), (gn (by decide) (gn (by decide) (hC.2.2.2.2.2.1))), (gn (by decide) (gn (by decide) (hC.2.2.2.2.2.2.1))), (gn (by decide) (gn (by decide) (hC.2.2.2.2.2.2.2.1))), (gn (by decide) (gn (by decide) (hC.2.2.2.2.2.2.2.2.1))), (gn (by decide) (gn (by decide) (hC.2.2.2.2.2.2.2.2.2.1))), (gn (by decide) (gn (by decide) (hC.2.2.2.2.2.2.2.2.2.2)))⟩, rng_set (rng_set (rng_rf 1 11 h) (by decide) (by decide)) (by decide) (by decide)⟩
set_option maxHeartbeats 4000000 in
theorem gX1_tellSpare {l : Launch} {G : xG} {h : List va_E} {m se ye fi : Nat → Nat} {W Sn Z Ro Co : Nat → Int32} {Ba : Nat → Int64} {nb sp fa : Nat} {ver : Int32} {v : Int32} {v0 : Nat} (hC : xCat G m se ye fi W Sn Z Ro Co Ba nb sp fa ver h) (hm : ∀ j, j < 20 → m j ≤ j) (hse : ∀ j, j < 20 → se j < 20) (hfi : ∀ j, j < 4 → fi j < 11) (hye : ∀ j, j < 4 → ye j < 1901) (ev : v = nI v0) : CE l G yX1_tellSpare cX1_tellSpare 3 (some .int) 0 0 0 [.ref (G.1 + 1), .int v] h (some (.int (nI sp))) (fun h1 => ∃ ver1, xCat G m se ye fi W Sn Z Ro Co Ba nb v0 fa ver1 h1 ∧ rng 1 11 h h1) := by
  refine cm_of rfl (Nat.le_of_ble_eq_true rfl) [(0, .ref (G.1 + 1)), (1, .int v)] rfl ?_
  refine aw_aload_n 0 dX1_tellSpare_0 rfl rfl ?_
  refine aw_get fX1_47 dX1_tellSpare_1 hC.1 rfl ?_
  refine aw_istore_n [(2, .int (nI sp)), (0, .ref (G.1 + 1)), (1, .int v)] dX1_tellSpare_4 rfl (by decide) rfl ?_
  refine aw_aload_n 1 dX1_tellSpare_5 rfl rfl ?_
  refine aw_iload_n 2 dX1_tellSpare_6 rfl rfl ?_
  refine aw_toe (nI v0) (ev) ?_
  refine aw_putQ fX1_47 dX1_tellSpare_7 [.ref (G.1 + 2), .ref (G.1 + 3), .ref (G.1 + 4), .ref (G.1 + 5), .ref (G.1 + 6), .ref (G.1 + 7), .ref (G.1 + 8), .ref (G.1 + 9), .ref (G.1 + 10), .ref (G.1 + 11), .int (nI nb), .int (nI v0), .int (nI fa), .int ver] hC.1 rfl rfl rfl (Nat.le_of_ble_eq_true rfl) rfl ?_
  refine aw_aload_n 1 dX1_tellSpare_10 rfl rfl ?_
  refine aw_dup dX1_tellSpare_11 rfl ?_
  refine aw_get fX1_53 dX1_tellSpare_12 (gs hC.1) rfl ?_
  refine aw_iconst (1) dX1_tellSpare_15 (by decide) ?_
  refine aw_iadd dX1_tellSpare_16 ?_
  refine aw_top (fun v4 ev4 => ?_)
  refine aw_putQ fX1_53 dX1_tellSpare_17 [.ref (G.1 + 2), .ref (G.1 + 3), .ref (G.1 + 4), .ref (G.1 + 5), .ref (G.1 + 6), .ref (G.1 + 7), .ref (G.1 + 8), .ref (G.1 + 9), .ref (G.1 + 10), .ref (G.1 + 11), .int (nI nb), .int (nI v0), .int (nI fa), .int v4] (gs hC.1) rfl rfl rfl (Nat.le_of_ble_eq_true rfl) rfl ?_
  refine aw_iload_n 0 dX1_tellSpare_20 rfl rfl ?_
  exact aw_iret rfl dX1_tellSpare_21 (by decide) (by decide) ⟨rfl, v4, ⟨(gs (gs hC.1)), (gn (by decide) (gn (by decide) (hC.2.1))), (gn (by decide) (gn (by decide) (hC.2.2.1))), (gn (by decide) (gn (by decide) (hC.2.2.2.1))), (gn (by decide) (gn (by decide) (hC.2.2.2.2.1))), (gn (by decide) (gn (by decide) (hC.2.2.2.2.2.1))), (gn (by decide) (gn (by decide) (hC.2.2.2.2.2.2.1))), (gn (by decide) (gn (by decide) (hC.2.2.2.2.2.2.2.1))), (gn (by decide) (gn (by decide) (hC.2.2.2.2.2.2.2.2.1))), (gn (by decide) (gn (by decide) (hC.2.2.2.2.2.2.2.2.2.1))), (gn (by decide) (gn (by decide) (hC.2.2.2.2.2.2.2.2.2.2)))⟩, rng_set (rng_set (rng_rf 1 11 h) (by decide) (by decide)) (by decide) (by decide)⟩
set_option maxHeartbeats 4000000 in
theorem gX1_tellFade {l : Launch} {G : xG} {h : List va_E} {m se ye fi : Nat → Nat} {W Sn Z Ro Co : Nat → Int32} {Ba : Nat → Int64} {nb sp fa : Nat} {ver : Int32} {v : Int32} {v0 : Nat} (hC : xCat G m se ye fi W Sn Z Ro Co Ba nb sp fa ver h) (hm : ∀ j, j < 20 → m j ≤ j) (hse : ∀ j, j < 20 → se j < 20) (hfi : ∀ j, j < 4 → fi j < 11) (hye : ∀ j, j < 4 → ye j < 1901) (ev : v = nI v0) : CE l G yX1_tellFade cX1_tellFade 3 (some .int) 0 0 0 [.ref (G.1 + 1), .int v] h (some (.int (nI fa))) (fun h1 => ∃ ver1, xCat G m se ye fi W Sn Z Ro Co Ba nb sp v0 ver1 h1 ∧ rng 1 11 h h1) := by
  refine cm_of rfl (Nat.le_of_ble_eq_true rfl) [(0, .ref (G.1 + 1)), (1, .int v)] rfl ?_
  refine aw_aload_n 0 dX1_tellFade_0 rfl rfl ?_
  refine aw_get fX1_50 dX1_tellFade_1 hC.1 rfl ?_
  refine aw_istore_n [(2, .int (nI fa)), (0, .ref (G.1 + 1)), (1, .int v)] dX1_tellFade_4 rfl (by decide) rfl ?_
  refine aw_aload_n 1 dX1_tellFade_5 rfl rfl ?_
  refine aw_iload_n 2 dX1_tellFade_6 rfl rfl ?_
  refine aw_toe (nI v0) (ev) ?_
  refine aw_putQ fX1_50 dX1_tellFade_7 [.ref (G.1 + 2), .ref (G.1 + 3), .ref (G.1 + 4), .ref (G.1 + 5), .ref (G.1 + 6), .ref (G.1 + 7), .ref (G.1 + 8), .ref (G.1 + 9), .ref (G.1 + 10), .ref (G.1 + 11), .int (nI nb), .int (nI sp), .int (nI v0), .int ver] hC.1 rfl rfl rfl (Nat.le_of_ble_eq_true rfl) rfl ?_
  refine aw_aload_n 1 dX1_tellFade_10 rfl rfl ?_
  refine aw_dup dX1_tellFade_11 rfl ?_
  refine aw_get fX1_53 dX1_tellFade_12 (gs hC.1) rfl ?_
  refine aw_iconst (1) dX1_tellFade_15 (by decide) ?_
  refine aw_iadd dX1_tellFade_16 ?_
  refine aw_top (fun v5 ev5 => ?_)
  refine aw_putQ fX1_53 dX1_tellFade_17 [.ref (G.1 + 2), .ref (G.1 + 3), .ref (G.1 + 4), .ref (G.1 + 5), .ref (G.1 + 6), .ref (G.1 + 7), .ref (G.1 + 8), .ref (G.1 + 9), .ref (G.1 + 10), .ref (G.1 + 11), .int (nI nb), .int (nI sp), .int (nI v0), .int v5] (gs hC.1) rfl rfl rfl (Nat.le_of_ble_eq_true rfl) rfl ?_
  refine aw_iload_n 0 dX1_tellFade_20 rfl rfl ?_
  exact aw_iret rfl dX1_tellFade_21 (by decide) (by decide) ⟨rfl, v5, ⟨(gs (gs hC.1)), (gn (by decide) (gn (by decide) (hC.2.1))), (gn (by decide) (gn (by decide) (hC.2.2.1))), (gn (by decide) (gn (by decide) (hC.2.2.2.1))), (gn (by decide) (gn (by decide) (hC.2.2.2.2.1))), (gn (by decide) (gn (by decide) (hC.2.2.2.2.2.1))), (gn (by decide) (gn (by decide) (hC.2.2.2.2.2.2.1))), (gn (by decide) (gn (by decide) (hC.2.2.2.2.2.2.2.1))), (gn (by decide) (gn (by decide) (hC.2.2.2.2.2.2.2.2.1))), (gn (by decide) (gn (by decide) (hC.2.2.2.2.2.2.2.2.2.1))), (gn (by decide) (gn (by decide) (hC.2.2.2.2.2.2.2.2.2.2)))⟩, rng_set (rng_set (rng_rf 1 11 h) (by decide) (by decide)) (by decide) (by decide)⟩
set_option maxHeartbeats 4000000 in
theorem gX1_addEntry {l : Launch} {G : xG} {h : List va_E} {m se ye fi : Nat → Nat} {W Sn Z Ro Co : Nat → Int32} {Ba : Nat → Int64} {nb sp fa : Nat} {ver : Int32} {c w s r u : Int32} {c0 : Nat} (hC : xCat G m se ye fi W Sn Z Ro Co Ba nb sp fa ver h) (hm : ∀ j, j < 20 → m j ≤ j) (hse : ∀ j, j < 20 → se j < 20) (hfi : ∀ j, j < 4 → fi j < 11) (hye : ∀ j, j < 4 → ye j < 1901) (ec : c = nI c0) (bc : c0 < 4) (bf : fi c0 < 10) : CE l G yX1_addEntry cX1_addEntry 8 (some .int) 1 0 0 [.ref (G.1 + 1), .int c, .int w, .int s, .int r, .int u] h (some (.int (nI (fi c0)))) (fun h1 => ∃ ver1, xCat G m se ye (un fi c0 (fi c0 + 1)) (upd W (c0 * 10 + fi c0) w) (upd Sn (c0 * 10 + fi c0) (snF se w 20)) (upd Z (c0 * 10 + fi c0) s) (upd Ro (c0 * 10 + fi c0) r) (upd Co (c0 * 10 + fi c0) u) Ba nb sp fa ver1 h1 ∧ rng 1 11 h h1) := by
  refine cm_of rfl (Nat.le_of_ble_eq_true rfl) [(0, .ref (G.1 + 1)), (1, .int c), (2, .int w), (3, .int s), (4, .int r), (5, .int u)] rfl ?_
  refine aw_aload_n 0 dX1_addEntry_0 rfl rfl ?_
  refine aw_get fX1_21 dX1_addEntry_1 hC.1 rfl ?_
  refine aw_iload_n 1 dX1_addEntry_4 rfl rfl ?_
  refine aw_iald c0 (ec) (by omega) (by decide) dX1_addEntry_5 hC.2.2.2.2.1 ?_
  refine aw_toe (nI (fi c0)) (rfl) ?_
  have b6 := hfi c0 (by omega)
  refine aw_istore [(6, .int (nI (fi c0))), (0, .ref (G.1 + 1)), (1, .int c), (2, .int w), (3, .int s), (4, .int r), (5, .int u)] dX1_addEntry_6 (by decide) rfl ?_
  refine aw_iload_n 2 dX1_addEntry_8 rfl rfl ?_
  refine aw_bipush (10) dX1_addEntry_9 (by decide) ?_
  refine aw_imul dX1_addEntry_11 ?_
  refine aw_iload 0 dX1_addEntry_12 rfl ?_
  refine aw_iadd dX1_addEntry_14 ?_
  refine aw_toe (nI ((c0 * 10) + (fi c0))) (nv_add (nv_mul (ec) (rfl)) (rfl)) ?_
  refine aw_istore [(7, .int (nI ((c0 * 10) + (fi c0)))), (6, .int (nI (fi c0))), (0, .ref (G.1 + 1)), (1, .int c), (2, .int w), (3, .int s), (4, .int r), (5, .int u)] dX1_addEntry_15 (by decide) rfl ?_
  refine aw_aload_n 2 dX1_addEntry_17 rfl rfl ?_
  refine aw_get fX1_24 dX1_addEntry_18 hC.1 rfl ?_
  refine aw_iload 0 dX1_addEntry_21 rfl ?_
  refine aw_iload_n 4 dX1_addEntry_23 rfl rfl ?_
  refine aw_iast ((c0 * 10) + (fi c0)) (rfl) (by omega) (by decide) dX1_addEntry_24 hC.2.2.2.2.2.1 ?_
  refine aw_aload_n 2 dX1_addEntry_25 rfl rfl ?_
  refine aw_get fX1_27 dX1_addEntry_26 (gn (by decide) (hC.1)) rfl ?_
  refine aw_iload 0 dX1_addEntry_29 rfl ?_
  refine aw_aload_n 2 dX1_addEntry_31 rfl rfl ?_
  refine aw_iload_n 4 dX1_addEntry_32 rfl rfl ?_
  refine aw_dV [.int w] [.int (nI ((c0 * 10) + (fi c0))), .ref (G.1 + 7)] lX1_56 vX1_sensesOf mX1_sensesOf dX1_addEntry_33 (gX1_sensesOf (gn (by decide) (hC.1)) (gn (by decide) (hC.2.2.1))) (gn (by decide) (hC.1)) rfl rfl rfl (Nat.le_of_ble_eq_true rfl) (by decide) (by decide) rfl ?_
  refine aw_iast ((c0 * 10) + (fi c0)) (rfl) (by omega) (by decide) dX1_addEntry_36 (gn (by decide) (hC.2.2.2.2.2.2.1)) ?_
  refine aw_aload_n 2 dX1_addEntry_37 rfl rfl ?_
  refine aw_get fX1_30 dX1_addEntry_38 (gn (by decide) (gn (by decide) (hC.1))) rfl ?_
  refine aw_iload 0 dX1_addEntry_41 rfl ?_
  refine aw_iload_n 5 dX1_addEntry_43 rfl rfl ?_
  refine aw_iast ((c0 * 10) + (fi c0)) (rfl) (by omega) (by decide) dX1_addEntry_44 (gn (by decide) (gn (by decide) (hC.2.2.2.2.2.2.2.1))) ?_
  refine aw_aload_n 2 dX1_addEntry_45 rfl rfl ?_
  refine aw_get fX1_33 dX1_addEntry_46 (gn (by decide) (gn (by decide) (gn (by decide) (hC.1)))) rfl ?_
  refine aw_iload 0 dX1_addEntry_49 rfl ?_
  refine aw_iload 6 dX1_addEntry_51 rfl ?_
  refine aw_iast ((c0 * 10) + (fi c0)) (rfl) (by omega) (by decide) dX1_addEntry_53 (gn (by decide) (gn (by decide) (gn (by decide) (hC.2.2.2.2.2.2.2.2.1)))) ?_
  refine aw_aload_n 2 dX1_addEntry_54 rfl rfl ?_
  refine aw_get fX1_36 dX1_addEntry_55 (gn (by decide) (gn (by decide) (gn (by decide) (gn (by decide) (hC.1))))) rfl ?_
  refine aw_iload 0 dX1_addEntry_58 rfl ?_
  refine aw_iload 7 dX1_addEntry_60 rfl ?_
  refine aw_iast ((c0 * 10) + (fi c0)) (rfl) (by omega) (by decide) dX1_addEntry_62 (gn (by decide) (gn (by decide) (gn (by decide) (gn (by decide) (hC.2.2.2.2.2.2.2.2.2.1))))) ?_
  refine aw_aload_n 2 dX1_addEntry_63 rfl rfl ?_
  refine aw_get fX1_21 dX1_addEntry_64 (gn (by decide) (gn (by decide) (gn (by decide) (gn (by decide) (gn (by decide) (hC.1)))))) rfl ?_
  refine aw_iload_n 3 dX1_addEntry_67 rfl rfl ?_
  refine aw_iload 1 dX1_addEntry_68 rfl ?_
  refine aw_iconst (1) dX1_addEntry_70 (by decide) ?_
  refine aw_iadd dX1_addEntry_71 ?_
  refine aw_iast c0 (ec) (by omega) (by decide) dX1_addEntry_72 (gn (by decide) (gn (by decide) (gn (by decide) (gn (by decide) (gn (by decide) (hC.2.2.2.2.1)))))) ?_
  rw [nA_u (f := fi) (i := c0) (x := (nI (fi c0)) + 1) (v := (fi c0) + 1) (nv_add (rfl) (rfl))]
  refine aw_aload_n 2 dX1_addEntry_73 rfl rfl ?_
  refine aw_dup dX1_addEntry_74 rfl ?_
  refine aw_get fX1_53 dX1_addEntry_75 (gn (by decide) (gn (by decide) (gn (by decide) (gn (by decide) (gn (by decide) (gn (by decide) (hC.1))))))) rfl ?_
  refine aw_iconst (1) dX1_addEntry_78 (by decide) ?_
  refine aw_iadd dX1_addEntry_79 ?_
  refine aw_top (fun v7 ev7 => ?_)
  refine aw_putQ fX1_53 dX1_addEntry_80 [.ref (G.1 + 2), .ref (G.1 + 3), .ref (G.1 + 4), .ref (G.1 + 5), .ref (G.1 + 6), .ref (G.1 + 7), .ref (G.1 + 8), .ref (G.1 + 9), .ref (G.1 + 10), .ref (G.1 + 11), .int (nI nb), .int (nI sp), .int (nI fa), .int v7] (gn (by decide) (gn (by decide) (gn (by decide) (gn (by decide) (gn (by decide) (gn (by decide) (hC.1))))))) rfl rfl rfl (Nat.le_of_ble_eq_true rfl) rfl ?_
  refine aw_iload 1 dX1_addEntry_83 rfl ?_
  exact aw_iret rfl dX1_addEntry_85 (by decide) (by decide) ⟨rfl, v7, ⟨(gs (gn (by decide) (gn (by decide) (gn (by decide) (gn (by decide) (gn (by decide) (gn (by decide) (hC.1)))))))), (gn (by decide) (gn (by decide) (gn (by decide) (gn (by decide) (gn (by decide) (gn (by decide) (gn (by decide) (hC.2.1)))))))), (gn (by decide) (gn (by decide) (gn (by decide) (gn (by decide) (gn (by decide) (gn (by decide) (gn (by decide) (hC.2.2.1)))))))), (gn (by decide) (gn (by decide) (gn (by decide) (gn (by decide) (gn (by decide) (gn (by decide) (gn (by decide) (hC.2.2.2.1)))))))), (gn (by decide) (gs (gn (by decide) (gn (by decide) (gn (by decide) (gn (by decide) (gn (by decide) (hC.2.2.2.2.1)))))))), (gn (by decide) (gn (by decide) (gn (by decide) (gn (by decide) (gn (by decide) (gn (by decide) (gs hC.2.2.2.2.2.1))))))), (gn (by decide) (gn (by decide) (gn (by decide) (gn (by decide) (gn (by decide) (gs (gn (by decide) (hC.2.2.2.2.2.2.1)))))))), (gn (by decide) (gn (by decide) (gn (by decide) (gn (by decide) (gs (gn (by decide) (gn (by decide) (hC.2.2.2.2.2.2.2.1)))))))), (gn (by decide) (gn (by decide) (gn (by decide) (gs (gn (by decide) (gn (by decide) (gn (by decide) (hC.2.2.2.2.2.2.2.2.1)))))))), (gn (by decide) (gn (by decide) (gs (gn (by decide) (gn (by decide) (gn (by decide) (gn (by decide) (hC.2.2.2.2.2.2.2.2.2.1)))))))), (gn (by decide) (gn (by decide) (gn (by decide) (gn (by decide) (gn (by decide) (gn (by decide) (gn (by decide) (hC.2.2.2.2.2.2.2.2.2.2))))))))⟩, rng_set (rng_set (rng_set (rng_set (rng_set (rng_set (rng_set (rng_rf 1 11 h) (by decide) (by decide)) (by decide) (by decide)) (by decide) (by decide)) (by decide) (by decide)) (by decide) (by decide)) (by decide) (by decide)) (by decide) (by decide)⟩
set_option maxHeartbeats 4000000 in
theorem gX1_isBarTold {l : Launch} {G : xG} {h : List va_E} {e f : Int32} {e0 f0 : Nat} {m se ye fi : Nat → Nat} {W Sn Z Ro Co : Nat → Int32} {Ba : Nat → Int64} {nb sp fa : Nat} {ver : Int32} (hC : xCat G m se ye fi W Sn Z Ro Co Ba nb sp fa ver h) (hm : ∀ j, j < 20 → m j ≤ j) (hse : ∀ j, j < 20 → se j < 20) (hfi : ∀ j, j < 4 → fi j < 11) (hye : ∀ j, j < 4 → ye j < 1901) (ee : e = nI e0) (be : e0 < 40) (ef : f = nI f0) (bf : f0 < 40) : CD l G yX1_isBarTold cX1_isBarTold 3 (some .boolean) 0 0 0 [.ref (G.1 + 1), .int e, .int f] h (some (.int (barF Ba e0 f))) h := by
  refine cm_of rfl (Nat.le_of_ble_eq_true rfl) [(0, .ref (G.1 + 1)), (1, .int e), (2, .int f)] rfl ?_
  refine aw_aload_n 0 dX1_isBarTold_0 rfl rfl ?_
  refine aw_get fX1_39 dX1_isBarTold_1 hC.1 rfl ?_
  refine aw_iload_n 1 dX1_isBarTold_4 rfl rfl ?_
  refine aw_lald e0 (ee) (by omega) (by decide) dX1_isBarTold_5 hC.2.2.2.2.2.2.2.2.2.2 ?_
  refine aw_iload_n 2 dX1_isBarTold_6 rfl rfl ?_
  refine aw_lshr _ dX1_isBarTold_7 rfl ?_
  refine aw_lconst 1 dX1_isBarTold_8 (by decide) ?_
  refine aw_land dX1_isBarTold_9 ?_
  refine aw_lconst 0 dX1_isBarTold_10 (by decide) ?_
  refine aw_lcmp dX1_isBarTold_11 ?_
  refine aw_if_eq 19 dX1_isBarTold_12 (by decide) (fun c12 => ?_) (fun c12 => ?_)
  · refine aw_iconst (0) dX1_isBarTold_19 (by decide) ?_
    exact aw_zret rfl rfl dX1_isBarTold_20 (by decide) (by decide) ⟨by simp [barF, c12], rfl⟩
  · refine aw_iconst (1) dX1_isBarTold_15 (by decide) ?_
    refine aw_goto 20 dX1_isBarTold_16 (by decide) ?_
    exact aw_zret rfl rfl dX1_isBarTold_20 (by decide) (by decide) ⟨by simp [barF, c12], rfl⟩
set_option maxHeartbeats 4000000 in
theorem gX1_isSameText {l : Launch} {G : xG} {h : List va_E} {e f : Int32} {e0 f0 : Nat} {m se ye fi : Nat → Nat} {W Sn Z Ro Co : Nat → Int32} {Ba : Nat → Int64} {nb sp fa : Nat} {ver : Int32} (hC : xCat G m se ye fi W Sn Z Ro Co Ba nb sp fa ver h) (hm : ∀ j, j < 20 → m j ≤ j) (hse : ∀ j, j < 20 → se j < 20) (hfi : ∀ j, j < 4 → fi j < 11) (hye : ∀ j, j < 4 → ye j < 1901) (ee : e = nI e0) (be : e0 < 40) (ef : f = nI f0) (bf : f0 < 40) : CD l G yX1_isSameText cX1_isSameText 3 (some .boolean) 0 0 0 [.ref (G.1 + 1), .int e, .int f] h (some (.int (if W e0 = W f0 ∧ Z e0 = Z f0 then 1 else 0))) h := by
  refine cm_of rfl (Nat.le_of_ble_eq_true rfl) [(0, .ref (G.1 + 1)), (1, .int e), (2, .int f)] rfl ?_
  refine aw_aload_n 0 dX1_isSameText_0 rfl rfl ?_
  refine aw_get fX1_24 dX1_isSameText_1 hC.1 rfl ?_
  refine aw_iload_n 1 dX1_isSameText_4 rfl rfl ?_
  refine aw_iald e0 (ee) (by omega) (by decide) dX1_isSameText_5 hC.2.2.2.2.2.1 ?_
  refine aw_aload_n 0 dX1_isSameText_6 rfl rfl ?_
  refine aw_get fX1_24 dX1_isSameText_7 hC.1 rfl ?_
  refine aw_iload_n 2 dX1_isSameText_10 rfl rfl ?_
  refine aw_iald f0 (ef) (by omega) (by decide) dX1_isSameText_11 hC.2.2.2.2.2.1 ?_
  refine aw_icmp_ne 34 dX1_isSameText_12 (by decide) (fun c12 => ?_) (fun c12 => ?_)
  · refine aw_iconst (0) dX1_isSameText_34 (by decide) ?_
    exact aw_zret rfl rfl dX1_isSameText_35 (by decide) (by decide) ⟨by simp [c12], rfl⟩
  · refine aw_aload_n 0 dX1_isSameText_15 rfl rfl ?_
    refine aw_get fX1_30 dX1_isSameText_16 hC.1 rfl ?_
    refine aw_iload_n 1 dX1_isSameText_19 rfl rfl ?_
    refine aw_iald e0 (ee) (by omega) (by decide) dX1_isSameText_20 hC.2.2.2.2.2.2.2.1 ?_
    refine aw_aload_n 0 dX1_isSameText_21 rfl rfl ?_
    refine aw_get fX1_30 dX1_isSameText_22 hC.1 rfl ?_
    refine aw_iload_n 2 dX1_isSameText_25 rfl rfl ?_
    refine aw_iald f0 (ef) (by omega) (by decide) dX1_isSameText_26 hC.2.2.2.2.2.2.2.1 ?_
    refine aw_icmp_ne 34 dX1_isSameText_27 (by decide) (fun c27 => ?_) (fun c27 => ?_)
    · refine aw_iconst (0) dX1_isSameText_34 (by decide) ?_
      exact aw_zret rfl rfl dX1_isSameText_35 (by decide) (by decide) ⟨by simp [c12, c27], rfl⟩
    · refine aw_iconst (1) dX1_isSameText_30 (by decide) ?_
      refine aw_goto 35 dX1_isSameText_31 (by decide) ?_
      exact aw_zret rfl rfl dX1_isSameText_35 (by decide) (by decide) ⟨by simp [c12, c27], rfl⟩
set_option maxHeartbeats 4000000 in
theorem gX1_fades {l : Launch} {G : xG} {h : List va_E} {e f : Int32} {e0 f0 : Nat} {m se ye fi : Nat → Nat} {W Sn Z Ro Co : Nat → Int32} {Ba : Nat → Int64} {nb sp fa : Nat} {ver : Int32} (hC : xCat G m se ye fi W Sn Z Ro Co Ba nb sp fa ver h) (hm : ∀ j, j < 20 → m j ≤ j) (hse : ∀ j, j < 20 → se j < 20) (hfi : ∀ j, j < 4 → fi j < 11) (hye : ∀ j, j < 4 → ye j < 1901) (ee : e = nI e0) (be : e0 < 40) (ef : f = nI f0) (bf : f0 < 40) : CD l G yX1_fadesAsItMay cX1_fadesAsItMay 8 (some .boolean) 0 0 0 [.ref (G.1 + 1), .int e, .int f] h (some (.int (fadeC ye Co fa e0 f0))) h := by
  refine cm_of rfl (Nat.le_of_ble_eq_true rfl) [(0, .ref (G.1 + 1)), (1, .int e), (2, .int f)] rfl ?_
  refine aw_iload_n 1 dX1_fadesAsItMay_0 rfl rfl ?_
  refine aw_bipush (10) dX1_fadesAsItMay_1 (by decide) ?_
  refine aw_idiv dX1_fadesAsItMay_3 (by decide) ?_
  refine aw_toe (nI (e0 / 10)) (nv_div (ee) (rfl) (by omega) (by decide) (by decide)) ?_
  refine aw_istore_n [(3, .int (nI (e0 / 10))), (0, .ref (G.1 + 1)), (1, .int e), (2, .int f)] dX1_fadesAsItMay_4 rfl (by decide) rfl ?_
  refine aw_iload_n 3 dX1_fadesAsItMay_5 rfl rfl ?_
  refine aw_bipush (10) dX1_fadesAsItMay_6 (by decide) ?_
  refine aw_idiv dX1_fadesAsItMay_8 (by decide) ?_
  refine aw_toe (nI (f0 / 10)) (nv_div (ef) (rfl) (by omega) (by decide) (by decide)) ?_
  refine aw_istore [(4, .int (nI (f0 / 10))), (3, .int (nI (e0 / 10))), (0, .ref (G.1 + 1)), (1, .int e), (2, .int f)] dX1_fadesAsItMay_9 (by decide) rfl ?_
  refine aw_aload_n 2 dX1_fadesAsItMay_11 rfl rfl ?_
  refine aw_get fX1_18 dX1_fadesAsItMay_12 hC.1 rfl ?_
  refine aw_iload_n 1 dX1_fadesAsItMay_15 rfl rfl ?_
  refine aw_iald (e0 / 10) (rfl) (by omega) (by decide) dX1_fadesAsItMay_16 hC.2.2.2.1 ?_
  refine aw_toe (nI (ye (e0 / 10))) (rfl) ?_
  have b8 := hye (e0 / 10) (by omega)
  refine aw_aload_n 2 dX1_fadesAsItMay_17 rfl rfl ?_
  refine aw_get fX1_18 dX1_fadesAsItMay_18 hC.1 rfl ?_
  refine aw_iload 0 dX1_fadesAsItMay_21 rfl ?_
  refine aw_iald (f0 / 10) (rfl) (by omega) (by decide) dX1_fadesAsItMay_23 hC.2.2.2.1 ?_
  refine aw_toe (nI (ye (f0 / 10))) (rfl) ?_
  have b9 := hye (f0 / 10) (by omega)
  refine aw_icmp_eq 51 dX1_fadesAsItMay_24 (by decide) (fun c24 => ?_) (fun c24 => ?_)
  · refine aw_iload_n 1 dX1_fadesAsItMay_51 rfl rfl ?_
    refine aw_iload 0 dX1_fadesAsItMay_52 rfl ?_
    refine aw_icmp_ge 61 dX1_fadesAsItMay_54 (by decide) (fun c54 => ?_) (fun c54 => ?_)
    · refine aw_iconst (0) dX1_fadesAsItMay_61 (by decide) ?_
      refine aw_istore [(5, .int 0), (4, .int (nI (f0 / 10))), (3, .int (nI (e0 / 10))), (0, .ref (G.1 + 1)), (1, .int e), (2, .int f)] dX1_fadesAsItMay_62 (by decide) rfl ?_
      refine aw_iload 0 dX1_fadesAsItMay_64 rfl ?_
      refine aw_if_eq 85 dX1_fadesAsItMay_66 (by decide) (fun c66 => ?_) (fun c66 => absurd (by decide) c66)
      refine aw_aload_n 3 dX1_fadesAsItMay_85 rfl rfl ?_
      refine aw_get fX1_36 dX1_fadesAsItMay_86 hC.1 rfl ?_
      refine aw_iload_n 5 dX1_fadesAsItMay_89 rfl rfl ?_
      refine aw_iald f0 (ef) (by omega) (by decide) dX1_fadesAsItMay_90 hC.2.2.2.2.2.2.2.2.2.1 ?_
      refine aw_aload_n 3 dX1_fadesAsItMay_91 rfl rfl ?_
      refine aw_get fX1_36 dX1_fadesAsItMay_92 hC.1 rfl ?_
      refine aw_iload_n 4 dX1_fadesAsItMay_95 rfl rfl ?_
      refine aw_iald e0 (ee) (by omega) (by decide) dX1_fadesAsItMay_96 hC.2.2.2.2.2.2.2.2.2.1 ?_
      refine aw_isub dX1_fadesAsItMay_97 ?_
      refine aw_top (fun v10 ev10 => ?_)
      refine aw_istore [(6, .int v10), (5, .int 0), (4, .int (nI (f0 / 10))), (3, .int (nI (e0 / 10))), (0, .ref (G.1 + 1)), (1, .int e), (2, .int f)] dX1_fadesAsItMay_98 (by decide) rfl ?_
      refine aw_iload 1 dX1_fadesAsItMay_100 rfl ?_
      refine aw_if_eq 122 dX1_fadesAsItMay_102 (by decide) (fun c102 => ?_) (fun c102 => absurd (by decide) c102)
      refine aw_aload_n 4 dX1_fadesAsItMay_122 rfl rfl ?_
      refine aw_get fX1_18 dX1_fadesAsItMay_123 hC.1 rfl ?_
      refine aw_iload_n 3 dX1_fadesAsItMay_126 rfl rfl ?_
      refine aw_iald (e0 / 10) (rfl) (by omega) (by decide) dX1_fadesAsItMay_127 hC.2.2.2.1 ?_
      refine aw_toe (nI (ye (e0 / 10))) (rfl) ?_
      have b11 := hye (e0 / 10) (by omega)
      refine aw_aload_n 4 dX1_fadesAsItMay_128 rfl rfl ?_
      refine aw_get fX1_18 dX1_fadesAsItMay_129 hC.1 rfl ?_
      refine aw_iload 2 dX1_fadesAsItMay_132 rfl ?_
      refine aw_iald (f0 / 10) (rfl) (by omega) (by decide) dX1_fadesAsItMay_134 hC.2.2.2.1 ?_
      refine aw_toe (nI (ye (f0 / 10))) (rfl) ?_
      have b12 := hye (f0 / 10) (by omega)
      refine aw_isub dX1_fadesAsItMay_135 ?_
      refine aw_istore [(7, .int ((nI (ye (e0 / 10))) - (nI (ye (f0 / 10))))), (6, .int v10), (5, .int 0), (4, .int (nI (f0 / 10))), (3, .int (nI (e0 / 10))), (0, .ref (G.1 + 1)), (1, .int e), (2, .int f)] dX1_fadesAsItMay_136 (by decide) rfl ?_
      refine aw_iload 1 dX1_fadesAsItMay_138 rfl ?_
      refine aw_if_lt 161 dX1_fadesAsItMay_140 (by decide) (fun c140 => ?_) (fun c140 => ?_)
      · refine aw_iconst (0) dX1_fadesAsItMay_161 (by decide) ?_
        exact aw_zret rfl rfl dX1_fadesAsItMay_162 (by decide) (by decide) ⟨by subst_vars; simp [fadeC, c24, c54, c140], rfl⟩
      · refine aw_iload 1 dX1_fadesAsItMay_143 rfl ?_
        refine aw_iload 0 dX1_fadesAsItMay_145 rfl ?_
        refine aw_aload_n 5 dX1_fadesAsItMay_147 rfl rfl ?_
        refine aw_get fX1_50 dX1_fadesAsItMay_148 hC.1 rfl ?_
        refine aw_imul dX1_fadesAsItMay_151 ?_
        refine aw_iconst (5) dX1_fadesAsItMay_152 (by decide) ?_
        refine aw_iadd dX1_fadesAsItMay_153 ?_
        refine aw_icmp_gt 161 dX1_fadesAsItMay_154 (by decide) (fun c154 => ?_) (fun c154 => ?_)
        · refine aw_iconst (0) dX1_fadesAsItMay_161 (by decide) ?_
          exact aw_zret rfl rfl dX1_fadesAsItMay_162 (by decide) (by decide) ⟨by subst_vars; first | (simp [fadeC, c24, c54, c140, c154]; done) | (simp [c24] at c154; simp [fadeC, c24, c54, c140, c154]), rfl⟩
        · refine aw_iconst (1) dX1_fadesAsItMay_157 (by decide) ?_
          refine aw_goto 162 dX1_fadesAsItMay_158 (by decide) ?_
          exact aw_zret rfl rfl dX1_fadesAsItMay_162 (by decide) (by decide) ⟨by subst_vars; first | (simp [fadeC, c24, c54, c140, c154]; done) | (simp [c24] at c154; simp [fadeC, c24, c54, c140, c154]), rfl⟩
    · refine aw_iconst (1) dX1_fadesAsItMay_57 (by decide) ?_
      refine aw_goto 62 dX1_fadesAsItMay_58 (by decide) ?_
      refine aw_istore [(5, .int 1), (4, .int (nI (f0 / 10))), (3, .int (nI (e0 / 10))), (0, .ref (G.1 + 1)), (1, .int e), (2, .int f)] dX1_fadesAsItMay_62 (by decide) rfl ?_
      refine aw_iload 0 dX1_fadesAsItMay_64 rfl ?_
      refine aw_if_eq 85 dX1_fadesAsItMay_66 (by decide) (fun c66 => absurd c66 (by decide)) (fun c66 => ?_)
      refine aw_aload_n 3 dX1_fadesAsItMay_69 rfl rfl ?_
      refine aw_get fX1_36 dX1_fadesAsItMay_70 hC.1 rfl ?_
      refine aw_iload_n 4 dX1_fadesAsItMay_73 rfl rfl ?_
      refine aw_iald e0 (ee) (by omega) (by decide) dX1_fadesAsItMay_74 hC.2.2.2.2.2.2.2.2.2.1 ?_
      refine aw_aload_n 3 dX1_fadesAsItMay_75 rfl rfl ?_
      refine aw_get fX1_36 dX1_fadesAsItMay_76 hC.1 rfl ?_
      refine aw_iload_n 5 dX1_fadesAsItMay_79 rfl rfl ?_
      refine aw_iald f0 (ef) (by omega) (by decide) dX1_fadesAsItMay_80 hC.2.2.2.2.2.2.2.2.2.1 ?_
      refine aw_isub dX1_fadesAsItMay_81 ?_
      refine aw_goto 98 dX1_fadesAsItMay_82 (by decide) ?_
      refine aw_top (fun v13 ev13 => ?_)
      refine aw_istore [(6, .int v13), (5, .int 1), (4, .int (nI (f0 / 10))), (3, .int (nI (e0 / 10))), (0, .ref (G.1 + 1)), (1, .int e), (2, .int f)] dX1_fadesAsItMay_98 (by decide) rfl ?_
      refine aw_iload 1 dX1_fadesAsItMay_100 rfl ?_
      refine aw_if_eq 122 dX1_fadesAsItMay_102 (by decide) (fun c102 => absurd c102 (by decide)) (fun c102 => ?_)
      refine aw_aload_n 4 dX1_fadesAsItMay_105 rfl rfl ?_
      refine aw_get fX1_18 dX1_fadesAsItMay_106 hC.1 rfl ?_
      refine aw_iload 2 dX1_fadesAsItMay_109 rfl ?_
      refine aw_iald (f0 / 10) (rfl) (by omega) (by decide) dX1_fadesAsItMay_111 hC.2.2.2.1 ?_
      refine aw_toe (nI (ye (f0 / 10))) (rfl) ?_
      have b14 := hye (f0 / 10) (by omega)
      refine aw_aload_n 4 dX1_fadesAsItMay_112 rfl rfl ?_
      refine aw_get fX1_18 dX1_fadesAsItMay_113 hC.1 rfl ?_
      refine aw_iload_n 3 dX1_fadesAsItMay_116 rfl rfl ?_
      refine aw_iald (e0 / 10) (rfl) (by omega) (by decide) dX1_fadesAsItMay_117 hC.2.2.2.1 ?_
      refine aw_toe (nI (ye (e0 / 10))) (rfl) ?_
      have b15 := hye (e0 / 10) (by omega)
      refine aw_isub dX1_fadesAsItMay_118 ?_
      refine aw_goto 136 dX1_fadesAsItMay_119 (by decide) ?_
      refine aw_istore [(7, .int ((nI (ye (f0 / 10))) - (nI (ye (e0 / 10))))), (6, .int v13), (5, .int 1), (4, .int (nI (f0 / 10))), (3, .int (nI (e0 / 10))), (0, .ref (G.1 + 1)), (1, .int e), (2, .int f)] dX1_fadesAsItMay_136 (by decide) rfl ?_
      refine aw_iload 1 dX1_fadesAsItMay_138 rfl ?_
      refine aw_if_lt 161 dX1_fadesAsItMay_140 (by decide) (fun c140 => ?_) (fun c140 => ?_)
      · refine aw_iconst (0) dX1_fadesAsItMay_161 (by decide) ?_
        exact aw_zret rfl rfl dX1_fadesAsItMay_162 (by decide) (by decide) ⟨by subst_vars; simp [fadeC, c24, c54, c140], rfl⟩
      · refine aw_iload 1 dX1_fadesAsItMay_143 rfl ?_
        refine aw_iload 0 dX1_fadesAsItMay_145 rfl ?_
        refine aw_aload_n 5 dX1_fadesAsItMay_147 rfl rfl ?_
        refine aw_get fX1_50 dX1_fadesAsItMay_148 hC.1 rfl ?_
        refine aw_imul dX1_fadesAsItMay_151 ?_
        refine aw_iconst (5) dX1_fadesAsItMay_152 (by decide) ?_
        refine aw_iadd dX1_fadesAsItMay_153 ?_
        refine aw_icmp_gt 161 dX1_fadesAsItMay_154 (by decide) (fun c154 => ?_) (fun c154 => ?_)
        · refine aw_iconst (0) dX1_fadesAsItMay_161 (by decide) ?_
          exact aw_zret rfl rfl dX1_fadesAsItMay_162 (by decide) (by decide) ⟨by subst_vars; first | (simp [fadeC, c24, c54, c140, c154]; done) | (simp [c24] at c154; simp [fadeC, c24, c54, c140, c154]), rfl⟩
        · refine aw_iconst (1) dX1_fadesAsItMay_157 (by decide) ?_
          refine aw_goto 162 dX1_fadesAsItMay_158 (by decide) ?_
          exact aw_zret rfl rfl dX1_fadesAsItMay_162 (by decide) (by decide) ⟨by subst_vars; first | (simp [fadeC, c24, c54, c140, c154]; done) | (simp [c24] at c154; simp [fadeC, c24, c54, c140, c154]), rfl⟩
  · refine aw_aload_n 2 dX1_fadesAsItMay_27 rfl rfl ?_
    refine aw_get fX1_18 dX1_fadesAsItMay_28 hC.1 rfl ?_
    refine aw_iload_n 1 dX1_fadesAsItMay_31 rfl rfl ?_
    refine aw_iald (e0 / 10) (rfl) (by omega) (by decide) dX1_fadesAsItMay_32 hC.2.2.2.1 ?_
    refine aw_toe (nI (ye (e0 / 10))) (rfl) ?_
    have b16 := hye (e0 / 10) (by omega)
    refine aw_aload_n 2 dX1_fadesAsItMay_33 rfl rfl ?_
    refine aw_get fX1_18 dX1_fadesAsItMay_34 hC.1 rfl ?_
    refine aw_iload 0 dX1_fadesAsItMay_37 rfl ?_
    refine aw_iald (f0 / 10) (rfl) (by omega) (by decide) dX1_fadesAsItMay_39 hC.2.2.2.1 ?_
    refine aw_toe (nI (ye (f0 / 10))) (rfl) ?_
    have b17 := hye (f0 / 10) (by omega)
    refine aw_icmp_ge 47 dX1_fadesAsItMay_40 (by decide) (fun c40 => ?_) (fun c40 => ?_)
    · refine aw_iconst (0) dX1_fadesAsItMay_47 (by decide) ?_
      refine aw_goto 62 dX1_fadesAsItMay_48 (by decide) ?_
      refine aw_istore [(5, .int 0), (4, .int (nI (f0 / 10))), (3, .int (nI (e0 / 10))), (0, .ref (G.1 + 1)), (1, .int e), (2, .int f)] dX1_fadesAsItMay_62 (by decide) rfl ?_
      refine aw_iload 0 dX1_fadesAsItMay_64 rfl ?_
      refine aw_if_eq 85 dX1_fadesAsItMay_66 (by decide) (fun c66 => ?_) (fun c66 => absurd (by decide) c66)
      refine aw_aload_n 3 dX1_fadesAsItMay_85 rfl rfl ?_
      refine aw_get fX1_36 dX1_fadesAsItMay_86 hC.1 rfl ?_
      refine aw_iload_n 5 dX1_fadesAsItMay_89 rfl rfl ?_
      refine aw_iald f0 (ef) (by omega) (by decide) dX1_fadesAsItMay_90 hC.2.2.2.2.2.2.2.2.2.1 ?_
      refine aw_aload_n 3 dX1_fadesAsItMay_91 rfl rfl ?_
      refine aw_get fX1_36 dX1_fadesAsItMay_92 hC.1 rfl ?_
      refine aw_iload_n 4 dX1_fadesAsItMay_95 rfl rfl ?_
      refine aw_iald e0 (ee) (by omega) (by decide) dX1_fadesAsItMay_96 hC.2.2.2.2.2.2.2.2.2.1 ?_
      refine aw_isub dX1_fadesAsItMay_97 ?_
      refine aw_top (fun v18 ev18 => ?_)
      refine aw_istore [(6, .int v18), (5, .int 0), (4, .int (nI (f0 / 10))), (3, .int (nI (e0 / 10))), (0, .ref (G.1 + 1)), (1, .int e), (2, .int f)] dX1_fadesAsItMay_98 (by decide) rfl ?_
      refine aw_iload 1 dX1_fadesAsItMay_100 rfl ?_
      refine aw_if_eq 122 dX1_fadesAsItMay_102 (by decide) (fun c102 => ?_) (fun c102 => absurd (by decide) c102)
      refine aw_aload_n 4 dX1_fadesAsItMay_122 rfl rfl ?_
      refine aw_get fX1_18 dX1_fadesAsItMay_123 hC.1 rfl ?_
      refine aw_iload_n 3 dX1_fadesAsItMay_126 rfl rfl ?_
      refine aw_iald (e0 / 10) (rfl) (by omega) (by decide) dX1_fadesAsItMay_127 hC.2.2.2.1 ?_
      refine aw_toe (nI (ye (e0 / 10))) (rfl) ?_
      have b19 := hye (e0 / 10) (by omega)
      refine aw_aload_n 4 dX1_fadesAsItMay_128 rfl rfl ?_
      refine aw_get fX1_18 dX1_fadesAsItMay_129 hC.1 rfl ?_
      refine aw_iload 2 dX1_fadesAsItMay_132 rfl ?_
      refine aw_iald (f0 / 10) (rfl) (by omega) (by decide) dX1_fadesAsItMay_134 hC.2.2.2.1 ?_
      refine aw_toe (nI (ye (f0 / 10))) (rfl) ?_
      have b20 := hye (f0 / 10) (by omega)
      refine aw_isub dX1_fadesAsItMay_135 ?_
      refine aw_istore [(7, .int ((nI (ye (e0 / 10))) - (nI (ye (f0 / 10))))), (6, .int v18), (5, .int 0), (4, .int (nI (f0 / 10))), (3, .int (nI (e0 / 10))), (0, .ref (G.1 + 1)), (1, .int e), (2, .int f)] dX1_fadesAsItMay_136 (by decide) rfl ?_
      refine aw_iload 1 dX1_fadesAsItMay_138 rfl ?_
      refine aw_if_lt 161 dX1_fadesAsItMay_140 (by decide) (fun c140 => ?_) (fun c140 => ?_)
      · refine aw_iconst (0) dX1_fadesAsItMay_161 (by decide) ?_
        exact aw_zret rfl rfl dX1_fadesAsItMay_162 (by decide) (by decide) ⟨by subst_vars; simp [fadeC, c24, c40, c140], rfl⟩
      · refine aw_iload 1 dX1_fadesAsItMay_143 rfl ?_
        refine aw_iload 0 dX1_fadesAsItMay_145 rfl ?_
        refine aw_aload_n 5 dX1_fadesAsItMay_147 rfl rfl ?_
        refine aw_get fX1_50 dX1_fadesAsItMay_148 hC.1 rfl ?_
        refine aw_imul dX1_fadesAsItMay_151 ?_
        refine aw_iconst (5) dX1_fadesAsItMay_152 (by decide) ?_
        refine aw_iadd dX1_fadesAsItMay_153 ?_
        refine aw_icmp_gt 161 dX1_fadesAsItMay_154 (by decide) (fun c154 => ?_) (fun c154 => ?_)
        · refine aw_iconst (0) dX1_fadesAsItMay_161 (by decide) ?_
          exact aw_zret rfl rfl dX1_fadesAsItMay_162 (by decide) (by decide) ⟨by subst_vars; first | (simp [fadeC, c24, c40, c140, c154]; done) | (simp [c24] at c154; simp [fadeC, c24, c40, c140, c154]), rfl⟩
        · refine aw_iconst (1) dX1_fadesAsItMay_157 (by decide) ?_
          refine aw_goto 162 dX1_fadesAsItMay_158 (by decide) ?_
          exact aw_zret rfl rfl dX1_fadesAsItMay_162 (by decide) (by decide) ⟨by subst_vars; first | (simp [fadeC, c24, c40, c140, c154]; done) | (simp [c24] at c154; simp [fadeC, c24, c40, c140, c154]), rfl⟩
    · refine aw_iconst (1) dX1_fadesAsItMay_43 (by decide) ?_
      refine aw_goto 62 dX1_fadesAsItMay_44 (by decide) ?_
      refine aw_istore [(5, .int 1), (4, .int (nI (f0 / 10))), (3, .int (nI (e0 / 10))), (0, .ref (G.1 + 1)), (1, .int e), (2, .int f)] dX1_fadesAsItMay_62 (by decide) rfl ?_
      refine aw_iload 0 dX1_fadesAsItMay_64 rfl ?_
      refine aw_if_eq 85 dX1_fadesAsItMay_66 (by decide) (fun c66 => absurd c66 (by decide)) (fun c66 => ?_)
      refine aw_aload_n 3 dX1_fadesAsItMay_69 rfl rfl ?_
      refine aw_get fX1_36 dX1_fadesAsItMay_70 hC.1 rfl ?_
      refine aw_iload_n 4 dX1_fadesAsItMay_73 rfl rfl ?_
      refine aw_iald e0 (ee) (by omega) (by decide) dX1_fadesAsItMay_74 hC.2.2.2.2.2.2.2.2.2.1 ?_
      refine aw_aload_n 3 dX1_fadesAsItMay_75 rfl rfl ?_
      refine aw_get fX1_36 dX1_fadesAsItMay_76 hC.1 rfl ?_
      refine aw_iload_n 5 dX1_fadesAsItMay_79 rfl rfl ?_
      refine aw_iald f0 (ef) (by omega) (by decide) dX1_fadesAsItMay_80 hC.2.2.2.2.2.2.2.2.2.1 ?_
      refine aw_isub dX1_fadesAsItMay_81 ?_
      refine aw_goto 98 dX1_fadesAsItMay_82 (by decide) ?_
      refine aw_top (fun v21 ev21 => ?_)
      refine aw_istore [(6, .int v21), (5, .int 1), (4, .int (nI (f0 / 10))), (3, .int (nI (e0 / 10))), (0, .ref (G.1 + 1)), (1, .int e), (2, .int f)] dX1_fadesAsItMay_98 (by decide) rfl ?_
      refine aw_iload 1 dX1_fadesAsItMay_100 rfl ?_
      refine aw_if_eq 122 dX1_fadesAsItMay_102 (by decide) (fun c102 => absurd c102 (by decide)) (fun c102 => ?_)
      refine aw_aload_n 4 dX1_fadesAsItMay_105 rfl rfl ?_
      refine aw_get fX1_18 dX1_fadesAsItMay_106 hC.1 rfl ?_
      refine aw_iload 2 dX1_fadesAsItMay_109 rfl ?_
      refine aw_iald (f0 / 10) (rfl) (by omega) (by decide) dX1_fadesAsItMay_111 hC.2.2.2.1 ?_
      refine aw_toe (nI (ye (f0 / 10))) (rfl) ?_
      have b22 := hye (f0 / 10) (by omega)
      refine aw_aload_n 4 dX1_fadesAsItMay_112 rfl rfl ?_
      refine aw_get fX1_18 dX1_fadesAsItMay_113 hC.1 rfl ?_
      refine aw_iload_n 3 dX1_fadesAsItMay_116 rfl rfl ?_
      refine aw_iald (e0 / 10) (rfl) (by omega) (by decide) dX1_fadesAsItMay_117 hC.2.2.2.1 ?_
      refine aw_toe (nI (ye (e0 / 10))) (rfl) ?_
      have b23 := hye (e0 / 10) (by omega)
      refine aw_isub dX1_fadesAsItMay_118 ?_
      refine aw_goto 136 dX1_fadesAsItMay_119 (by decide) ?_
      refine aw_istore [(7, .int ((nI (ye (f0 / 10))) - (nI (ye (e0 / 10))))), (6, .int v21), (5, .int 1), (4, .int (nI (f0 / 10))), (3, .int (nI (e0 / 10))), (0, .ref (G.1 + 1)), (1, .int e), (2, .int f)] dX1_fadesAsItMay_136 (by decide) rfl ?_
      refine aw_iload 1 dX1_fadesAsItMay_138 rfl ?_
      refine aw_if_lt 161 dX1_fadesAsItMay_140 (by decide) (fun c140 => ?_) (fun c140 => ?_)
      · refine aw_iconst (0) dX1_fadesAsItMay_161 (by decide) ?_
        exact aw_zret rfl rfl dX1_fadesAsItMay_162 (by decide) (by decide) ⟨by subst_vars; simp [fadeC, c24, c40, c140], rfl⟩
      · refine aw_iload 1 dX1_fadesAsItMay_143 rfl ?_
        refine aw_iload 0 dX1_fadesAsItMay_145 rfl ?_
        refine aw_aload_n 5 dX1_fadesAsItMay_147 rfl rfl ?_
        refine aw_get fX1_50 dX1_fadesAsItMay_148 hC.1 rfl ?_
        refine aw_imul dX1_fadesAsItMay_151 ?_
        refine aw_iconst (5) dX1_fadesAsItMay_152 (by decide) ?_
        refine aw_iadd dX1_fadesAsItMay_153 ?_
        refine aw_icmp_gt 161 dX1_fadesAsItMay_154 (by decide) (fun c154 => ?_) (fun c154 => ?_)
        · refine aw_iconst (0) dX1_fadesAsItMay_161 (by decide) ?_
          exact aw_zret rfl rfl dX1_fadesAsItMay_162 (by decide) (by decide) ⟨by subst_vars; first | (simp [fadeC, c24, c40, c140, c154]; done) | (simp [c24] at c154; simp [fadeC, c24, c40, c140, c154]), rfl⟩
        · refine aw_iconst (1) dX1_fadesAsItMay_157 (by decide) ?_
          refine aw_goto 162 dX1_fadesAsItMay_158 (by decide) ?_
          exact aw_zret rfl rfl dX1_fadesAsItMay_162 (by decide) (by decide) ⟨by subst_vars; first | (simp [fadeC, c24, c40, c140, c154]; done) | (simp [c24] at c154; simp [fadeC, c24, c40, c140, c154]), rfl⟩
set_option maxHeartbeats 4000000 in
theorem gX1_likeness {l : Launch} {G : xG} {h : List va_E} {e f : Int32} {e0 f0 : Nat} {m se ye fi : Nat → Nat} {W Sn Z Ro Co : Nat → Int32} {Ba : Nat → Int64} {nb sp fa : Nat} {ver : Int32} (hC : xCat G m se ye fi W Sn Z Ro Co Ba nb sp fa ver h) (hm : ∀ j, j < 20 → m j ≤ j) (hse : ∀ j, j < 20 → se j < 20) (hfi : ∀ j, j < 4 → fi j < 11) (hye : ∀ j, j < 4 → ye j < 1901) (ee : e = nI e0) (be : e0 < 40) (ef : f = nI f0) (bf : f0 < 40) : CD l G yX1_likeness cX1_likeness 6 (some .int) 1 0 0 [.ref (G.1 + 1), .int e, .int f] h (some (.int (likeC ye Sn Z Ro Co Ba sp fa e0 f0))) h := by
  refine cm_of rfl (Nat.le_of_ble_eq_true rfl) [(0, .ref (G.1 + 1)), (1, .int e), (2, .int f)] rfl ?_
  refine aw_aload_n 0 dX1_likeness_0 rfl rfl ?_
  refine aw_get fX1_30 dX1_likeness_1 hC.1 rfl ?_
  refine aw_iload_n 1 dX1_likeness_4 rfl rfl ?_
  refine aw_iald e0 (ee) (by omega) (by decide) dX1_likeness_5 hC.2.2.2.2.2.2.2.1 ?_
  refine aw_aload_n 0 dX1_likeness_6 rfl rfl ?_
  refine aw_get fX1_30 dX1_likeness_7 hC.1 rfl ?_
  refine aw_iload_n 2 dX1_likeness_10 rfl rfl ?_
  refine aw_iald f0 (ef) (by omega) (by decide) dX1_likeness_11 hC.2.2.2.2.2.2.2.1 ?_
  refine aw_isub dX1_likeness_12 ?_
  refine aw_mabs lX1_60 dX1_likeness_13 (Nat.le_of_ble_eq_true rfl) (by decide) (by decide) ?_
  refine aw_toe (apF Z e0 f0) (rfl) ?_
  refine aw_istore_n [(3, .int (apF Z e0 f0)), (0, .ref (G.1 + 1)), (1, .int e), (2, .int f)] dX1_likeness_16 rfl (by decide) rfl ?_
  refine aw_aload_n 1 dX1_likeness_17 rfl rfl ?_
  refine aw_get fX1_27 dX1_likeness_18 hC.1 rfl ?_
  refine aw_iload_n 2 dX1_likeness_21 rfl rfl ?_
  refine aw_iald e0 (ee) (by omega) (by decide) dX1_likeness_22 hC.2.2.2.2.2.2.1 ?_
  refine aw_aload_n 1 dX1_likeness_23 rfl rfl ?_
  refine aw_get fX1_27 dX1_likeness_24 hC.1 rfl ?_
  refine aw_iload_n 3 dX1_likeness_27 rfl rfl ?_
  refine aw_iald f0 (ef) (by omega) (by decide) dX1_likeness_28 hC.2.2.2.2.2.2.1 ?_
  refine aw_iand dX1_likeness_29 ?_
  refine aw_top (fun v24 ev24 => ?_)
  refine aw_istore [(4, .int v24), (3, .int (apF Z e0 f0)), (0, .ref (G.1 + 1)), (1, .int e), (2, .int f)] dX1_likeness_30 (by decide) rfl ?_
  refine aw_iload_n 1 dX1_likeness_32 rfl rfl ?_
  refine aw_aload_n 2 dX1_likeness_33 rfl rfl ?_
  refine aw_get fX1_47 dX1_likeness_34 hC.1 rfl ?_
  refine aw_icmp_gt 63 dX1_likeness_37 (by decide) (fun c37 => ?_) (fun c37 => ?_)
  · refine aw_iconst (0) dX1_likeness_63 (by decide) ?_
    exact aw_iret rfl dX1_likeness_64 (by decide) (by decide) ⟨by subst_vars; simp [likeC, c37], rfl⟩
  · refine aw_iload 0 dX1_likeness_40 rfl ?_
    refine aw_if_eq 63 dX1_likeness_42 (by decide) (fun c42 => ?_) (fun c42 => ?_)
    · refine aw_iconst (0) dX1_likeness_63 (by decide) ?_
      exact aw_iret rfl dX1_likeness_64 (by decide) (by decide) ⟨by subst_vars; simp [likeC, c37, c42], rfl⟩
    · refine aw_aload_n 2 dX1_likeness_45 rfl rfl ?_
      refine aw_iload_n 3 dX1_likeness_46 rfl rfl ?_
      refine aw_iload_n 4 dX1_likeness_47 rfl rfl ?_
      refine aw_dV [.int e, .int f] [] lX1_65 vX1_isBarTold mX1_isBarTold dX1_likeness_48 (gX1_isBarTold hC hm hse hfi hye ee be ef bf) hC.1 rfl rfl rfl (Nat.le_of_ble_eq_true rfl) (by decide) (by decide) rfl ?_
      refine aw_if_ne 63 dX1_likeness_51 (by decide) (fun c51 => ?_) (fun c51 => ?_)
      · refine aw_iconst (0) dX1_likeness_63 (by decide) ?_
        exact aw_iret rfl dX1_likeness_64 (by decide) (by decide) ⟨by subst_vars; simp [likeC, c37, c42, c51], rfl⟩
      · refine aw_aload_n 2 dX1_likeness_54 rfl rfl ?_
        refine aw_iload_n 3 dX1_likeness_55 rfl rfl ?_
        refine aw_iload_n 4 dX1_likeness_56 rfl rfl ?_
        refine aw_dV [.int e, .int f] [] lX1_69 vX1_fadesAsItMay mX1_fadesAsItMay dX1_likeness_57 (gX1_fades hC hm hse hfi hye ee be ef bf) hC.1 rfl rfl rfl (Nat.le_of_ble_eq_true rfl) (by decide) (by decide) rfl ?_
        refine aw_if_ne 65 dX1_likeness_60 (by decide) (fun c60 => ?_) (fun c60 => ?_)
        · refine aw_bipush (10) dX1_likeness_65 (by decide) ?_
          refine aw_iload 0 dX1_likeness_67 rfl ?_
          refine aw_dS [.int v24] [.int 10] lX1_72 sJ6_bitCount_0f7a4 mJ6_bitCount_0f7a4 dX1_likeness_69 (J6_bitCount_g) rfl (Nat.le_of_ble_eq_true rfl) (by decide) (by decide) rfl ?_
          refine aw_imul dX1_likeness_72 ?_
          refine aw_iconst (2) dX1_likeness_73 (by decide) ?_
          refine aw_aload_n 2 dX1_likeness_74 rfl rfl ?_
          refine aw_get fX1_27 dX1_likeness_75 hC.1 rfl ?_
          refine aw_iload_n 3 dX1_likeness_78 rfl rfl ?_
          refine aw_iald e0 (ee) (by omega) (by decide) dX1_likeness_79 hC.2.2.2.2.2.2.1 ?_
          refine aw_aload_n 2 dX1_likeness_80 rfl rfl ?_
          refine aw_get fX1_27 dX1_likeness_81 hC.1 rfl ?_
          refine aw_iload_n 4 dX1_likeness_84 rfl rfl ?_
          refine aw_iald f0 (ef) (by omega) (by decide) dX1_likeness_85 hC.2.2.2.2.2.2.1 ?_
          refine aw_ixor dX1_likeness_86 ?_
          refine aw_dS [.int ((Sn e0) ^^^ (Sn f0))] [.int 2, .int (10 * (bcF v24))] lX1_72 sJ6_bitCount_0f7a4 mJ6_bitCount_0f7a4 dX1_likeness_87 (J6_bitCount_g) rfl (Nat.le_of_ble_eq_true rfl) (by decide) (by decide) rfl ?_
          refine aw_imul dX1_likeness_90 ?_
          refine aw_isub dX1_likeness_91 ?_
          refine aw_iload_n 1 dX1_likeness_92 rfl rfl ?_
          refine aw_isub dX1_likeness_93 ?_
          refine aw_top (fun v25 ev25 => ?_)
          refine aw_istore [(5, .int v25), (4, .int v24), (3, .int (apF Z e0 f0)), (0, .ref (G.1 + 1)), (1, .int e), (2, .int f)] dX1_likeness_94 (by decide) rfl ?_
          refine aw_aload_n 3 dX1_likeness_96 rfl rfl ?_
          refine aw_get fX1_33 dX1_likeness_97 hC.1 rfl ?_
          refine aw_iload_n 4 dX1_likeness_100 rfl rfl ?_
          refine aw_iald e0 (ee) (by omega) (by decide) dX1_likeness_101 hC.2.2.2.2.2.2.2.2.1 ?_
          refine aw_aload_n 3 dX1_likeness_102 rfl rfl ?_
          refine aw_get fX1_33 dX1_likeness_103 hC.1 rfl ?_
          refine aw_iload_n 5 dX1_likeness_106 rfl rfl ?_
          refine aw_iald f0 (ef) (by omega) (by decide) dX1_likeness_107 hC.2.2.2.2.2.2.2.2.1 ?_
          refine aw_icmp_ne 114 dX1_likeness_108 (by decide) (fun c108 => ?_) (fun c108 => ?_)
          · refine aw_iconst (1) dX1_likeness_114 (by decide) ?_
            refine aw_iload 0 dX1_likeness_115 rfl ?_
            refine aw_mmax lX1_77 dX1_likeness_117 (Nat.le_of_ble_eq_true rfl) (by decide) (by decide) ?_
            exact aw_iret rfl dX1_likeness_120 (by decide) (by decide) ⟨by subst_vars; simp [likeC, c37, c42, c51, c60, c108], rfl⟩
          · obtain ⟨v26, ev26⟩ : ∃ q : Int32, q = v25 + Int32.ofInt (7) := ⟨_, rfl⟩
            refine aw_iinc (j := 0) v26 [(5, .int v26), (4, .int v24), (3, .int (apF Z e0 f0)), (0, .ref (G.1 + 1)), (1, .int e), (2, .int f)] dX1_likeness_111 rfl ev26.symm (by decide) rfl ?_
            refine aw_iconst (1) dX1_likeness_114 (by decide) ?_
            refine aw_iload 0 dX1_likeness_115 rfl ?_
            refine aw_mmax lX1_77 dX1_likeness_117 (Nat.le_of_ble_eq_true rfl) (by decide) (by decide) ?_
            exact aw_iret rfl dX1_likeness_120 (by decide) (by decide) ⟨by subst_vars; simp [likeC, c37, c42, c51, c60, c108], rfl⟩
        · refine aw_iconst (0) dX1_likeness_63 (by decide) ?_
          exact aw_iret rfl dX1_likeness_64 (by decide) (by decide) ⟨by subst_vars; simp [likeC, c37, c42, c51, c60], rfl⟩
set_option maxHeartbeats 4000000 in
theorem gX1_tellBar {l : Launch} {G : xG} {h : List va_E} {e f : Int32} {e0 f0 : Nat} {m se ye fi : Nat → Nat} {W Sn Z Ro Co : Nat → Int32} {Ba : Nat → Int64} {nb sp fa : Nat} {ver : Int32} (hC : xCat G m se ye fi W Sn Z Ro Co Ba nb sp fa ver h) (hm : ∀ j, j < 20 → m j ≤ j) (hse : ∀ j, j < 20 → se j < 20) (hfi : ∀ j, j < 4 → fi j < 11) (hye : ∀ j, j < 4 → ye j < 1901) (ee : e = nI e0) (be : e0 < 40) (ef : f = nI f0) (bf : f0 < 40) : CE l G yX1_tellBar cX1_tellBar 3 none 0 0 0 [.ref (G.1 + 1), .int e, .int f] h none (fun h1 => ∃ ver1, xCat G m se ye fi W Sn Z Ro Co (vp_updL (vp_updL Ba e0 (Ba e0 ||| 1 <<< (f.toInt64 &&& 63))) f0 (vp_updL Ba e0 (Ba e0 ||| 1 <<< (f.toInt64 &&& 63)) f0 ||| 1 <<< (e.toInt64 &&& 63))) (nb + 1) sp fa ver1 h1 ∧ rng 1 11 h h1) := by
  refine cm_of rfl (Nat.le_of_ble_eq_true rfl) [(0, .ref (G.1 + 1)), (1, .int e), (2, .int f)] rfl ?_
  refine aw_aload_n 0 dX1_tellBar_0 rfl rfl ?_
  refine aw_get fX1_39 dX1_tellBar_1 hC.1 rfl ?_
  refine aw_iload_n 1 dX1_tellBar_4 rfl rfl ?_
  refine aw_dup2 dX1_tellBar_5 rfl rfl ?_
  refine aw_lald e0 (ee) (by omega) (by decide) dX1_tellBar_6 hC.2.2.2.2.2.2.2.2.2.2 ?_
  refine aw_lconst 1 dX1_tellBar_7 (by decide) ?_
  refine aw_iload_n 2 dX1_tellBar_8 rfl rfl ?_
  refine aw_lshl _ dX1_tellBar_9 rfl ?_
  refine aw_lor dX1_tellBar_10 ?_
  refine aw_last e0 (ee) (by omega) (by decide) dX1_tellBar_11 hC.2.2.2.2.2.2.2.2.2.2 ?_
  refine aw_aload_n 0 dX1_tellBar_12 rfl rfl ?_
  refine aw_get fX1_39 dX1_tellBar_13 (gn (by decide) (hC.1)) rfl ?_
  refine aw_iload_n 2 dX1_tellBar_16 rfl rfl ?_
  refine aw_dup2 dX1_tellBar_17 rfl rfl ?_
  refine aw_lald f0 (ef) (by omega) (by decide) dX1_tellBar_18 (gs hC.2.2.2.2.2.2.2.2.2.2) ?_
  refine aw_lconst 1 dX1_tellBar_19 (by decide) ?_
  refine aw_iload_n 1 dX1_tellBar_20 rfl rfl ?_
  refine aw_lshl _ dX1_tellBar_21 rfl ?_
  refine aw_lor dX1_tellBar_22 ?_
  refine aw_last f0 (ef) (by omega) (by decide) dX1_tellBar_23 (gs hC.2.2.2.2.2.2.2.2.2.2) ?_
  refine aw_aload_n 0 dX1_tellBar_24 rfl rfl ?_
  refine aw_dup dX1_tellBar_25 rfl ?_
  refine aw_get fX1_43 dX1_tellBar_26 (gn (by decide) (gn (by decide) (hC.1))) rfl ?_
  refine aw_iconst (1) dX1_tellBar_29 (by decide) ?_
  refine aw_iadd dX1_tellBar_30 ?_
  refine aw_toe (nI (nb + 1)) (nv_add (rfl) (rfl)) ?_
  refine aw_putQ fX1_43 dX1_tellBar_31 [.ref (G.1 + 2), .ref (G.1 + 3), .ref (G.1 + 4), .ref (G.1 + 5), .ref (G.1 + 6), .ref (G.1 + 7), .ref (G.1 + 8), .ref (G.1 + 9), .ref (G.1 + 10), .ref (G.1 + 11), .int (nI (nb + 1)), .int (nI sp), .int (nI fa), .int ver] (gn (by decide) (gn (by decide) (hC.1))) rfl rfl rfl (Nat.le_of_ble_eq_true rfl) rfl ?_
  refine aw_aload_n 0 dX1_tellBar_34 rfl rfl ?_
  refine aw_dup dX1_tellBar_35 rfl ?_
  refine aw_get fX1_53 dX1_tellBar_36 (gs (gn (by decide) (gn (by decide) (hC.1)))) rfl ?_
  refine aw_iconst (1) dX1_tellBar_39 (by decide) ?_
  refine aw_iadd dX1_tellBar_40 ?_
  refine aw_top (fun v27 ev27 => ?_)
  refine aw_putQ fX1_53 dX1_tellBar_41 [.ref (G.1 + 2), .ref (G.1 + 3), .ref (G.1 + 4), .ref (G.1 + 5), .ref (G.1 + 6), .ref (G.1 + 7), .ref (G.1 + 8), .ref (G.1 + 9), .ref (G.1 + 10), .ref (G.1 + 11), .int (nI (nb + 1)), .int (nI sp), .int (nI fa), .int v27] (gs (gn (by decide) (gn (by decide) (hC.1)))) rfl rfl rfl (Nat.le_of_ble_eq_true rfl) rfl ?_
  exact aw_vret rfl dX1_tellBar_44 (by decide) (by decide) ⟨rfl, v27, ⟨(gs (gs (gn (by decide) (gn (by decide) (hC.1))))), (gn (by decide) (gn (by decide) (gn (by decide) (gn (by decide) (hC.2.1))))), (gn (by decide) (gn (by decide) (gn (by decide) (gn (by decide) (hC.2.2.1))))), (gn (by decide) (gn (by decide) (gn (by decide) (gn (by decide) (hC.2.2.2.1))))), (gn (by decide) (gn (by decide) (gn (by decide) (gn (by decide) (hC.2.2.2.2.1))))), (gn (by decide) (gn (by decide) (gn (by decide) (gn (by decide) (hC.2.2.2.2.2.1))))), (gn (by decide) (gn (by decide) (gn (by decide) (gn (by decide) (hC.2.2.2.2.2.2.1))))), (gn (by decide) (gn (by decide) (gn (by decide) (gn (by decide) (hC.2.2.2.2.2.2.2.1))))), (gn (by decide) (gn (by decide) (gn (by decide) (gn (by decide) (hC.2.2.2.2.2.2.2.2.1))))), (gn (by decide) (gn (by decide) (gn (by decide) (gn (by decide) (hC.2.2.2.2.2.2.2.2.2.1))))), (gn (by decide) (gn (by decide) (gs (gs hC.2.2.2.2.2.2.2.2.2.2))))⟩, rng_set (rng_set (rng_set (rng_set (rng_rf 1 11 h) (by decide) (by decide)) (by decide) (by decide)) (by decide) (by decide)) (by decide) (by decide)⟩
/-- order with the places behind a moved up by one, up to n -/
def shF (od : Nat → Nat) (a n : Nat) : Nat → Nat := fun j => if a < j ∧ j ≤ n then od (j - 1) else od j
theorem shF_n (od : Nat → Nat) (n : Nat) : shF od n n = od := by funext j; simp [shF]; omega
theorem shF_s {od : Nat → Nat} {a n : Nat} (h : a < n) : un (shF od (a + 1) n) (a + 1) (od a) = shF od a n := by
  funext j
  by_cases h1 : j = a + 1
  · subst h1; rw [un_s]; simp [shF, show a + 1 ≤ n by omega]
  · rw [un_n h1]
    by_cases h2 : a + 1 < j ∧ j ≤ n
    · simp only [shF, if_pos h2, if_pos (show a < j ∧ j ≤ n by omega)]
    · simp only [shF, if_neg h2, if_neg (show ¬ (a < j ∧ j ≤ n) by omega)]
theorem shF_at {od : Nat → Nat} {a n j : Nat} (h : j ≤ a) : shF od a n j = od j := by simp [shF]; omega
/-- the numbers of the first n records by days, then by numbers -/
def srt (dy od : Nat → Nat) (n : Nat) : Prop := (∀ i, i < n → od i < n) ∧ (∀ i j, i < j → j < n → dy (od i) < dy (od j) ∨ (dy (od i) = dy (od j) ∧ od i < od j)) ∧ ∀ q, q < n → ∃ i, i < n ∧ od i = q
theorem srt_0 (dy od : Nat → Nat) : srt dy od 0 := ⟨fun i h => absurd h (by omega), fun i j _ h => absurd h (by omega), fun q h => absurd h (by omega)⟩
/-- a new record goes behind all that aren't later -/
theorem srt_add {dy od : Nat → Nat} {n a v : Nat} (h : srt dy od n) (ha : a ≤ n) (h1 : 0 < a → dy (od (a - 1)) ≤ v) (h2 : ∀ j, a ≤ j → j < n → v < dy (od j)) : srt (un dy n v) (un (shF od a n) a n) (n + 1) := by
  have hA : ∀ j, j < a → un (shF od a n) a n j = od j := fun j hj => by rw [un_n (by omega), shF_at (by omega)]
  have hB : ∀ j, a < j → j ≤ n → un (shF od a n) a n j = od (j - 1) := fun j hj hn => by rw [un_n (by omega)]; simp [shF, hj, hn]
  have hC : un (shF od a n) a n a = n := un_s
  have hle : ∀ j, j < a → dy (od j) ≤ v := by
    intro j hj
    rcases Nat.lt_or_ge j (a - 1) with q | q
    · have := h.2.1 j (a - 1) q (by omega)
      have := h1 (by omega)
      omega
    · have e : j = a - 1 := by omega
      rw [e]; exact h1 (by omega)
  have hd : ∀ q, q < n → un dy n v q = dy q := fun q hq => un_n (by omega)
  refine ⟨?_, ?_, ?_⟩
  · intro i hi
    rcases Nat.lt_trichotomy i a with q | q | q
    · rw [hA i q]; have := h.1 i (by omega); omega
    · rw [q, hC]; omega
    · rw [hB i q (by omega)]; have := h.1 (i - 1) (by omega); omega
  · intro i j hij hj
    rcases Nat.lt_trichotomy j a with q | q | q
    · rw [hA i (by omega), hA j q, hd _ (h.1 i (by omega)), hd _ (h.1 j (by omega))]
      exact h.2.1 i j hij (by omega)
    · rw [hA i (by omega), q, hC, hd _ (h.1 i (by omega)), un_s]
      have b1 := hle i (by omega)
      have b2 := h.1 i (by omega)
      omega
    · rw [hB j q (by omega), hd _ (h.1 (j - 1) (by omega))]
      rcases Nat.lt_trichotomy i a with p | p | p
      · rw [hA i p, hd _ (h.1 i (by omega))]
        have b1 := hle i p
        have b2 := h2 (j - 1) (by omega) (by omega)
        omega
      · rw [p, hC, un_s]
        have b2 := h2 (j - 1) (by omega) (by omega)
        omega
      · rw [hB i p (by omega), hd _ (h.1 (i - 1) (by omega))]
        exact h.2.1 (i - 1) (j - 1) (by omega) (by omega)
  · intro q hq
    by_cases e : q = n
    · exact ⟨a, by omega, by rw [hC, e]⟩
    · obtain ⟨i, hi, ei⟩ := h.2.2 q (by omega)
      by_cases p : i < a
      · exact ⟨i, by omega, by rw [hA i p]; exact ei⟩
      · exact ⟨i + 1, by omega, by rw [hB (i + 1) (by omega) (by omega)]; simpa using ei⟩
def xRec (G : xG) (r : Nat) (th ot dy so kn go od : Nat → Nat) (n : Nat) (wd : Int32) (h : List va_E) : Prop := h[r]? = some (.inr (5, [.ref (G.1 + (r + 1)), .ref (G.1 + (r + 2)), .ref (G.1 + (r + 3)), .ref (G.1 + (r + 4)), .ref (G.1 + (r + 5)), .ref (G.1 + (r + 6)), .ref (G.1 + (r + 7)), .int (nI n), .int wd])) ∧ h[r + 1]? = some (.inl (0, 60, .inl (nA th))) ∧ h[r + 2]? = some (.inl (0, 60, .inl (nA ot))) ∧ h[r + 3]? = some (.inl (0, 60, .inl (nA dy))) ∧ h[r + 4]? = some (.inl (0, 60, .inl (nA so))) ∧ h[r + 5]? = some (.inl (0, 60, .inl (nA kn))) ∧ h[r + 6]? = some (.inl (0, 60, .inl (nA go))) ∧ h[r + 7]? = some (.inl (0, 60, .inl (nA od)))
set_option maxHeartbeats 4000000 in
theorem gX5_counts {l : Launch} {G : xG} {h : List va_E} {th ot dy so kn go od : Nat → Nat} {n : Nat} {wd : Int32} {r : Nat} {qv tv kv : Int32} {q t k : Nat} (hR : xRec G r th ot dy so kn go od n wd h) (hn : n ≤ 60) (hod : srt dy od n) (bth : ∀ j, j < 60 → th j < 12) (bkn : ∀ j, j < 60 → kn j ≤ 80000) (bgo : ∀ j, j < 60 → go j ≤ 80001) (eq : qv = nI q) (bq : q < 60) (et : tv = nI t) (bt : t < 12) (ek : kv = nI k) (bk : k ≤ 80000) : CD l G yX5_counts cX5_counts 4 (some .boolean) 0 0 0 [.ref (G.1 + r), .int qv, .int tv, .int kv] h (some (.int (if th q = t ∧ kn q ≤ k ∧ k < go q then 1 else 0))) h := by
  refine cm_of rfl (Nat.le_of_ble_eq_true rfl) [(0, .ref (G.1 + r)), (1, .int qv), (2, .int tv), (3, .int kv)] rfl ?_
  refine aw_aload_n 0 dX5_counts_0 rfl rfl ?_
  refine aw_get fX5_9 dX5_counts_1 hR.1 rfl ?_
  refine aw_iload_n 1 dX5_counts_4 rfl rfl ?_
  refine aw_iald q (eq) (by omega) (by decide) dX5_counts_5 hR.2.1 ?_
  refine aw_toe (nI (th q)) (rfl) ?_
  refine aw_iload_n 2 dX5_counts_6 rfl rfl ?_
  refine aw_icmp_ne 34 dX5_counts_7 (by decide) (fun c7 => ?_) (fun c7 => ?_)
  · refine aw_iconst (0) dX5_counts_34 (by decide) ?_
    refine aw_zret rfl rfl dX5_counts_35 (by decide) (by decide) ⟨?_, rfl⟩
    rw [if_neg]
    have b1 := bth q (by omega)
    have b2 := bkn q (by omega)
    have b3 := bgo q (by omega)
    simp only [nI_eq (show th q < 2 ^ 31 by omega) (show t < 2 ^ 31 by omega), nI_leI (show kn q < 2 ^ 31 by omega) (show k < 2 ^ 31 by omega), nI_ltI (show k < 2 ^ 31 by omega) (show kn q < 2 ^ 31 by omega), nI_ltI (show k < 2 ^ 31 by omega) (show go q < 2 ^ 31 by omega), nI_leI (show go q < 2 ^ 31 by omega) (show k < 2 ^ 31 by omega), et, ek] at c7
    omega
  · refine aw_aload_n 0 dX5_counts_10 rfl rfl ?_
    refine aw_get fX5_24 dX5_counts_11 hR.1 rfl ?_
    refine aw_iload_n 1 dX5_counts_14 rfl rfl ?_
    refine aw_iald q (eq) (by omega) (by decide) dX5_counts_15 hR.2.2.2.2.2.1 ?_
    refine aw_toe (nI (kn q)) (rfl) ?_
    refine aw_iload_n 3 dX5_counts_16 rfl rfl ?_
    refine aw_icmp_gt 34 dX5_counts_17 (by decide) (fun c17 => ?_) (fun c17 => ?_)
    · refine aw_iconst (0) dX5_counts_34 (by decide) ?_
      refine aw_zret rfl rfl dX5_counts_35 (by decide) (by decide) ⟨?_, rfl⟩
      rw [if_neg]
      have b1 := bth q (by omega)
      have b2 := bkn q (by omega)
      have b3 := bgo q (by omega)
      simp only [nI_eq (show th q < 2 ^ 31 by omega) (show t < 2 ^ 31 by omega), nI_leI (show kn q < 2 ^ 31 by omega) (show k < 2 ^ 31 by omega), nI_ltI (show k < 2 ^ 31 by omega) (show kn q < 2 ^ 31 by omega), nI_ltI (show k < 2 ^ 31 by omega) (show go q < 2 ^ 31 by omega), nI_leI (show go q < 2 ^ 31 by omega) (show k < 2 ^ 31 by omega), et, ek] at c7 c17
      omega
    · refine aw_iload_n 3 dX5_counts_20 rfl rfl ?_
      refine aw_aload_n 0 dX5_counts_21 rfl rfl ?_
      refine aw_get fX5_27 dX5_counts_22 hR.1 rfl ?_
      refine aw_iload_n 1 dX5_counts_25 rfl rfl ?_
      refine aw_iald q (eq) (by omega) (by decide) dX5_counts_26 hR.2.2.2.2.2.2.1 ?_
      refine aw_toe (nI (go q)) (rfl) ?_
      refine aw_icmp_ge 34 dX5_counts_27 (by decide) (fun c27 => ?_) (fun c27 => ?_)
      · refine aw_iconst (0) dX5_counts_34 (by decide) ?_
        refine aw_zret rfl rfl dX5_counts_35 (by decide) (by decide) ⟨?_, rfl⟩
        rw [if_neg]
        have b1 := bth q (by omega)
        have b2 := bkn q (by omega)
        have b3 := bgo q (by omega)
        simp only [nI_eq (show th q < 2 ^ 31 by omega) (show t < 2 ^ 31 by omega), nI_leI (show kn q < 2 ^ 31 by omega) (show k < 2 ^ 31 by omega), nI_ltI (show k < 2 ^ 31 by omega) (show kn q < 2 ^ 31 by omega), nI_ltI (show k < 2 ^ 31 by omega) (show go q < 2 ^ 31 by omega), nI_leI (show go q < 2 ^ 31 by omega) (show k < 2 ^ 31 by omega), et, ek] at c7 c17 c27
        omega
      · refine aw_iconst (1) dX5_counts_30 (by decide) ?_
        refine aw_goto 35 dX5_counts_31 (by decide) ?_
        refine aw_zret rfl rfl dX5_counts_35 (by decide) (by decide) ⟨?_, rfl⟩
        rw [if_pos]
        have b1 := bth q (by omega)
        have b2 := bkn q (by omega)
        have b3 := bgo q (by omega)
        simp only [nI_eq (show th q < 2 ^ 31 by omega) (show t < 2 ^ 31 by omega), nI_leI (show kn q < 2 ^ 31 by omega) (show k < 2 ^ 31 by omega), nI_ltI (show k < 2 ^ 31 by omega) (show kn q < 2 ^ 31 by omega), nI_ltI (show k < 2 ^ 31 by omega) (show go q < 2 ^ 31 by omega), nI_leI (show go q < 2 ^ 31 by omega) (show k < 2 ^ 31 by omega), et, ek] at c7 c17 c27
        omega
set_option maxHeartbeats 4000000 in
theorem gX5_add_l {l : Launch} {G : xG} {R : Room} {E : Array Value → State → Prop} {QF : List Frame → Array Value → State → State → Prop} {kc ns : Nat} {od dy : Nat → Nat} {n d0 r : Nat} {wd kv sv dv pv tv : Int32} {hX : List va_E} (c0 : hX[r]? = some (.inr (5, [.ref (G.1 + (r + 1)), .ref (G.1 + (r + 2)), .ref (G.1 + (r + 3)), .ref (G.1 + (r + 4)), .ref (G.1 + (r + 5)), .ref (G.1 + (r + 6)), .ref (G.1 + (r + 7)), .int (nI n), .int wd]))) (c3 : hX[r + 3]? = some (.inl (0, 60, .inl (nA (un dy n d0))))) (hn : n < 60) (hod : srt dy od n) (ed : dv = nI d0) (bd : d0 ≤ 80000) (hdy : ∀ j, j < 60 → dy j ≤ 80000)
    (K : ∀ (a : Nat) (h' : List va_E) (av : Int32), av = nI a → a ≤ n → (0 < a → dy (od (a - 1)) ≤ d0) → (∀ j, a ≤ j → j < n → d0 < dy (od j)) → ex1 (r + 7) hX h' → h'[r + 7]? = some (.inl (0, 60, .inl (nA (shF od a n)))) → AW l G yX5_addRecord cX5_addRecord 8 (some .int) R E QF kc ns 106 [(7, .int av), (6, .int (nI n)), (0, .ref (G.1 + r))] [] h') :
    ∀ (a : Nat) (h : List va_E) (av : Int32), a ≤ n → av = nI a → (∀ j, a ≤ j → j < n → d0 < dy (od j)) → ex1 (r + 7) hX h → h[r + 7]? = some (.inl (0, 60, .inl (nA (shF od a n)))) → AW l G yX5_addRecord cX5_addRecord 8 (some .int) R E QF kc ns 61 [(7, .int av), (6, .int (nI n)), (5, .int kv), (4, .int sv), (3, .int dv), (2, .int pv), (1, .int tv), (0, .ref (G.1 + r))] [] h := by
  intro a
  induction a with
  | zero =>
    intro h av han ea hj hk h7
    have g0 := ex1_at hk (by omega) c0
    have g3 := ex1_at hk (by omega) c3
    refine aw_iload 0 dX5_addRecord_61 rfl ?_
    refine aw_if_le 106 dX5_addRecord_63 (by decide) (fun c63 => ?_) (fun c63 => absurd (by simp only [i_le, (i_toNat (ea) (by omega)), (show (0 : Int32).toInt = 0 from rfl)] <;> omega) c63)
    refine aw_lv [(7, .int av), (6, .int (nI n)), (0, .ref (G.1 + r))] [0, 1, 7] rfl ?_
    exact K 0 h _ ea han (fun q => absurd q (by omega)) hj hk h7
  | succ a ih =>
    intro h av han ea hj hk h7
    have g0 := ex1_at hk (by omega) c0
    have g3 := ex1_at hk (by omega) c3
    have e1 : shF od (a + 1) n a = od a := shF_at (by omega)
    have b1 := hod.1 a (by omega)
    have e2 : un dy n d0 (od a) = dy (od a) := un_n (by omega)
    have b2 := hdy (od a) (by omega)
    refine aw_iload 0 dX5_addRecord_61 rfl ?_
    refine aw_if_le 106 dX5_addRecord_63 (by decide) (fun c63 => absurd c63 (by simp only [i_le, (i_toNat (ea) (by omega)), (show (0 : Int32).toInt = 0 from rfl)] <;> omega)) (fun c63 => ?_)
    refine aw_aload_n 7 dX5_addRecord_66 rfl rfl ?_
    refine aw_get fX5_18 dX5_addRecord_67 g0 rfl ?_
    refine aw_aload_n 7 dX5_addRecord_70 rfl rfl ?_
    refine aw_get fX5_30 dX5_addRecord_71 g0 rfl ?_
    refine aw_iload 0 dX5_addRecord_74 rfl ?_
    refine aw_iconst (1) dX5_addRecord_76 (by decide) ?_
    refine aw_isub dX5_addRecord_77 ?_
    refine aw_iald a (nv_p1 (ea)) (by omega) (by decide) dX5_addRecord_78 h7 ?_
    refine aw_toe (nI (od a)) (by show nI _ = _; rw [e1]) ?_
    refine aw_iald (od a) (rfl) (by omega) (by decide) dX5_addRecord_79 g3 ?_
    refine aw_toe (nI (dy (od a))) (by show nI _ = _; rw [e2]) ?_
    refine aw_iload_n 4 dX5_addRecord_80 rfl rfl ?_
    refine aw_icmp_le 106 dX5_addRecord_81 (by decide) (fun c81 => ?_) (fun c81 => ?_)
    · refine aw_lv [(7, .int av), (6, .int (nI n)), (0, .ref (G.1 + r))] [0, 1, 7] rfl ?_
      exact K (a + 1) h _ ea han (fun _ => by have c9 := c81; rw [ed, nI_leI (by omega) (by omega)] at c9; simpa using c9) hj hk h7
    · refine aw_aload_n 7 dX5_addRecord_84 rfl rfl ?_
      refine aw_get fX5_30 dX5_addRecord_85 g0 rfl ?_
      refine aw_iload 0 dX5_addRecord_88 rfl ?_
      refine aw_aload_n 7 dX5_addRecord_90 rfl rfl ?_
      refine aw_get fX5_30 dX5_addRecord_91 g0 rfl ?_
      refine aw_iload 0 dX5_addRecord_94 rfl ?_
      refine aw_iconst (1) dX5_addRecord_96 (by decide) ?_
      refine aw_isub dX5_addRecord_97 ?_
      refine aw_iald a (nv_p1 (ea)) (by omega) (by decide) dX5_addRecord_98 h7 ?_
      refine aw_toe (nI (od a)) (by show nI _ = _; rw [e1]) ?_
      refine aw_iast (a + 1) (ea) (by omega) (by decide) dX5_addRecord_99 h7 ?_
      rw [nA_u (f := (shF od (a + 1) n)) (i := (a + 1)) (x := (nI (od a))) (v := od a) (rfl)]
      obtain ⟨v1, ev1⟩ : ∃ q : Int32, q = av + Int32.ofInt (-1) := ⟨_, rfl⟩
      refine aw_iinc (j := 0) v1 [(7, .int v1), (6, .int (nI n)), (5, .int kv), (4, .int sv), (3, .int dv), (2, .int pv), (1, .int tv), (0, .ref (G.1 + r))] dX5_addRecord_100 rfl ev1.symm (by decide) rfl ?_
      refine aw_goto 61 dX5_addRecord_103 (by decide) ?_
      refine aw_lv [(7, .int v1), (6, .int (nI n)), (5, .int kv), (4, .int sv), (3, .int dv), (2, .int pv), (1, .int tv), (0, .ref (G.1 + r))] [0, 1, 2, 3, 4, 5, 6, 7] rfl ?_
      refine ih _ _ (by omega) (ev1.trans (nv_d1 ea)) (fun j j1 j2 => ?_) (ex1_set hk) (by rw [← shF_s (od := od) (a := a) (n := n) (by omega)]; exact (gs h7))
      by_cases e : j = a
      · rw [e]; have c9 := c81; rw [ed, nI_leI (by omega) (by omega)] at c9; omega
      · exact hj j (by omega) j2
set_option maxHeartbeats 4000000 in
theorem gX5_addRecord {l : Launch} {G : xG} {h : List va_E} {th ot dy so kn go od : Nat → Nat} {n : Nat} {wd : Int32} {r : Nat} {tv pv dv sv kv : Int32} {t0 p0 d0 s0 k0 : Nat} (hR : xRec G r th ot dy so kn go od n wd h) (hn : n < 60) (hod : srt dy od n) (hdy : ∀ j, j < 60 → dy j ≤ 80000) (et : tv = nI t0) (ep : pv = nI p0) (ed : dv = nI d0) (bd : d0 ≤ 80000) (es : sv = nI s0) (ek : kv = nI k0) : CE l G yX5_addRecord cX5_addRecord 8 (some .int) 0 0 0 [.ref (G.1 + r), .int tv, .int pv, .int dv, .int sv, .int kv] h (some (.int (nI n))) (fun h1 => ∃ od1, xRec G r (un th n t0) (un ot n p0) (un dy n d0) (un so n s0) (un kn n k0) (un go n 80001) od1 (n + 1) wd h1 ∧ srt (un dy n d0) od1 (n + 1) ∧ rng r (r + 7) h h1) := by
  refine cm_of rfl (Nat.le_of_ble_eq_true rfl) [(0, .ref (G.1 + r)), (1, .int tv), (2, .int pv), (3, .int dv), (4, .int sv), (5, .int kv)] rfl ?_
  refine aw_aload_n 0 dX5_addRecord_0 rfl rfl ?_
  refine aw_get fX5_33 dX5_addRecord_1 hR.1 rfl ?_
  refine aw_istore [(6, .int (nI n)), (0, .ref (G.1 + r)), (1, .int tv), (2, .int pv), (3, .int dv), (4, .int sv), (5, .int kv)] dX5_addRecord_4 (by decide) rfl ?_
  refine aw_aload_n 1 dX5_addRecord_6 rfl rfl ?_
  refine aw_get fX5_9 dX5_addRecord_7 hR.1 rfl ?_
  refine aw_iload 0 dX5_addRecord_10 rfl ?_
  refine aw_iload_n 2 dX5_addRecord_12 rfl rfl ?_
  refine aw_iast n (rfl) (by omega) (by decide) dX5_addRecord_13 hR.2.1 ?_
  rw [nA_u (f := th) (i := n) (x := tv) (v := t0) (et)]
  refine aw_aload_n 1 dX5_addRecord_14 rfl rfl ?_
  refine aw_get fX5_15 dX5_addRecord_15 (gn (by omega) (hR.1)) rfl ?_
  refine aw_iload 0 dX5_addRecord_18 rfl ?_
  refine aw_iload_n 3 dX5_addRecord_20 rfl rfl ?_
  refine aw_iast n (rfl) (by omega) (by decide) dX5_addRecord_21 (gn (by omega) (hR.2.2.1)) ?_
  rw [nA_u (f := ot) (i := n) (x := pv) (v := p0) (ep)]
  refine aw_aload_n 1 dX5_addRecord_22 rfl rfl ?_
  refine aw_get fX5_18 dX5_addRecord_23 (gn (by omega) (gn (by omega) (hR.1))) rfl ?_
  refine aw_iload 0 dX5_addRecord_26 rfl ?_
  refine aw_iload_n 4 dX5_addRecord_28 rfl rfl ?_
  refine aw_iast n (rfl) (by omega) (by decide) dX5_addRecord_29 (gn (by omega) (gn (by omega) (hR.2.2.2.1))) ?_
  rw [nA_u (f := dy) (i := n) (x := dv) (v := d0) (ed)]
  refine aw_aload_n 1 dX5_addRecord_30 rfl rfl ?_
  refine aw_get fX5_21 dX5_addRecord_31 (gn (by omega) (gn (by omega) (gn (by omega) (hR.1)))) rfl ?_
  refine aw_iload 0 dX5_addRecord_34 rfl ?_
  refine aw_iload 5 dX5_addRecord_36 rfl ?_
  refine aw_iast n (rfl) (by omega) (by decide) dX5_addRecord_38 (gn (by omega) (gn (by omega) (gn (by omega) (hR.2.2.2.2.1)))) ?_
  rw [nA_u (f := so) (i := n) (x := sv) (v := s0) (es)]
  refine aw_aload_n 1 dX5_addRecord_39 rfl rfl ?_
  refine aw_get fX5_24 dX5_addRecord_40 (gn (by omega) (gn (by omega) (gn (by omega) (gn (by omega) (hR.1))))) rfl ?_
  refine aw_iload 0 dX5_addRecord_43 rfl ?_
  refine aw_iload 6 dX5_addRecord_45 rfl ?_
  refine aw_iast n (rfl) (by omega) (by decide) dX5_addRecord_47 (gn (by omega) (gn (by omega) (gn (by omega) (gn (by omega) (hR.2.2.2.2.2.1))))) ?_
  rw [nA_u (f := kn) (i := n) (x := kv) (v := k0) (ek)]
  refine aw_aload_n 1 dX5_addRecord_48 rfl rfl ?_
  refine aw_get fX5_27 dX5_addRecord_49 (gn (by omega) (gn (by omega) (gn (by omega) (gn (by omega) (gn (by omega) (hR.1)))))) rfl ?_
  refine aw_iload 0 dX5_addRecord_52 rfl ?_
  refine aw_ldc (80001) kX5_40 dX5_addRecord_54 ?_
  refine aw_iast n (rfl) (by omega) (by decide) dX5_addRecord_56 (gn (by omega) (gn (by omega) (gn (by omega) (gn (by omega) (gn (by omega) (hR.2.2.2.2.2.2.1)))))) ?_
  rw [nA_u (f := go) (i := n) (x := 80001) (v := 80001) (rfl)]
  refine aw_iload 0 dX5_addRecord_57 rfl ?_
  refine aw_istore [(7, .int (nI n)), (6, .int (nI n)), (0, .ref (G.1 + r)), (1, .int tv), (2, .int pv), (3, .int dv), (4, .int sv), (5, .int kv)] dX5_addRecord_59 (by decide) rfl ?_
  refine aw_lv [(7, .int (nI n)), (6, .int (nI n)), (5, .int kv), (4, .int sv), (3, .int dv), (2, .int pv), (1, .int tv), (0, .ref (G.1 + r))] [0, 1, 7, 6, 5, 4, 3, 2] rfl ?_
  refine aw_fg (fun hX => hX[r]? = some (.inr (5, [.ref (G.1 + (r + 1)), .ref (G.1 + (r + 2)), .ref (G.1 + (r + 3)), .ref (G.1 + (r + 4)), .ref (G.1 + (r + 5)), .ref (G.1 + (r + 6)), .ref (G.1 + (r + 7)), .int (nI n), .int wd])) ∧ hX[r + 1]? = some (.inl (0, 60, .inl (nA (un th n t0)))) ∧ hX[r + 2]? = some (.inl (0, 60, .inl (nA (un ot n p0)))) ∧ hX[r + 3]? = some (.inl (0, 60, .inl (nA (un dy n d0)))) ∧ hX[r + 4]? = some (.inl (0, 60, .inl (nA (un so n s0)))) ∧ hX[r + 5]? = some (.inl (0, 60, .inl (nA (un kn n k0)))) ∧ hX[r + 6]? = some (.inl (0, 60, .inl (nA (un go n 80001)))) ∧ hX[r + 7]? = some (.inl (0, 60, .inl (nA od))) ∧ rng r (r + 7) h hX) ⟨(gn (by omega) (gn (by omega) (gn (by omega) (gn (by omega) (gn (by omega) (gn (by omega) (hR.1))))))), (gn (by omega) (gn (by omega) (gn (by omega) (gn (by omega) (gn (by omega) (gs hR.2.1)))))), (gn (by omega) (gn (by omega) (gn (by omega) (gn (by omega) (gs (gn (by omega) (hR.2.2.1))))))), (gn (by omega) (gn (by omega) (gn (by omega) (gs (gn (by omega) (gn (by omega) (hR.2.2.2.1))))))), (gn (by omega) (gn (by omega) (gs (gn (by omega) (gn (by omega) (gn (by omega) (hR.2.2.2.2.1))))))), (gn (by omega) (gs (gn (by omega) (gn (by omega) (gn (by omega) (gn (by omega) (hR.2.2.2.2.2.1))))))), (gs (gn (by omega) (gn (by omega) (gn (by omega) (gn (by omega) (gn (by omega) (hR.2.2.2.2.2.2.1))))))), (gn (by omega) (gn (by omega) (gn (by omega) (gn (by omega) (gn (by omega) (gn (by omega) (hR.2.2.2.2.2.2.2))))))), rng_set (rng_set (rng_set (rng_set (rng_set (rng_set (rng_rf r (r + 7) h) (by omega) (by omega)) (by omega) (by omega)) (by omega) (by omega)) (by omega) (by omega)) (by omega) (by omega)) (by omega) (by omega)⟩ ?_
  rintro hX ⟨x0, x1, x2, x3, x4, x5, x6, x7, xk⟩
  refine gX5_add_l x0 x3 hn hod ed bd hdy ?_ n hX _ (Nat.le_refl n) rfl (fun j j1 j2 => absurd j1 (by omega)) (ex1_rf _ hX) (by rw [shF_n]; exact x7)
  intro a h2 av ea han d1 d2 k2 m2
  refine aw_aload_n 2 dX5_addRecord_106 rfl rfl ?_
  refine aw_get fX5_30 dX5_addRecord_107 (ex1_at k2 (by omega) x0) rfl ?_
  refine aw_iload 0 dX5_addRecord_110 rfl ?_
  refine aw_iload 1 dX5_addRecord_112 rfl ?_
  refine aw_iast a (ea) (by omega) (by decide) dX5_addRecord_114 m2 ?_
  rw [nA_u (f := (shF od a n)) (i := a) (x := (nI n)) (v := n) (rfl)]
  refine aw_aload_n 2 dX5_addRecord_115 rfl rfl ?_
  refine aw_iload 1 dX5_addRecord_116 rfl ?_
  refine aw_iconst (1) dX5_addRecord_118 (by decide) ?_
  refine aw_iadd dX5_addRecord_119 ?_
  refine aw_toe (nI (n + 1)) (nv_add (rfl) (rfl)) ?_
  refine aw_putQ fX5_33 dX5_addRecord_120 [.ref (G.1 + (r + 1)), .ref (G.1 + (r + 2)), .ref (G.1 + (r + 3)), .ref (G.1 + (r + 4)), .ref (G.1 + (r + 5)), .ref (G.1 + (r + 6)), .ref (G.1 + (r + 7)), .int (nI (n + 1)), .int wd] (gn (by omega) (ex1_at k2 (by omega) x0)) rfl rfl rfl (Nat.le_of_ble_eq_true rfl) rfl ?_
  refine aw_iload 1 dX5_addRecord_123 rfl ?_
  exact aw_iret rfl dX5_addRecord_125 (by decide) (by decide) ⟨rfl, _, ⟨(gs (gn (by omega) (ex1_at k2 (by omega) x0))), (gn (by omega) (gn (by omega) (ex1_at k2 (by omega) x1))), (gn (by omega) (gn (by omega) (ex1_at k2 (by omega) x2))), (gn (by omega) (gn (by omega) (ex1_at k2 (by omega) x3))), (gn (by omega) (gn (by omega) (ex1_at k2 (by omega) x4))), (gn (by omega) (gn (by omega) (ex1_at k2 (by omega) x5))), (gn (by omega) (gn (by omega) (ex1_at k2 (by omega) x6))), (gn (by omega) (gs m2))⟩, srt_add hod han d1 d2, rng_set (rng_set (rng_tr xk (rng_w (ex1_rng k2) (by omega) (by omega))) (by omega) (by omega)) (by omega) (by omega)⟩
set_option maxHeartbeats 4000000 in
theorem gX5_takeBack {l : Launch} {G : xG} {h : List va_E} {th ot dy so kn go od : Nat → Nat} {n : Nat} {wd : Int32} {r : Nat} {qv kv : Int32} {q k : Nat} (hR : xRec G r th ot dy so kn go od n wd h) (hn : n ≤ 60) (hod : srt dy od n) (eq : qv = nI q) (bq : q < 60) (ek : kv = nI k) : CE l G yX5_takeBack cX5_takeBack 3 none 0 0 0 [.ref (G.1 + r), .int qv, .int kv] h none (fun h1 => ∃ wd1, xRec G r th ot dy so kn (un go q k) od n wd1 h1 ∧ rng r (r + 7) h h1) := by
  refine cm_of rfl (Nat.le_of_ble_eq_true rfl) [(0, .ref (G.1 + r)), (1, .int qv), (2, .int kv)] rfl ?_
  refine aw_aload_n 0 dX5_takeBack_0 rfl rfl ?_
  refine aw_get fX5_27 dX5_takeBack_1 hR.1 rfl ?_
  refine aw_iload_n 1 dX5_takeBack_4 rfl rfl ?_
  refine aw_iload_n 2 dX5_takeBack_5 rfl rfl ?_
  refine aw_iast q (eq) (by omega) (by decide) dX5_takeBack_6 hR.2.2.2.2.2.2.1 ?_
  rw [nA_u (f := go) (i := q) (x := kv) (v := k) (ek)]
  refine aw_aload_n 0 dX5_takeBack_7 rfl rfl ?_
  refine aw_dup dX5_takeBack_8 rfl ?_
  refine aw_get fX5_37 dX5_takeBack_9 (gn (by omega) (hR.1)) rfl ?_
  refine aw_iconst (1) dX5_takeBack_12 (by decide) ?_
  refine aw_iadd dX5_takeBack_13 ?_
  refine aw_top (fun v1 ev1 => ?_)
  refine aw_putQ fX5_37 dX5_takeBack_14 [.ref (G.1 + (r + 1)), .ref (G.1 + (r + 2)), .ref (G.1 + (r + 3)), .ref (G.1 + (r + 4)), .ref (G.1 + (r + 5)), .ref (G.1 + (r + 6)), .ref (G.1 + (r + 7)), .int (nI n), .int v1] (gn (by omega) (hR.1)) rfl rfl rfl (Nat.le_of_ble_eq_true rfl) rfl ?_
  exact aw_vret rfl dX5_takeBack_17 (by decide) (by decide) ⟨rfl, _, ⟨(gs (gn (by omega) (hR.1))), (gn (by omega) (gn (by omega) (hR.2.1))), (gn (by omega) (gn (by omega) (hR.2.2.1))), (gn (by omega) (gn (by omega) (hR.2.2.2.1))), (gn (by omega) (gn (by omega) (hR.2.2.2.2.1))), (gn (by omega) (gn (by omega) (hR.2.2.2.2.2.1))), (gn (by omega) (gs hR.2.2.2.2.2.2.1)), (gn (by omega) (gn (by omega) (hR.2.2.2.2.2.2.2)))⟩, rng_set (rng_set (rng_rf r (r + 7) h) (by omega) (by omega)) (by omega) (by omega)⟩
def lpF (th ot dy kn go od : Nat → Nat) (t d k : Nat) : Nat → Int32
  | 0 => -9
  | a + 1 => if dy (od a) ≤ d ∧ th (od a) = t ∧ kn (od a) ≤ k ∧ k < go (od a) then nI (ot (od a)) else lpF th ot dy kn go od t d k a
theorem lpF_s {th ot dy kn go od : Nat → Nat} {t d k a : Nat} : lpF th ot dy kn go od t d k (a + 1) = if dy (od a) ≤ d ∧ th (od a) = t ∧ kn (od a) ≤ k ∧ k < go (od a) then nI (ot (od a)) else lpF th ot dy kn go od t d k a := rfl
set_option maxHeartbeats 4000000 in
theorem gX5_lastPlace_l {l : Launch} {G : xG} {R : Room} {E : Array Value → State → Prop} {QF : List Frame → Array Value → State → State → Prop} {kc ns : Nat} {h : List va_E} {th ot dy so kn go od : Nat → Nat} {n : Nat} {wd : Int32} {r : Nat} {tv dv kv : Int32} {t d k : Nat} (hR : xRec G r th ot dy so kn go od n wd h) (hn : n ≤ 60) (hod : srt dy od n) (bth : ∀ j, j < 60 → th j < 12) (bkn : ∀ j, j < 60 → kn j ≤ 80000) (bgo : ∀ j, j < 60 → go j ≤ 80001) (bdy : ∀ j, j < 60 → dy j ≤ 80000) (et : tv = nI t) (bt : t < 12) (ed : dv = nI d) (bd : d ≤ 80000) (ek : kv = nI k) (bk : k ≤ 80000) (hM : 1 ≤ R.frames ∧ 40 ≤ R.locals ∧ kc ≤ R.cells ∧ ns ≤ R.slots)
    (K : ∀ (pv : Int32), pv = lpF th ot dy kn go od t d k n → AW l G yX5_lastPlace cX5_lastPlace 7 (some .int) R E QF kc ns 62 [(4, .int pv)] [] h) :
    ∀ (mm i : Nat) (pv : Int32) (iv : Int32), i + mm = n → iv = nI i → pv = lpF th ot dy kn go od t d k i → AW l G yX5_lastPlace cX5_lastPlace 7 (some .int) R E QF kc ns 7 [(5, .int iv), (4, .int pv), (3, .int kv), (2, .int dv), (1, .int tv), (0, .ref (G.1 + r))] [] h := by
  intro mm
  induction mm with
  | zero =>
    intro i pv iv hi ei hv
    have e0 : i = n := by omega
    rw [e0] at hv
    refine aw_iload 0 dX5_lastPlace_7 rfl ?_
    refine aw_aload_n 5 dX5_lastPlace_9 rfl rfl ?_
    refine aw_get fX5_33 dX5_lastPlace_10 hR.1 rfl ?_
    refine aw_icmp_ge 62 dX5_lastPlace_13 (by decide) (fun c13 => ?_) (fun c13 => absurd (by simp only [i_le, (i_toNat (ei) (by omega)), (nI_toInt (n := n) (by omega))] <;> omega) c13)
    refine aw_lv [(4, .int pv)] [1] rfl ?_
    exact K _ hv
  | succ mm ih =>
    intro i pv iv hi ei hv
    have b0 := hod.1 i (by omega)
    refine aw_iload 0 dX5_lastPlace_7 rfl ?_
    refine aw_aload_n 5 dX5_lastPlace_9 rfl rfl ?_
    refine aw_get fX5_33 dX5_lastPlace_10 hR.1 rfl ?_
    refine aw_icmp_ge 62 dX5_lastPlace_13 (by decide) (fun c13 => absurd c13 (by simp only [i_le, (i_toNat (ei) (by omega)), (nI_toInt (n := n) (by omega))] <;> omega)) (fun c13 => ?_)
    refine aw_aload_n 5 dX5_lastPlace_16 rfl rfl ?_
    refine aw_get fX5_30 dX5_lastPlace_17 hR.1 rfl ?_
    refine aw_iload 0 dX5_lastPlace_20 rfl ?_
    refine aw_iald i (ei) (by omega) (by decide) dX5_lastPlace_22 hR.2.2.2.2.2.2.2 ?_
    refine aw_toe (nI (od i)) (rfl) ?_
    refine aw_istore [(6, .int (nI (od i))), (5, .int iv), (4, .int pv), (3, .int kv), (2, .int dv), (1, .int tv), (0, .ref (G.1 + r))] dX5_lastPlace_23 (by decide) rfl ?_
    refine aw_aload_n 6 dX5_lastPlace_25 rfl rfl ?_
    refine aw_get fX5_18 dX5_lastPlace_26 hR.1 rfl ?_
    refine aw_iload 0 dX5_lastPlace_29 rfl ?_
    refine aw_iald (od i) (rfl) (by omega) (by decide) dX5_lastPlace_31 hR.2.2.2.1 ?_
    refine aw_toe (nI (dy (od i))) (rfl) ?_
    refine aw_iload_n 4 dX5_lastPlace_32 rfl rfl ?_
    refine aw_icmp_gt 56 dX5_lastPlace_33 (by decide) (fun c33 => ?_) (fun c33 => ?_)
    · obtain ⟨v1, ev1⟩ : ∃ q : Int32, q = iv + Int32.ofInt (1) := ⟨_, rfl⟩
      refine aw_iinc (j := 1) v1 [(5, .int v1), (6, .int (nI (od i))), (4, .int pv), (3, .int kv), (2, .int dv), (1, .int tv), (0, .ref (G.1 + r))] dX5_lastPlace_56 rfl ev1.symm (by decide) rfl ?_
      refine aw_goto 7 dX5_lastPlace_59 (by decide) ?_
      refine aw_lv [(5, .int v1), (4, .int pv), (3, .int kv), (2, .int dv), (1, .int tv), (0, .ref (G.1 + r))] [0, 2, 3, 4, 5, 6] rfl ?_
      exact ih (i + 1) _ _ (by omega) (ev1.trans (nv_inc (ei))) (by have b0 := hod.1 i (by omega); have b1 := bdy (od i) (by omega); have c := c33; rw [ed, nI_ltI (by omega) (by omega)] at c; rw [lpF_s, if_neg (fun q => by omega)]; exact hv)
    · refine aw_aload_n 6 dX5_lastPlace_36 rfl rfl ?_
      refine aw_iload 0 dX5_lastPlace_37 rfl ?_
      refine aw_iload_n 5 dX5_lastPlace_39 rfl rfl ?_
      refine aw_iload_n 3 dX5_lastPlace_40 rfl rfl ?_
      refine aw_dV [.int (nI (od i)), .int tv, .int kv] [] lX5_41 vX5_counts mX5_counts dX5_lastPlace_41 (gX5_counts hR hn hod bth bkn bgo rfl (by omega) et bt ek bk) hR.1 rfl rfl rfl (Nat.le_of_ble_eq_true rfl) (by omega) (by omega) rfl ?_
      refine aw_if_eq 56 dX5_lastPlace_44 (by decide) (fun c44 => ?_) (fun c44 => ?_)
      · obtain ⟨v2, ev2⟩ : ∃ q : Int32, q = iv + Int32.ofInt (1) := ⟨_, rfl⟩
        refine aw_iinc (j := 1) v2 [(5, .int v2), (6, .int (nI (od i))), (4, .int pv), (3, .int kv), (2, .int dv), (1, .int tv), (0, .ref (G.1 + r))] dX5_lastPlace_56 rfl ev2.symm (by decide) rfl ?_
        refine aw_goto 7 dX5_lastPlace_59 (by decide) ?_
        refine aw_lv [(5, .int v2), (4, .int pv), (3, .int kv), (2, .int dv), (1, .int tv), (0, .ref (G.1 + r))] [0, 2, 3, 4, 5, 6] rfl ?_
        exact ih (i + 1) _ _ (by omega) (ev2.trans (nv_inc (ei))) (by rw [lpF_s, if_neg (fun q => by have q2 := q.2; rw [if_pos q2] at c44; exact absurd c44 (by decide))]; exact hv)
      · refine aw_aload_n 6 dX5_lastPlace_47 rfl rfl ?_
        refine aw_get fX5_15 dX5_lastPlace_48 hR.1 rfl ?_
        refine aw_iload 0 dX5_lastPlace_51 rfl ?_
        refine aw_iald (od i) (rfl) (by omega) (by decide) dX5_lastPlace_53 hR.2.2.1 ?_
        refine aw_toe (nI (ot (od i))) (rfl) ?_
        refine aw_istore [(4, .int (nI (ot (od i)))), (6, .int (nI (od i))), (5, .int iv), (3, .int kv), (2, .int dv), (1, .int tv), (0, .ref (G.1 + r))] dX5_lastPlace_54 (by decide) rfl ?_
        obtain ⟨v3, ev3⟩ : ∃ q : Int32, q = iv + Int32.ofInt (1) := ⟨_, rfl⟩
        refine aw_iinc (j := 2) v3 [(5, .int v3), (4, .int (nI (ot (od i)))), (6, .int (nI (od i))), (3, .int kv), (2, .int dv), (1, .int tv), (0, .ref (G.1 + r))] dX5_lastPlace_56 rfl ev3.symm (by decide) rfl ?_
        refine aw_goto 7 dX5_lastPlace_59 (by decide) ?_
        refine aw_lv [(5, .int v3), (4, .int (nI (ot (od i)))), (3, .int kv), (2, .int dv), (1, .int tv), (0, .ref (G.1 + r))] [0, 1, 3, 4, 5, 6] rfl ?_
        exact ih (i + 1) _ _ (by omega) (ev3.trans (nv_inc (ei))) (by have b0 := hod.1 i (by omega); have b1 := bdy (od i) (by omega); have c := c33; rw [ed, nI_ltI (by omega) (by omega)] at c; have p : th (od i) = t ∧ kn (od i) ≤ k ∧ k < go (od i) := Classical.byContradiction (fun p => c44 (if_neg p)); rw [lpF_s, if_pos ⟨by omega, p⟩])
set_option maxHeartbeats 4000000 in
theorem gX5_lastPlace {l : Launch} {G : xG} {h : List va_E} {th ot dy so kn go od : Nat → Nat} {n : Nat} {wd : Int32} {r : Nat} {tv dv kv : Int32} {t d k : Nat} (hR : xRec G r th ot dy so kn go od n wd h) (hn : n ≤ 60) (hod : srt dy od n) (bth : ∀ j, j < 60 → th j < 12) (bkn : ∀ j, j < 60 → kn j ≤ 80000) (bgo : ∀ j, j < 60 → go j ≤ 80001) (bdy : ∀ j, j < 60 → dy j ≤ 80000) (et : tv = nI t) (bt : t < 12) (ed : dv = nI d) (bd : d ≤ 80000) (ek : kv = nI k) (bk : k ≤ 80000) : CD l G yX5_lastPlace cX5_lastPlace 7 (some .int) 1 0 0 [.ref (G.1 + r), .int tv, .int dv, .int kv] h (some (.int (lpF th ot dy kn go od t d k n))) h := by
  refine cm_of rfl (Nat.le_of_ble_eq_true rfl) [(0, .ref (G.1 + r)), (1, .int tv), (2, .int dv), (3, .int kv)] rfl ?_
  refine aw_bipush (-9) dX5_lastPlace_0 (by decide) ?_
  refine aw_istore [(4, .int (-9)), (0, .ref (G.1 + r)), (1, .int tv), (2, .int dv), (3, .int kv)] dX5_lastPlace_2 (by decide) rfl ?_
  refine aw_iconst (0) dX5_lastPlace_4 (by decide) ?_
  refine aw_istore [(5, .int 0), (4, .int (-9)), (0, .ref (G.1 + r)), (1, .int tv), (2, .int dv), (3, .int kv)] dX5_lastPlace_5 (by decide) rfl ?_
  refine aw_lv [(5, .int 0), (4, .int (-9)), (3, .int kv), (2, .int dv), (1, .int tv), (0, .ref (G.1 + r))] [0, 1, 5, 4, 3, 2] rfl ?_
  refine gX5_lastPlace_l hR hn hod bth bkn bgo bdy et bt ed bd ek bk (by decide) (fun pv hv => ?_) n 0 _ _ (by omega) rfl rfl
  refine aw_iload 0 dX5_lastPlace_62 rfl ?_
  exact aw_iret rfl dX5_lastPlace_64 (by decide) (by decide) ⟨by rw [hv], rfl⟩
def lcF (th kn go : Nat → Nat) (t k : Nat) : Nat → Nat
  | 0 => 0
  | a + 1 => if th a = t then max (max (lcF th kn go t k a) (if kn a ≤ k then kn a else 0)) (if go a ≤ k then go a else 0) else lcF th kn go t k a
theorem lcF_s {th kn go : Nat → Nat} {t k a : Nat} : lcF th kn go t k (a + 1) = if th a = t then max (max (lcF th kn go t k a) (if kn a ≤ k then kn a else 0)) (if go a ≤ k then go a else 0) else lcF th kn go t k a := rfl
theorem lcF_le {th kn go : Nat → Nat} {t k : Nat} : ∀ a, lcF th kn go t k a ≤ k := by
  intro a
  induction a with
  | zero => exact Nat.zero_le _
  | succ a ih =>
    rw [lcF_s]
    repeat' split
    all_goals omega
theorem nv_max {x z : Int32} {a b : Nat} (h1 : x = nI a) (h2 : z = nI b) (ha : a < 2 ^ 31) (hb : b < 2 ^ 31) : (if x < z then z else x) = nI (max a b) := by
  have q := nv_lt h1 h2 ha hb
  by_cases c : x < z
  · rw [if_pos c, h2, Nat.max_eq_right (by have := q.mp c; omega)]
  · rw [if_neg c, h1, Nat.max_eq_left (by have := mt q.mpr c; omega)]
set_option maxHeartbeats 4000000 in
theorem gX5_lastChange_l {l : Launch} {G : xG} {R : Room} {E : Array Value → State → Prop} {QF : List Frame → Array Value → State → State → Prop} {kc ns : Nat} {h : List va_E} {th ot dy so kn go od : Nat → Nat} {n : Nat} {wd : Int32} {r : Nat} {tv kv : Int32} {t k : Nat} (hR : xRec G r th ot dy so kn go od n wd h) (hn : n ≤ 60) (hod : srt dy od n) (bth : ∀ j, j < 60 → th j < 12) (bkn : ∀ j, j < 60 → kn j ≤ 80000) (bgo : ∀ j, j < 60 → go j ≤ 80001) (et : tv = nI t) (bt : t < 12) (ek : kv = nI k) (bk : k ≤ 80000) (hM : 1 ≤ R.frames ∧ 40 ≤ R.locals ∧ kc ≤ R.cells ∧ ns ≤ R.slots)
    (K : ∀ (pv : Int32), pv = nI (lcF th kn go t k n) → AW l G yX5_lastChange cX5_lastChange 5 (some .int) R E QF kc ns 77 [(3, .int pv)] [] h) :
    ∀ (mm i : Nat) (pv : Int32) (iv : Int32), i + mm = n → iv = nI i → pv = nI (lcF th kn go t k i) → AW l G yX5_lastChange cX5_lastChange 5 (some .int) R E QF kc ns 5 [(4, .int iv), (3, .int pv), (2, .int kv), (1, .int tv), (0, .ref (G.1 + r))] [] h := by
  intro mm
  induction mm with
  | zero =>
    intro i pv iv hi ei hv
    have e0 : i = n := by omega
    rw [e0] at hv
    refine aw_iload 0 dX5_lastChange_5 rfl ?_
    refine aw_aload_n 4 dX5_lastChange_7 rfl rfl ?_
    refine aw_get fX5_33 dX5_lastChange_8 hR.1 rfl ?_
    refine aw_icmp_ge 77 dX5_lastChange_11 (by decide) (fun c11 => ?_) (fun c11 => absurd (by simp only [i_le, (i_toNat (ei) (by omega)), (nI_toInt (n := n) (by omega))] <;> omega) c11)
    refine aw_lv [(3, .int pv)] [1] rfl ?_
    exact K _ hv
  | succ mm ih =>
    intro i pv iv hi ei hv
    have b1 := bth i (by omega)
    have b2 := bkn i (by omega)
    have b3 := bgo i (by omega)
    have b4 := lcF_le (th := th) (kn := kn) (go := go) (t := t) (k := k) i
    refine aw_iload 0 dX5_lastChange_5 rfl ?_
    refine aw_aload_n 4 dX5_lastChange_7 rfl rfl ?_
    refine aw_get fX5_33 dX5_lastChange_8 hR.1 rfl ?_
    refine aw_icmp_ge 77 dX5_lastChange_11 (by decide) (fun c11 => absurd c11 (by simp only [i_le, (i_toNat (ei) (by omega)), (nI_toInt (n := n) (by omega))] <;> omega)) (fun c11 => ?_)
    refine aw_aload_n 4 dX5_lastChange_14 rfl rfl ?_
    refine aw_get fX5_9 dX5_lastChange_15 hR.1 rfl ?_
    refine aw_iload 0 dX5_lastChange_18 rfl ?_
    refine aw_iald i (ei) (by omega) (by decide) dX5_lastChange_20 hR.2.1 ?_
    refine aw_toe (nI (th i)) (rfl) ?_
    refine aw_iload_n 3 dX5_lastChange_21 rfl rfl ?_
    refine aw_icmp_ne 71 dX5_lastChange_22 (by decide) (fun c22 => ?_) (fun c22 => ?_)
    · obtain ⟨v1, ev1⟩ : ∃ q : Int32, q = iv + Int32.ofInt (1) := ⟨_, rfl⟩
      refine aw_iinc (j := 0) v1 [(4, .int v1), (3, .int pv), (2, .int kv), (1, .int tv), (0, .ref (G.1 + r))] dX5_lastChange_71 rfl ev1.symm (by decide) rfl ?_
      refine aw_goto 5 dX5_lastChange_74 (by decide) ?_
      refine aw_lv [(4, .int v1), (3, .int pv), (2, .int kv), (1, .int tv), (0, .ref (G.1 + r))] [0, 1, 2, 3, 4] rfl ?_
      exact ih (i + 1) _ _ (by omega) (ev1.trans (nv_inc (ei))) (by have b1 := bth i (by omega); have b2 := bkn i (by omega); have b3 := bgo i (by omega); have d22 := c22; rw [et, nI_eq (by omega) (by omega)] at d22; rw [lcF_s]; rw [if_neg d22]; exact hv)
    · refine aw_aload_n 4 dX5_lastChange_25 rfl rfl ?_
      refine aw_get fX5_24 dX5_lastChange_26 hR.1 rfl ?_
      refine aw_iload 0 dX5_lastChange_29 rfl ?_
      refine aw_iald i (ei) (by omega) (by decide) dX5_lastChange_31 hR.2.2.2.2.2.1 ?_
      refine aw_toe (nI (kn i)) (rfl) ?_
      refine aw_iload_n 2 dX5_lastChange_32 rfl rfl ?_
      refine aw_icmp_gt 48 dX5_lastChange_33 (by decide) (fun c33 => ?_) (fun c33 => ?_)
      · refine aw_aload_n 4 dX5_lastChange_48 rfl rfl ?_
        refine aw_get fX5_27 dX5_lastChange_49 hR.1 rfl ?_
        refine aw_iload 0 dX5_lastChange_52 rfl ?_
        refine aw_iald i (ei) (by omega) (by decide) dX5_lastChange_54 hR.2.2.2.2.2.2.1 ?_
        refine aw_toe (nI (go i)) (rfl) ?_
        refine aw_iload_n 2 dX5_lastChange_55 rfl rfl ?_
        refine aw_icmp_gt 71 dX5_lastChange_56 (by decide) (fun c56 => ?_) (fun c56 => ?_)
        · obtain ⟨v2, ev2⟩ : ∃ q : Int32, q = iv + Int32.ofInt (1) := ⟨_, rfl⟩
          refine aw_iinc (j := 0) v2 [(4, .int v2), (3, .int pv), (2, .int kv), (1, .int tv), (0, .ref (G.1 + r))] dX5_lastChange_71 rfl ev2.symm (by decide) rfl ?_
          refine aw_goto 5 dX5_lastChange_74 (by decide) ?_
          refine aw_lv [(4, .int v2), (3, .int pv), (2, .int kv), (1, .int tv), (0, .ref (G.1 + r))] [0, 1, 2, 3, 4] rfl ?_
          exact ih (i + 1) _ _ (by omega) (ev2.trans (nv_inc (ei))) (by have b1 := bth i (by omega); have b2 := bkn i (by omega); have b3 := bgo i (by omega); have d22 := c22; rw [et, nI_eq (by omega) (by omega)] at d22; have d33 := c33; rw [ek, nI_ltI (by omega) (by omega)] at d33; have d56 := c56; rw [ek, nI_ltI (by omega) (by omega)] at d56; rw [lcF_s]; rw [if_pos (by omega)]; refine (hv).trans ?_; congr 1; (repeat' split); all_goals omega)
        · refine aw_iload_n 1 dX5_lastChange_59 rfl rfl ?_
          refine aw_aload_n 4 dX5_lastChange_60 rfl rfl ?_
          refine aw_get fX5_27 dX5_lastChange_61 hR.1 rfl ?_
          refine aw_iload 0 dX5_lastChange_64 rfl ?_
          refine aw_iald i (ei) (by omega) (by decide) dX5_lastChange_66 hR.2.2.2.2.2.2.1 ?_
          refine aw_toe (nI (go i)) (rfl) ?_
          refine aw_mmax lX5_45 dX5_lastChange_67 (Nat.le_of_ble_eq_true rfl) (by omega) (by omega) ?_
          refine aw_toe (nI (max (lcF th kn go t k i) (go i))) (nv_max (hv) (rfl) (by omega) (by omega)) ?_
          refine aw_istore_n [(3, .int (nI (max (lcF th kn go t k i) (go i)))), (4, .int iv), (2, .int kv), (1, .int tv), (0, .ref (G.1 + r))] dX5_lastChange_70 rfl (by decide) rfl ?_
          obtain ⟨v3, ev3⟩ : ∃ q : Int32, q = iv + Int32.ofInt (1) := ⟨_, rfl⟩
          refine aw_iinc (j := 1) v3 [(4, .int v3), (3, .int (nI (max (lcF th kn go t k i) (go i)))), (2, .int kv), (1, .int tv), (0, .ref (G.1 + r))] dX5_lastChange_71 rfl ev3.symm (by decide) rfl ?_
          refine aw_goto 5 dX5_lastChange_74 (by decide) ?_
          refine aw_lv [(4, .int v3), (3, .int (nI (max (lcF th kn go t k i) (go i)))), (2, .int kv), (1, .int tv), (0, .ref (G.1 + r))] [0, 1, 2, 3, 4] rfl ?_
          exact ih (i + 1) _ _ (by omega) (ev3.trans (nv_inc (ei))) (by have b1 := bth i (by omega); have b2 := bkn i (by omega); have b3 := bgo i (by omega); have d22 := c22; rw [et, nI_eq (by omega) (by omega)] at d22; have d33 := c33; rw [ek, nI_ltI (by omega) (by omega)] at d33; have d56 := c56; rw [ek, nI_ltI (by omega) (by omega)] at d56; rw [lcF_s]; rw [if_pos (by omega)]; refine (rfl).trans ?_; congr 1; (repeat' split); all_goals omega)
      · refine aw_iload_n 1 dX5_lastChange_36 rfl rfl ?_
        refine aw_aload_n 4 dX5_lastChange_37 rfl rfl ?_
        refine aw_get fX5_24 dX5_lastChange_38 hR.1 rfl ?_
        refine aw_iload 0 dX5_lastChange_41 rfl ?_
        refine aw_iald i (ei) (by omega) (by decide) dX5_lastChange_43 hR.2.2.2.2.2.1 ?_
        refine aw_toe (nI (kn i)) (rfl) ?_
        refine aw_mmax lX5_45 dX5_lastChange_44 (Nat.le_of_ble_eq_true rfl) (by omega) (by omega) ?_
        refine aw_toe (nI (max (lcF th kn go t k i) (kn i))) (nv_max (hv) (rfl) (by omega) (by omega)) ?_
        refine aw_istore_n [(3, .int (nI (max (lcF th kn go t k i) (kn i)))), (4, .int iv), (2, .int kv), (1, .int tv), (0, .ref (G.1 + r))] dX5_lastChange_47 rfl (by decide) rfl ?_
        refine aw_aload_n 4 dX5_lastChange_48 rfl rfl ?_
        refine aw_get fX5_27 dX5_lastChange_49 hR.1 rfl ?_
        refine aw_iload 1 dX5_lastChange_52 rfl ?_
        refine aw_iald i (ei) (by omega) (by decide) dX5_lastChange_54 hR.2.2.2.2.2.2.1 ?_
        refine aw_toe (nI (go i)) (rfl) ?_
        refine aw_iload_n 2 dX5_lastChange_55 rfl rfl ?_
        refine aw_icmp_gt 71 dX5_lastChange_56 (by decide) (fun c56 => ?_) (fun c56 => ?_)
        · obtain ⟨v4, ev4⟩ : ∃ q : Int32, q = iv + Int32.ofInt (1) := ⟨_, rfl⟩
          refine aw_iinc (j := 1) v4 [(4, .int v4), (3, .int (nI (max (lcF th kn go t k i) (kn i)))), (2, .int kv), (1, .int tv), (0, .ref (G.1 + r))] dX5_lastChange_71 rfl ev4.symm (by decide) rfl ?_
          refine aw_goto 5 dX5_lastChange_74 (by decide) ?_
          refine aw_lv [(4, .int v4), (3, .int (nI (max (lcF th kn go t k i) (kn i)))), (2, .int kv), (1, .int tv), (0, .ref (G.1 + r))] [0, 1, 2, 3, 4] rfl ?_
          exact ih (i + 1) _ _ (by omega) (ev4.trans (nv_inc (ei))) (by have b1 := bth i (by omega); have b2 := bkn i (by omega); have b3 := bgo i (by omega); have d22 := c22; rw [et, nI_eq (by omega) (by omega)] at d22; have d33 := c33; rw [ek, nI_ltI (by omega) (by omega)] at d33; have d56 := c56; rw [ek, nI_ltI (by omega) (by omega)] at d56; rw [lcF_s]; rw [if_pos (by omega)]; refine (rfl).trans ?_; congr 1; (repeat' split); all_goals omega)
        · refine aw_iload_n 0 dX5_lastChange_59 rfl rfl ?_
          refine aw_aload_n 4 dX5_lastChange_60 rfl rfl ?_
          refine aw_get fX5_27 dX5_lastChange_61 hR.1 rfl ?_
          refine aw_iload 1 dX5_lastChange_64 rfl ?_
          refine aw_iald i (ei) (by omega) (by decide) dX5_lastChange_66 hR.2.2.2.2.2.2.1 ?_
          refine aw_toe (nI (go i)) (rfl) ?_
          refine aw_mmax lX5_45 dX5_lastChange_67 (Nat.le_of_ble_eq_true rfl) (by omega) (by omega) ?_
          refine aw_toe (nI (max (max (lcF th kn go t k i) (kn i)) (go i))) (nv_max (rfl) (rfl) (by omega) (by omega)) ?_
          refine aw_istore_n [(3, .int (nI (max (max (lcF th kn go t k i) (kn i)) (go i)))), (4, .int iv), (2, .int kv), (1, .int tv), (0, .ref (G.1 + r))] dX5_lastChange_70 rfl (by decide) rfl ?_
          obtain ⟨v5, ev5⟩ : ∃ q : Int32, q = iv + Int32.ofInt (1) := ⟨_, rfl⟩
          refine aw_iinc (j := 1) v5 [(4, .int v5), (3, .int (nI (max (max (lcF th kn go t k i) (kn i)) (go i)))), (2, .int kv), (1, .int tv), (0, .ref (G.1 + r))] dX5_lastChange_71 rfl ev5.symm (by decide) rfl ?_
          refine aw_goto 5 dX5_lastChange_74 (by decide) ?_
          refine aw_lv [(4, .int v5), (3, .int (nI (max (max (lcF th kn go t k i) (kn i)) (go i)))), (2, .int kv), (1, .int tv), (0, .ref (G.1 + r))] [0, 1, 2, 3, 4] rfl ?_
          exact ih (i + 1) _ _ (by omega) (ev5.trans (nv_inc (ei))) (by have b1 := bth i (by omega); have b2 := bkn i (by omega); have b3 := bgo i (by omega); have d22 := c22; rw [et, nI_eq (by omega) (by omega)] at d22; have d33 := c33; rw [ek, nI_ltI (by omega) (by omega)] at d33; have d56 := c56; rw [ek, nI_ltI (by omega) (by omega)] at d56; rw [lcF_s]; rw [if_pos (by omega)]; refine (rfl).trans ?_; congr 1; (repeat' split); all_goals omega)
set_option maxHeartbeats 4000000 in
theorem gX5_lastChange {l : Launch} {G : xG} {h : List va_E} {th ot dy so kn go od : Nat → Nat} {n : Nat} {wd : Int32} {r : Nat} {tv kv : Int32} {t k : Nat} (hR : xRec G r th ot dy so kn go od n wd h) (hn : n ≤ 60) (hod : srt dy od n) (bth : ∀ j, j < 60 → th j < 12) (bkn : ∀ j, j < 60 → kn j ≤ 80000) (bgo : ∀ j, j < 60 → go j ≤ 80001) (et : tv = nI t) (bt : t < 12) (ek : kv = nI k) (bk : k ≤ 80000) : CD l G yX5_lastChange cX5_lastChange 5 (some .int) 1 0 0 [.ref (G.1 + r), .int tv, .int kv] h (some (.int (nI (lcF th kn go t k n)))) h := by
  refine cm_of rfl (Nat.le_of_ble_eq_true rfl) [(0, .ref (G.1 + r)), (1, .int tv), (2, .int kv)] rfl ?_
  refine aw_iconst (0) dX5_lastChange_0 (by decide) ?_
  refine aw_istore_n [(3, .int 0), (0, .ref (G.1 + r)), (1, .int tv), (2, .int kv)] dX5_lastChange_1 rfl (by decide) rfl ?_
  refine aw_iconst (0) dX5_lastChange_2 (by decide) ?_
  refine aw_istore [(4, .int 0), (3, .int 0), (0, .ref (G.1 + r)), (1, .int tv), (2, .int kv)] dX5_lastChange_3 (by decide) rfl ?_
  refine aw_lv [(4, .int 0), (3, .int 0), (2, .int kv), (1, .int tv), (0, .ref (G.1 + r))] [0, 1, 4, 3, 2] rfl ?_
  refine gX5_lastChange_l hR hn hod bth bkn bgo et bt ek bk (by decide) (fun pv hv => ?_) n 0 _ _ (by omega) rfl rfl
  refine aw_iload_n 0 dX5_lastChange_77 rfl rfl ?_
  exact aw_iret rfl dX5_lastChange_78 (by decide) (by decide) ⟨by rw [hv], rfl⟩
theorem cm_ofQ {l : Launch} {G : xG} {y : MethodName} {cc : ByteArray} {nL : Nat} {ret : Option FieldType} {d mc ms : Nat} {av : List Value} {h : List va_E} {post : Option Value → List va_E → Prop} (hy : plainName y.cls = true) (hl : (lg_sl av).length ≤ nL) (lv : List (Nat × Value)) (hlv : lv_args 0 av = lv)
    (W0 : ∀ QF, QF = xQ G mc ms post → AW l G y cc nL ret (xR d mc ms) (fun _ _ => True) QF 0 0 0 lv [] h) : CM l G y cc nL ret d mc ms av h post := cm_of hy hl lv hlv (W0 _ rfl)
theorem ite_0 {P : Prop} [Decidable P] (h : (if P then (1 : Int32) else 0) = 0) : ¬ P := fun p => by rw [if_pos p] at h; exact absurd h (by decide)
theorem ite_1 {P : Prop} [Decidable P] (h : ¬ (if P then (1 : Int32) else 0) = 0) : P := Classical.byContradiction (fun p => h (if_neg p))
theorem ite_1e {P : Prop} [Decidable P] (h : (if P then (1 : Int32) else 0) = 1) : P := Classical.byContradiction (fun p => by rw [if_neg p] at h; exact absurd h (by decide))
theorem ite_0e {P : Prop} [Decidable P] (h : ¬ (if P then (1 : Int32) else 0) = 1) : ¬ P := fun p => h (if_pos p)
theorem nv_dm {x : Int32} {a : Nat} (h1 : x = nI a) (h0 : 0 < a) : x + Int32.ofInt (-1) = nI (a - 1) := by
  rw [h1]; have e : a = (a - 1) + 1 := by omega
  rw [e]; exact pk_m1 (a - 1)
theorem nv_shr {x z : Int32} {a i : Nat} (h1 : x = nI a) (h2 : z = nI i) (ha : a < 2 ^ 31) (hi : i < 31) : x >>> (z &&& 31) = nI (a / 2 ^ i) := by
  rw [h1, h2]; exact pk_shrN ha (nI i &&& 31) i (sh_n i (by omega))
theorem nv_or {x z : Int32} {a b : Nat} (h1 : x = nI a) (h2 : z = nI b) : x ||| z = nI (a ||| b) := by rw [h1, h2, nn_or]
theorem nv_and {x z : Int32} {a b : Nat} (h1 : x = nI a) (h2 : z = nI b) : x &&& z = nI (a &&& b) := by rw [h1, h2, nn_and]
theorem nv_xor {x z : Int32} {a b : Nat} (h1 : x = nI a) (h2 : z = nI b) : x ^^^ z = nI (a ^^^ b) := by
  rw [h1, h2]
  apply Int32.toBitVec_inj.mp
  show BitVec.ofNat 32 a ^^^ BitVec.ofNat 32 b = BitVec.ofNat 32 (a ^^^ b)
  apply BitVec.eq_of_getLsbD_eq
  intro i hi
  simp [hi]
abbrev aI (n : Nat) (f : Nat → Int32) : va_E := .inl (0, n, .inl f)
abbrev aZ (n : Nat) (f : Nat → Int32) : va_E := .inl (2, n, .inl f)
abbrev aL (n : Nat) (f : Nat → Int64) : va_E := .inl (1, n, .inr (.inl f))
abbrev aR (n : Nat) (f : Nat → Option Nat) : va_E := .inl (3, n, .inr (.inr (.inr (.inr f))))
abbrev oB (c : Nat) (fs : List Value) : va_E := .inr (c, fs)
abbrev lC (G : xG) (a b c d : Int32) : List Value := [.ref (G.1 + 2), .ref (G.1 + 3), .ref (G.1 + 4), .ref (G.1 + 5), .ref (G.1 + 6), .ref (G.1 + 7), .ref (G.1 + 8), .ref (G.1 + 9), .ref (G.1 + 10), .ref (G.1 + 11), .int a, .int b, .int c, .int d]
abbrev lR (G : xG) (r : Nat) (a b : Int32) : List Value := [.ref (G.1 + (r + 1)), .ref (G.1 + (r + 2)), .ref (G.1 + (r + 3)), .ref (G.1 + (r + 4)), .ref (G.1 + (r + 5)), .ref (G.1 + (r + 6)), .ref (G.1 + (r + 7)), .int a, .int b]
abbrev lH (G : xG) (a b c d : Int32) : List Value := [.ref (G.1 + 78), .int a, .int b, .int c, .int d]
abbrev lS (G : xG) (a : Int32) : List Value := [.ref (G.1 + 80), .ref (G.1 + 81), .ref (G.1 + 82), .ref (G.1 + 83), .int a]
abbrev lB (G : xG) (a : Int32) : List Value := [.ref (G.1 + 85), .ref (G.1 + 86), .int a]
set_option maxHeartbeats 4000000 in
theorem aX5_counts {l : Launch} {G : xG} {h : List va_E} {th ot dy so kn go od : Nat → Nat} {n : Nat} {wd : Int32} {r : Nat} {q t k : Nat} (hr : h[r]? = some (oB 5 (lR G r (nI n) wd))) (hr_1 : h[r + 1]? = some (aI 60 (nA th))) (hr_2 : h[r + 2]? = some (aI 60 (nA ot))) (hr_3 : h[r + 3]? = some (aI 60 (nA dy))) (hr_4 : h[r + 4]? = some (aI 60 (nA so))) (hr_5 : h[r + 5]? = some (aI 60 (nA kn))) (hr_6 : h[r + 6]? = some (aI 60 (nA go))) (hr_7 : h[r + 7]? = some (aI 60 (nA od))) (hn : n ≤ 60) (hod : srt dy od n) (bth : ∀ j, j < 60 → th j < 12) (bkn : ∀ j, j < 60 → kn j ≤ 80000) (bgo : ∀ j, j < 60 → go j ≤ 80001) (bq : q < 60) (bt : t < 12) (bk : k ≤ 80000) : CD l G yX5_counts cX5_counts 4 (some .boolean) 0 0 0 [.ref (G.1 + r), .int (nI q), .int (nI t), .int (nI k)] h (some (.int (if (th q = t ∧ kn q ≤ k ∧ k < go q) then 1 else 0))) h := by
  refine cm_ofQ rfl (Nat.le_of_ble_eq_true rfl) [(0, .ref (G.1 + r)), (1, .int (nI q)), (2, .int (nI t)), (3, .int (nI k))] rfl (fun QF hQF => ?_)
  refine aw_aload_n 0 dX5_counts_0 rfl rfl ?_
  refine aw_get fX5_9 dX5_counts_1 hr rfl ?_
  refine aw_iload_n 1 dX5_counts_4 rfl rfl ?_
  refine aw_iald q (rfl) (by omega) (by decide) dX5_counts_5 hr_1 ?_
  refine aw_toe (nI (th q)) (rfl) ?_
  have b1 := bth q (by omega)
  refine aw_iload_n 2 dX5_counts_6 rfl rfl ?_
  refine aw_icmp_ne 34 dX5_counts_7 (by decide) (fun c7 => ?_) (fun c7 => ?_)
  · have d7 := mt (nv_eq (a := th q) (b := t) (rfl) (rfl) (by omega) (by omega)).mpr c7
    refine aw_iconst (0) dX5_counts_34 (by decide) ?_
    subst hQF
    exact aw_zret rfl rfl dX5_counts_35 (by decide) (by decide) ⟨by rw [if_neg (by omega)], rfl⟩
  · have d7 := (nv_eq (a := th q) (b := t) (rfl) (rfl) (by omega) (by omega)).mp c7
    refine aw_aload_n 0 dX5_counts_10 rfl rfl ?_
    refine aw_get fX5_24 dX5_counts_11 hr rfl ?_
    refine aw_iload_n 1 dX5_counts_14 rfl rfl ?_
    refine aw_iald q (rfl) (by omega) (by decide) dX5_counts_15 hr_5 ?_
    refine aw_toe (nI (kn q)) (rfl) ?_
    have b2 := bkn q (by omega)
    refine aw_iload_n 3 dX5_counts_16 rfl rfl ?_
    refine aw_icmp_gt 34 dX5_counts_17 (by decide) (fun c17 => ?_) (fun c17 => ?_)
    · have d17 := (nv_lt (a := k) (b := kn q) (rfl) (rfl) (by omega) (by omega)).mp c17
      refine aw_iconst (0) dX5_counts_34 (by decide) ?_
      subst hQF
      exact aw_zret rfl rfl dX5_counts_35 (by decide) (by decide) ⟨by rw [if_neg (by omega)], rfl⟩
    · have d17 := mt (nv_lt (a := k) (b := kn q) (rfl) (rfl) (by omega) (by omega)).mpr c17
      refine aw_iload_n 3 dX5_counts_20 rfl rfl ?_
      refine aw_aload_n 0 dX5_counts_21 rfl rfl ?_
      refine aw_get fX5_27 dX5_counts_22 hr rfl ?_
      refine aw_iload_n 1 dX5_counts_25 rfl rfl ?_
      refine aw_iald q (rfl) (by omega) (by decide) dX5_counts_26 hr_6 ?_
      refine aw_toe (nI (go q)) (rfl) ?_
      have b3 := bgo q (by omega)
      refine aw_icmp_ge 34 dX5_counts_27 (by decide) (fun c27 => ?_) (fun c27 => ?_)
      · have d27 := (nv_le (a := go q) (b := k) (rfl) (rfl) (by omega) (by omega)).mp c27
        refine aw_iconst (0) dX5_counts_34 (by decide) ?_
        subst hQF
        exact aw_zret rfl rfl dX5_counts_35 (by decide) (by decide) ⟨by rw [if_neg (by omega)], rfl⟩
      · have d27 := mt (nv_le (a := go q) (b := k) (rfl) (rfl) (by omega) (by omega)).mpr c27
        refine aw_iconst (1) dX5_counts_30 (by decide) ?_
        refine aw_goto 35 dX5_counts_31 (by decide) ?_
        subst hQF
        exact aw_zret rfl rfl dX5_counts_35 (by decide) (by decide) ⟨by rw [if_pos (by omega)], rfl⟩
def qdF (th ot dy kn go od : Nat → Nat) (t k : Nat) : Nat → Nat × Int32 × Int32 × Int32
  | 0 => (0, -1, -1, 0)
  | a + 1 =>
    let q := od a
    let s := qdF th ot dy kn go od t k a
    if th q = t ∧ kn q ≤ k ∧ k < go q then
      (if nI (dy q) = s.2.1 then (if nI (ot q) = s.2.2.1 then s else if s.2.2.2 = 0 then (s.1 + 1, s.2.1, s.2.2.1, 1) else s) else (s.1, nI (dy q), nI (ot q), 0))
    else s
theorem qdF_le {th ot dy kn go od : Nat → Nat} {t k : Nat} : ∀ a, (qdF th ot dy kn go od t k a).1 ≤ a := by
  intro a
  induction a with
  | zero => exact Nat.le_refl _
  | succ a ih => simp only [qdF]; repeat' split
                 all_goals first | omega | (simp only []; omega)
set_option maxHeartbeats 4000000 in
theorem aX5_quarrelDays {l : Launch} {G : xG} {h : List va_E} {th ot dy so kn go od : Nat → Nat} {n : Nat} {wd : Int32} {r : Nat} {t k : Nat} (hr : h[r]? = some (oB 5 (lR G r (nI n) wd))) (hr_1 : h[r + 1]? = some (aI 60 (nA th))) (hr_2 : h[r + 2]? = some (aI 60 (nA ot))) (hr_3 : h[r + 3]? = some (aI 60 (nA dy))) (hr_4 : h[r + 4]? = some (aI 60 (nA so))) (hr_5 : h[r + 5]? = some (aI 60 (nA kn))) (hr_6 : h[r + 6]? = some (aI 60 (nA go))) (hr_7 : h[r + 7]? = some (aI 60 (nA od))) (hn : n ≤ 60) (hod : srt dy od n) (bth : ∀ j, j < 60 → th j < 12) (bkn : ∀ j, j < 60 → kn j ≤ 80000) (bgo : ∀ j, j < 60 → go j ≤ 80001) (bdy : ∀ j, j < 60 → dy j ≤ 80000) (bot : ∀ j, j < 60 → ot j < 8) (bt : t < 12) (bk : k ≤ 80000) : CD l G yX5_quarrelDays cX5_quarrelDays 9 (some .int) 1 0 0 [.ref (G.1 + r), .int (nI t), .int (nI k)] h (some (.int (nI (qdF th ot dy kn go od t k n).1))) h := by
  refine cm_ofQ rfl (Nat.le_of_ble_eq_true rfl) [(0, .ref (G.1 + r)), (1, .int (nI t)), (2, .int (nI k))] rfl (fun QF hQF => ?_)
  refine aw_iconst (0) dX5_quarrelDays_0 (by decide) ?_
  refine aw_istore_n [(3, .int 0), (0, .ref (G.1 + r)), (1, .int (nI t)), (2, .int (nI k))] dX5_quarrelDays_1 rfl (by decide) rfl ?_
  refine aw_iconst (-1) dX5_quarrelDays_2 (by decide) ?_
  refine aw_istore [(4, .int (-1)), (3, .int 0), (0, .ref (G.1 + r)), (1, .int (nI t)), (2, .int (nI k))] dX5_quarrelDays_3 (by decide) rfl ?_
  refine aw_iconst (-1) dX5_quarrelDays_5 (by decide) ?_
  refine aw_istore [(5, .int (-1)), (4, .int (-1)), (3, .int 0), (0, .ref (G.1 + r)), (1, .int (nI t)), (2, .int (nI k))] dX5_quarrelDays_6 (by decide) rfl ?_
  refine aw_iconst (0) dX5_quarrelDays_8 (by decide) ?_
  refine aw_istore [(6, .int 0), (5, .int (-1)), (4, .int (-1)), (3, .int 0), (0, .ref (G.1 + r)), (1, .int (nI t)), (2, .int (nI k))] dX5_quarrelDays_9 (by decide) rfl ?_
  refine aw_iconst (0) dX5_quarrelDays_11 (by decide) ?_
  refine aw_istore [(7, .int 0), (6, .int 0), (5, .int (-1)), (4, .int (-1)), (3, .int 0), (0, .ref (G.1 + r)), (1, .int (nI t)), (2, .int (nI k))] dX5_quarrelDays_12 (by decide) rfl ?_
  refine aw_lv [(7, .int 0), (6, .int 0), (5, .int (-1)), (4, .int (-1)), (3, .int 0), (2, .int (nI k)), (1, .int (nI t)), (0, .ref (G.1 + r))] [0, 1, 2, 3, 4, 7, 6, 5] rfl ?_
  suffices L4 : ∀ (mm : Nat) (i : Nat) (v3 : Nat) (v4 : Int32) (v5 : Int32) (v6 : Int32), n - i < mm → (i ≤ n) → ((v3, v4, v5, v6) = (qdF th ot dy kn go od t k i)) → AW l G yX5_quarrelDays cX5_quarrelDays 9 (some .int) (xR 1 0 0) (fun _ _ => True) QF 0 0 14 [(7, .int (nI i)), (6, .int v6), (5, .int v5), (4, .int v4), (3, .int (nI v3)), (2, .int (nI k)), (1, .int (nI t)), (0, .ref (G.1 + r))] [] h from L4 (n - 0 + 1) 0 0 (-1) (-1) 0 (Nat.lt_succ_self _) (Nat.zero_le _) (rfl)
  intro mm
  induction mm with
  | zero =>
    intro i v3 v4 v5 v6 hmm hi hq
    exact absurd hmm (Nat.not_lt_zero _)
  | succ mm ih4 =>
    intro i v3 v4 v5 v6 hmm hi hq
    have b3 : v3 ≤ i := by have q := qdF_le (th := th) (ot := ot) (dy := dy) (kn := kn) (go := go) (od := od) (t := t) (k := k) i; rw [← hq] at q; exact q
    refine aw_iload 0 dX5_quarrelDays_14 rfl ?_
    refine aw_aload_n 7 dX5_quarrelDays_16 rfl rfl ?_
    refine aw_get fX5_33 dX5_quarrelDays_17 hr rfl ?_
    refine aw_icmp_ge 108 dX5_quarrelDays_20 (by decide) (fun c20 => ?_) (fun c20 => ?_)
    · have d20 := (nv_le (a := n) (b := i) (rfl) (rfl) (by omega) (by omega)).mp c20
      refine aw_iload_n 4 dX5_quarrelDays_108 rfl rfl ?_
      subst hQF
      exact aw_iret rfl dX5_quarrelDays_109 (by decide) (by decide) ⟨by rw [show n = i by omega, ← hq], rfl⟩
    · have d20 := mt (nv_le (a := n) (b := i) (rfl) (rfl) (by omega) (by omega)).mpr c20
      refine aw_aload_n 7 dX5_quarrelDays_23 rfl rfl ?_
      refine aw_get fX5_30 dX5_quarrelDays_24 hr rfl ?_
      refine aw_iload 0 dX5_quarrelDays_27 rfl ?_
      refine aw_iald i (rfl) (by omega) (by decide) dX5_quarrelDays_29 hr_7 ?_
      refine aw_toe (nI (od i)) (rfl) ?_
      have b5 := hod.1 i (by omega)
      refine aw_istore [(8, .int (nI (od i))), (7, .int (nI i)), (6, .int v6), (5, .int v5), (4, .int v4), (3, .int (nI v3)), (2, .int (nI k)), (1, .int (nI t)), (0, .ref (G.1 + r))] dX5_quarrelDays_30 (by decide) rfl ?_
      refine aw_aload_n 8 dX5_quarrelDays_32 rfl rfl ?_
      refine aw_iload 0 dX5_quarrelDays_33 rfl ?_
      refine aw_iload_n 7 dX5_quarrelDays_35 rfl rfl ?_
      refine aw_iload_n 6 dX5_quarrelDays_36 rfl rfl ?_
      refine aw_dV [.int (nI (od i)), .int (nI t), .int (nI k)] [] lX5_41 vX5_counts mX5_counts dX5_quarrelDays_37 (aX5_counts (th := th) (ot := ot) (dy := dy) (so := so) (kn := kn) (go := go) (od := od) (n := n) (wd := wd) (r := r) (q := od i) (t := t) (k := k) hr hr_1 hr_2 hr_3 hr_4 hr_5 hr_6 hr_7 (by omega) hod bth bkn bgo (by omega) (by omega) (by omega)) hr rfl rfl rfl (Nat.le_of_ble_eq_true rfl) (by decide) (by decide) rfl ?_
      refine aw_if_eq 102 dX5_quarrelDays_40 (by decide) (fun c40 => ?_) (fun c40 => ?_)
      · have t40 := ite_0 c40
        refine aw_iinc (j := 1) (nI (i + 1)) [(7, .int (nI (i + 1))), (8, .int (nI (od i))), (6, .int v6), (5, .int v5), (4, .int v4), (3, .int (nI v3)), (2, .int (nI k)), (1, .int (nI t)), (0, .ref (G.1 + r))] dX5_quarrelDays_102 rfl (nv_inc (rfl)) (by decide) rfl ?_
        refine aw_goto 14 dX5_quarrelDays_105 (by decide) ?_
        refine aw_lv [(7, .int (nI (i + 1))), (6, .int v6), (5, .int v5), (4, .int v4), (3, .int (nI v3)), (2, .int (nI k)), (1, .int (nI t)), (0, .ref (G.1 + r))] [0, 2, 3, 4, 5, 6, 7, 8] rfl ?_
        exact ih4 (i + 1) v3 v4 v5 v6 (by omega) (by omega) (by simp only [qdF]; rw [← hq]; simp only [if_neg t40])
      · have t40 := ite_1 c40
        refine aw_aload_n 8 dX5_quarrelDays_43 rfl rfl ?_
        refine aw_get fX5_18 dX5_quarrelDays_44 hr rfl ?_
        refine aw_iload 0 dX5_quarrelDays_47 rfl ?_
        refine aw_iald (od i) (rfl) (by omega) (by decide) dX5_quarrelDays_49 hr_3 ?_
        refine aw_toe (nI (dy (od i))) (rfl) ?_
        refine aw_iload 4 dX5_quarrelDays_50 rfl ?_
        refine aw_icmp_eq 79 dX5_quarrelDays_52 (by decide) (fun c52 => ?_) (fun c52 => ?_)
        · refine aw_aload_n 8 dX5_quarrelDays_79 rfl rfl ?_
          refine aw_get fX5_15 dX5_quarrelDays_80 hr rfl ?_
          refine aw_iload 0 dX5_quarrelDays_83 rfl ?_
          refine aw_iald (od i) (rfl) (by omega) (by decide) dX5_quarrelDays_85 hr_2 ?_
          refine aw_toe (nI (ot (od i))) (rfl) ?_
          refine aw_iload 3 dX5_quarrelDays_86 rfl ?_
          refine aw_icmp_eq 102 dX5_quarrelDays_88 (by decide) (fun c88 => ?_) (fun c88 => ?_)
          · refine aw_iinc (j := 1) (nI (i + 1)) [(7, .int (nI (i + 1))), (8, .int (nI (od i))), (6, .int v6), (5, .int v5), (4, .int v4), (3, .int (nI v3)), (2, .int (nI k)), (1, .int (nI t)), (0, .ref (G.1 + r))] dX5_quarrelDays_102 rfl (nv_inc (rfl)) (by decide) rfl ?_
            refine aw_goto 14 dX5_quarrelDays_105 (by decide) ?_
            refine aw_lv [(7, .int (nI (i + 1))), (6, .int v6), (5, .int v5), (4, .int v4), (3, .int (nI v3)), (2, .int (nI k)), (1, .int (nI t)), (0, .ref (G.1 + r))] [0, 2, 3, 4, 5, 6, 7, 8] rfl ?_
            exact ih4 (i + 1) v3 v4 v5 v6 (by omega) (by omega) (by simp only [qdF]; rw [← hq]; simp only [if_pos t40, if_pos c52, if_pos c88])
          · refine aw_iload 2 dX5_quarrelDays_91 rfl ?_
            refine aw_if_ne 102 dX5_quarrelDays_93 (by decide) (fun c93 => ?_) (fun c93 => ?_)
            · refine aw_iinc (j := 1) (nI (i + 1)) [(7, .int (nI (i + 1))), (8, .int (nI (od i))), (6, .int v6), (5, .int v5), (4, .int v4), (3, .int (nI v3)), (2, .int (nI k)), (1, .int (nI t)), (0, .ref (G.1 + r))] dX5_quarrelDays_102 rfl (nv_inc (rfl)) (by decide) rfl ?_
              refine aw_goto 14 dX5_quarrelDays_105 (by decide) ?_
              refine aw_lv [(7, .int (nI (i + 1))), (6, .int v6), (5, .int v5), (4, .int v4), (3, .int (nI v3)), (2, .int (nI k)), (1, .int (nI t)), (0, .ref (G.1 + r))] [0, 2, 3, 4, 5, 6, 7, 8] rfl ?_
              exact ih4 (i + 1) v3 v4 v5 v6 (by omega) (by omega) (by simp only [qdF]; rw [← hq]; simp only [if_pos t40, if_pos c52, if_neg c88, if_neg c93])
            · refine aw_iconst (1) dX5_quarrelDays_96 (by decide) ?_
              refine aw_istore [(6, .int 1), (8, .int (nI (od i))), (7, .int (nI i)), (5, .int v5), (4, .int v4), (3, .int (nI v3)), (2, .int (nI k)), (1, .int (nI t)), (0, .ref (G.1 + r))] dX5_quarrelDays_97 (by decide) rfl ?_
              refine aw_iinc (j := 5) (nI (v3 + 1)) [(3, .int (nI (v3 + 1))), (6, .int 1), (8, .int (nI (od i))), (7, .int (nI i)), (5, .int v5), (4, .int v4), (2, .int (nI k)), (1, .int (nI t)), (0, .ref (G.1 + r))] dX5_quarrelDays_99 rfl (nv_inc (rfl)) (by decide) rfl ?_
              refine aw_iinc (j := 3) (nI (i + 1)) [(7, .int (nI (i + 1))), (3, .int (nI (v3 + 1))), (6, .int 1), (8, .int (nI (od i))), (5, .int v5), (4, .int v4), (2, .int (nI k)), (1, .int (nI t)), (0, .ref (G.1 + r))] dX5_quarrelDays_102 rfl (nv_inc (rfl)) (by decide) rfl ?_
              refine aw_goto 14 dX5_quarrelDays_105 (by decide) ?_
              refine aw_lv [(7, .int (nI (i + 1))), (6, .int 1), (5, .int v5), (4, .int v4), (3, .int (nI (v3 + 1))), (2, .int (nI k)), (1, .int (nI t)), (0, .ref (G.1 + r))] [0, 2, 4, 5, 1, 6, 7, 8] rfl ?_
              exact ih4 (i + 1) (v3 + 1) v4 v5 1 (by omega) (by omega) (by simp only [qdF]; rw [← hq]; simp only [if_pos t40, if_pos c52, if_neg c88, if_pos c93])
        · refine aw_aload_n 8 dX5_quarrelDays_55 rfl rfl ?_
          refine aw_get fX5_18 dX5_quarrelDays_56 hr rfl ?_
          refine aw_iload 0 dX5_quarrelDays_59 rfl ?_
          refine aw_iald (od i) (rfl) (by omega) (by decide) dX5_quarrelDays_61 hr_3 ?_
          refine aw_toe (nI (dy (od i))) (rfl) ?_
          refine aw_istore [(4, .int (nI (dy (od i)))), (8, .int (nI (od i))), (7, .int (nI i)), (6, .int v6), (5, .int v5), (3, .int (nI v3)), (2, .int (nI k)), (1, .int (nI t)), (0, .ref (G.1 + r))] dX5_quarrelDays_62 (by decide) rfl ?_
          refine aw_aload_n 8 dX5_quarrelDays_64 rfl rfl ?_
          refine aw_get fX5_15 dX5_quarrelDays_65 hr rfl ?_
          refine aw_iload 1 dX5_quarrelDays_68 rfl ?_
          refine aw_iald (od i) (rfl) (by omega) (by decide) dX5_quarrelDays_70 hr_2 ?_
          refine aw_toe (nI (ot (od i))) (rfl) ?_
          refine aw_istore [(5, .int (nI (ot (od i)))), (4, .int (nI (dy (od i)))), (8, .int (nI (od i))), (7, .int (nI i)), (6, .int v6), (3, .int (nI v3)), (2, .int (nI k)), (1, .int (nI t)), (0, .ref (G.1 + r))] dX5_quarrelDays_71 (by decide) rfl ?_
          refine aw_iconst (0) dX5_quarrelDays_73 (by decide) ?_
          refine aw_istore [(6, .int 0), (5, .int (nI (ot (od i)))), (4, .int (nI (dy (od i)))), (8, .int (nI (od i))), (7, .int (nI i)), (3, .int (nI v3)), (2, .int (nI k)), (1, .int (nI t)), (0, .ref (G.1 + r))] dX5_quarrelDays_74 (by decide) rfl ?_
          refine aw_goto 102 dX5_quarrelDays_76 (by decide) ?_
          refine aw_iinc (j := 4) (nI (i + 1)) [(7, .int (nI (i + 1))), (6, .int 0), (5, .int (nI (ot (od i)))), (4, .int (nI (dy (od i)))), (8, .int (nI (od i))), (3, .int (nI v3)), (2, .int (nI k)), (1, .int (nI t)), (0, .ref (G.1 + r))] dX5_quarrelDays_102 rfl (nv_inc (rfl)) (by decide) rfl ?_
          refine aw_goto 14 dX5_quarrelDays_105 (by decide) ?_
          refine aw_lv [(7, .int (nI (i + 1))), (6, .int 0), (5, .int (nI (ot (od i)))), (4, .int (nI (dy (od i)))), (3, .int (nI v3)), (2, .int (nI k)), (1, .int (nI t)), (0, .ref (G.1 + r))] [0, 1, 2, 3, 5, 6, 7, 8] rfl ?_
          exact ih4 (i + 1) v3 (nI (dy (od i))) (nI (ot (od i))) 0 (by omega) (by omega) (by simp only [qdF]; rw [← hq]; simp only [if_pos t40, if_neg c52])
