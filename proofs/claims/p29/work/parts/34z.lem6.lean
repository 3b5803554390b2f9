theorem upz (i : Nat) : upd (fun _ => 0) i 0 = (fun _ => 0) := by
  funext j
  by_cases h : j = i <;> simp [upd, h]
theorem sh_n : ∀ n, n < 32 → ((nI n &&& 31).toBitVec.smod 32).toNat = n := by decide +kernel
theorem sh_1 : ∀ n, n < 31 → (1 : Int32) <<< (nI n &&& 31) = nI (2 ^ n) := by decide +kernel
theorem nn_or (a b : Nat) : nI a ||| nI b = nI (a ||| b) := by
  apply Int32.toBitVec_inj.mp
  show BitVec.ofNat 32 a ||| BitVec.ofNat 32 b = BitVec.ofNat 32 (a ||| b)
  apply BitVec.eq_of_getLsbD_eq
  intro i hi
  simp [hi]
theorem nv_or1 {x z : Int32} {a b : Nat} (h1 : x = nI a) (h2 : z = nI b) (hb : b < 31) : x ||| ((1 : Int32) <<< (z &&& 31)) = nI (a ||| 2 ^ b) := by
  rw [h1, h2, sh_1 b hb, nn_or]
theorem nv_shl1 {z : Int32} {b : Nat} (h2 : z = nI b) (hb : b < 31) : (1 : Int32) <<< (z &&& 31) = nI (2 ^ b) := by rw [h2, sh_1 b hb]
theorem or_lt8 {a b : Nat} (ha : a < 256) (hb : b < 8) : a ||| 2 ^ b < 256 := Nat.or_lt_two_pow (n := 8) ha (Nat.pow_lt_pow_right (by decide) hb)
/-- a bit of a number -/
theorem nv_bit {x z : Int32} {a i : Nat} (h1 : x = nI a) (h2 : z = nI i) (ha : a < 2 ^ 31) (hi : i < 31) : (x >>> (z &&& 31)) &&& 1 = if a.testBit i then 1 else 0 := by
  rw [h1, h2, pk_shrN ha (nI i &&& 31) i (sh_n i (by omega)), pk_andN (n := a / 2 ^ i) (by have := Nat.div_le_self a (2 ^ i); omega) (m := 1) 1 rfl, Nat.testBit_eq_decide_div_mod_eq]
  rcases Nat.mod_two_eq_zero_or_one (a / 2 ^ i) with q | q
  · have e : a / 2 ^ i % 2 ^ 1 = 0 := q
    rw [e]; simp [q]; rfl
  · have e : a / 2 ^ i % 2 ^ 1 = 1 := q
    rw [e]; simp [q]; rfl
theorem nv_bt {x z : Int32} {a i : Nat} (h1 : x = nI a) (h2 : z = nI i) (ha : a < 2 ^ 31) (hi : i < 31) (hb : a.testBit i = true) : (x >>> (z &&& 31)) &&& 1 = 1 := by rw [nv_bit h1 h2 ha hi, hb]; rfl
theorem nv_bf {x z : Int32} {a i : Nat} (h1 : x = nI a) (h2 : z = nI i) (ha : a < 2 ^ 31) (hi : i < 31) (hb : a.testBit i = false) : (x >>> (z &&& 31)) &&& 1 = 0 := by rw [nv_bit h1 h2 ha hi, hb]; rfl
def thL (s t : Nat) : List Nat := (List.range t).filter (fun i => s.testBit i)
def thF (s t : Nat) : Nat → Int32 := fun j => nI ((thL s t).getD j 0)
theorem popL (s : Nat) : popN s = (thL s 12).length := rfl
theorem thL_t {s t : Nat} (h : s.testBit t = true) : thL s (t + 1) = thL s t ++ [t] := by simp [thL, List.range_succ, List.filter_append, h]
theorem thL_f {s t : Nat} (h : s.testBit t = false) : thL s (t + 1) = thL s t := by simp [thL, List.range_succ, List.filter_append, h]
theorem thL_le (s t : Nat) : ∀ d, (thL s t).length ≤ (thL s (t + d)).length
  | 0 => Nat.le_refl _
  | d + 1 => by
    refine Nat.le_trans (thL_le s t d) ?_
    rw [show t + (d + 1) = (t + d) + 1 by omega]
    cases h : s.testBit (t + d)
    · rw [thL_f h]; exact Nat.le_refl _
    · rw [thL_t h]; simp
theorem thL_lt {s t : Nat} (h : s.testBit t = true) (ht : t < 12) : (thL s t).length < (thL s 12).length := by
  have q := thL_le s (t + 1) (12 - (t + 1))
  rw [show t + 1 + (12 - (t + 1)) = 12 by omega, thL_t h] at q
  simp at q
  omega
theorem thF_0 (s : Nat) : thF s 0 = (fun _ => 0) := by funext j; rfl
theorem thF_t {s t : Nat} (h : s.testBit t = true) : upd (thF s t) (thL s t).length (nI t) = thF s (t + 1) := by
  funext j
  simp only [upd, thF, thL_t h]
  by_cases h1 : j = (thL s t).length
  · subst h1; simp [List.getD_eq_getElem?_getD]
  · by_cases h2 : j < (thL s t).length
    · simp [h1, List.getD_eq_getElem?_getD, List.getElem?_append_left h2]
    · simp only [if_neg h1, List.getD_eq_getElem?_getD]
      rw [List.getElem?_eq_none (by omega), List.getElem?_eq_none (by simp; omega)]
theorem thF_f {s t : Nat} (h : s.testBit t = false) : thF s (t + 1) = thF s t := by unfold thF; rw [thL_f h]
def tkF (f : Nat → Int32) (p : Nat) : Nat → Int32 := fun j => if j < p then f j else 0
theorem tkF_0 (f : Nat → Int32) : tkF f 0 = (fun _ => 0) := by funext j; simp [tkF]
theorem tkF_s (f : Nat → Int32) (p : Nat) : upd (tkF f p) p (f p) = tkF f (p + 1) := by
  funext j
  simp only [upd, tkF]
  by_cases h1 : j = p
  · subst h1; simp
  · by_cases h2 : j < p
    · simp [h1, h2, Nat.lt_succ_of_lt h2]
    · simp [h1, h2, show ¬ j < p + 1 by omega]
theorem pw_or : ∀ p, p < 12 → (2 ^ p - 1) ||| 2 ^ p = 2 ^ (p + 1) - 1 := by decide
theorem pw_lt : ∀ p, p < 9 → 2 ^ p - 1 < 256 := by decide
theorem pw_b {p i : Nat} : (2 ^ p - 1).testBit i = decide (i < p) := Nat.testBit_two_pow_sub_one p i
