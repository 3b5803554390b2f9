/-- is a bar among the first told, as the reference looks -/
def brF (b1 b2 : Nat → Nat) (x y : Nat) : Nat → Bool
  | 0 => false
  | k + 1 => brF b1 b2 x y k || decide ((b1 k = x ∧ b2 k = y) ∨ (b1 k = y ∧ b2 k = x))
theorem brF_t {b1 b2 : Nat → Nat} {x y k : Nat} (h : brF b1 b2 x y k = true ∨ ((b1 k = x ∧ b2 k = y) ∨ (b1 k = y ∧ b2 k = x))) : (1 : Int32) = if brF b1 b2 x y (k + 1) = true then 1 else 0 := by
  rw [if_pos]
  simp only [brF, Bool.or_eq_true, decide_eq_true_eq]
  exact h
theorem brF_f {b1 b2 : Nat → Nat} {x y k : Nat} (h : ¬ brF b1 b2 x y k = true) (h2 : ¬ ((b1 k = x ∧ b2 k = y) ∨ (b1 k = y ∧ b2 k = x))) : (0 : Int32) = if brF b1 b2 x y (k + 1) = true then 1 else 0 := by
  rw [if_neg]
  simp only [brF, Bool.or_eq_true, decide_eq_true_eq]
  exact fun q => q.elim h h2
/-- how many bits -/
def pcF : Nat → Nat → Nat
  | 0, _ => 0
  | f + 1, x => x % 2 + pcF f (x / 2)
theorem pcF_le : ∀ f x, pcF f x ≤ f
  | 0, _ => Nat.le_refl _
  | f + 1, x => by have := pcF_le f (x / 2); simp only [pcF]; omega
theorem and_even {a b : Nat} : (2 * a) &&& (2 * b + 1) = 2 * (a &&& b) := by
  apply Nat.eq_of_testBit_eq
  intro i
  cases i with
  | zero => simp [Nat.testBit_and, Nat.testBit_zero]
  | succ i =>
    rw [Nat.testBit_and, Nat.testBit_succ, Nat.testBit_succ, Nat.testBit_succ, show 2 * a / 2 = a by omega, show (2 * b + 1) / 2 = b by omega, show 2 * (a &&& b) / 2 = a &&& b by omega, Nat.testBit_and]
theorem and_odd {a : Nat} : (2 * a + 1) &&& (2 * a) = 2 * a := by
  apply Nat.eq_of_testBit_eq
  intro i
  cases i with
  | zero => simp [Nat.testBit_and, Nat.testBit_zero]
  | succ i =>
    rw [Nat.testBit_and, Nat.testBit_succ, Nat.testBit_succ, show 2 * a / 2 = a by omega, show (2 * a + 1) / 2 = a by omega]
    simp
theorem pcF_st : ∀ f x, x < 2 ^ f → x ≠ 0 → pcF f (x &&& (x - 1)) + 1 = pcF f x
  | 0, x => by intro h h0; simp at h; omega
  | f + 1, x => by
    intro h h0
    rw [Nat.pow_succ] at h
    rcases Nat.mod_two_eq_zero_or_one x with e | e
    · have ih := pcF_st f (x / 2) (by omega) (by omega)
      have e1 : x &&& (x - 1) = 2 * (x / 2 &&& (x / 2 - 1)) := by
        rw [← and_even]
        congr 1 <;> omega
      simp only [pcF]
      rw [e1, show 2 * (x / 2 &&& (x / 2 - 1)) % 2 = 0 by omega, show 2 * (x / 2 &&& (x / 2 - 1)) / 2 = x / 2 &&& (x / 2 - 1) by omega]
      omega
    · have e1 : x &&& (x - 1) = 2 * (x / 2) := by
        conv => rhs; rw [← and_odd]
        congr 1 <;> omega
      simp only [pcF]
      rw [e1, show 2 * (x / 2) % 2 = 0 by omega, show 2 * (x / 2) / 2 = x / 2 by omega]
      omega
theorem pcF_0 : ∀ f, pcF f 0 = 0
  | 0 => rfl
  | f + 1 => by simp only [pcF]; rw [show 0 / 2 = 0 from rfl, pcF_0 f]
theorem an_0 {z : Int32} (h : ¬ z &&& 1 = 1) : z &&& 1 = 0 := by
  obtain ⟨j, hj, e⟩ := pk_andE z (m := 1) 1 rfl
  have hj2 : j < 2 := hj
  rcases (by omega : j = 0 ∨ j = 1) with q | q
  · subst q; exact e
  · subst q; exact absurd e h
theorem an_1 {z : Int32} (h : z &&& 1 = 1) : ¬ z &&& 1 = 0 := by rw [h]; decide
/-- the senses are a small number -/
theorem snF_nat {se : Nat → Nat} {x : Int32} (hs : ∀ j, j < 20 → se j < 20) : ∀ k, k ≤ 20 → ∃ n, n < 1048576 ∧ snF se x k = nI n := by
  intro k
  induction k with
  | zero => intro _; exact ⟨0, by decide, rfl⟩
  | succ k ih =>
    intro hk
    obtain ⟨n, hn, e⟩ := ih (by omega)
    by_cases h : (x >>> (nI k &&& 31)) &&& 1 = 0
    · exact ⟨n, hn, by rw [snF_0 h, e]⟩
    · have b := hs k (by omega)
      refine ⟨n ||| 2 ^ se k, ?_, by rw [snF_1 h, e, sh_1 _ (by omega), nn_or]⟩
      exact Nat.or_lt_two_pow (n := 20) hn (Nat.pow_lt_pow_right (by decide) b)
theorem rootlt {m : Nat → Nat} : ∀ j, j < 20 → root m j < 20 := fun j hj => Nat.lt_of_le_of_lt (root_le m j) hj
theorem nv_shl10 {x : Int32} {i : Nat} (h : x = nI i) (hi : i < 2048) : x <<< ((10 : Int32) &&& 31) = nI (i * 1024) := by
  subst h
  apply Int32.toBitVec_inj.mp
  show (nI i <<< ((10 : Int32) &&& 31)).toBitVec = BitVec.ofNat 32 (i * 1024)
  rw [Int32.toBitVec_shiftLeft]
  rw [show ((10 : Int32) &&& 31).toBitVec.smod 32 = 10#32 from by decide]
  show BitVec.ofNat 32 i <<< 10#32 = BitVec.ofNat 32 (i * 1024)
  apply BitVec.eq_of_toNat_eq
  rw [BitVec.shiftLeft_eq', BitVec.toNat_shiftLeft, BitVec.toNat_ofNat, BitVec.toNat_ofNat, BitVec.toNat_ofNat, Nat.shiftLeft_eq]
  rw [show (2 : Nat) ^ (10 % 2 ^ 32) = 1024 from by decide]
  omega
/-- the answer to a bar -/
def spBarA (fi : Nat → Nat) (nb : Nat) (told : Prop) [Decidable told] (a i b k : Int32) : Int32 :=
  if ((0 ≤ a.toInt ∧ a.toInt < 4) ∧ 0 ≤ i.toInt ∧ i.toInt < (fi (tn a) : Int)) ∧ ((0 ≤ b.toInt ∧ b.toInt < 4) ∧ 0 ≤ k.toInt ∧ k.toInt < (fi (tn b) : Int)) ∧ a.toInt ≠ b.toInt then (if told then 0 else if 30 ≤ nb then -6 else 1) else -1
