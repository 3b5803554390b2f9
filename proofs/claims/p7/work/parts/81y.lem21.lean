/-- is a number a way: its digits, from the last one on -/
def wyG : Nat → Nat → Nat → Bool
  | 0, _, _ => true
  | f + 1, se, v => if v = 0 then true else if (1 ≤ v % 10 ∧ v % 10 ≤ 4) ∧ ¬ se.testBit (v % 10 - 1) = true then wyG f (se ||| 2 ^ (v % 10 - 1)) (v / 10) else false
def wyF (a : Nat) (y : Int32) : Bool := decide (1 ≤ y.toInt ∧ y.toInt ≤ 999) && wyG 3 (2 ^ a) (tn y)
theorem wyG_0 {f se : Nat} : wyG f se 0 = true := by cases f <;> simp [wyG]
theorem wyG_y {f se v : Nat} (h0 : ¬ v = 0) (hd : 1 ≤ v % 10 ∧ v % 10 ≤ 4) (hb : ¬ se.testBit (v % 10 - 1) = true) : wyG (f + 1) se v = wyG f (se ||| 2 ^ (v % 10 - 1)) (v / 10) := by
  simp only [wyG]; rw [if_neg h0, if_pos ⟨hd, hb⟩]
theorem wyG_n {f se v : Nat} (h0 : ¬ v = 0) (h : ¬ ((1 ≤ v % 10 ∧ v % 10 ≤ 4) ∧ ¬ se.testBit (v % 10 - 1) = true)) : wyG (f + 1) se v = false := by
  simp only [wyG]; rw [if_neg h0, if_neg h]
theorem wy_dig0 : ∀ a, a < 4 → ∀ y, y < 1000 → (y = 0 ∨ wyG 3 (2 ^ a) y = false ∨ (1 ≤ y % 10 ∧ y % 10 ≤ 4 ∧ y / 10 % 10 ≤ 4 ∧ y / 100 % 10 ≤ 4)) := by decide +kernel
theorem wy_dig {a y : Nat} (ha : a < 4) (hy : y < 1000) (h0 : y ≠ 0) (h : wyG 3 (2 ^ a) y = true) : 1 ≤ y % 10 ∧ y % 10 ≤ 4 ∧ y / 10 % 10 ≤ 4 ∧ y / 100 % 10 ≤ 4 := by
  rcases wy_dig0 a ha y hy with q | q | q
  · exact absurd q h0
  · rw [h] at q; exact absurd q (by decide)
  · exact q
