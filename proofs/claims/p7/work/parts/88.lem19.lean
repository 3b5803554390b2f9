/-- the trust of the visitors' words of a shelf -/
def toB (st : Nat) (so xx yy : Nat → Nat) (k : Nat) : Bool := decide (st.testBit (xx k) = true ∧ (2 ≤ so k ∨ st.testBit (yy k) = true))
def toF (st : Nat) (so xx yy tr : Nat → Nat) : Nat → Nat
  | 0 => 0
  | k + 1 => toF st so xx yy tr k + (if toB st so xx yy k = true then tr k else 0)
theorem toF_le {st : Nat} {so xx yy tr : Nat → Nat} (ht : ∀ j, j < 40 → tr j ≤ 9) : ∀ k, k ≤ 40 → toF st so xx yy tr k ≤ 9 * k := by
  intro k
  induction k with
  | zero => intro _; exact Nat.le_refl _
  | succ k ih =>
    intro h
    have a := ih (by omega)
    have b := ht k (by omega)
    simp only [toF]
    split <;> omega
theorem toF_y {st : Nat} {so xx yy tr : Nat → Nat} {k w : Nat} (hw : w = toF st so xx yy tr k) (h : st.testBit (xx k) = true ∧ (2 ≤ so k ∨ st.testBit (yy k) = true)) : w + tr k = toF st so xx yy tr (k + 1) := by
  simp only [toF]; rw [if_pos (by unfold toB; exact decide_eq_true h), hw]
theorem toF_n {st : Nat} {so xx yy tr : Nat → Nat} {k w : Nat} (hw : w = toF st so xx yy tr k) (h : ¬ (st.testBit (xx k) = true ∧ (2 ≤ so k ∨ st.testBit (yy k) = true))) : w = toF st so xx yy tr (k + 1) := by
  simp only [toF]; rw [if_neg (by unfold toB; exact fun q => h (of_decide_eq_true q)), hw]; omega
/-- is a beast a fake, as the reference looks -/
def fkI (kd fo : Nat → Nat) (b p : Nat) : Nat → Bool
  | 0 => false
  | q + 1 => fkI kd fo b p q || decide (b.testBit p = true ∧ b.testBit q = true ∧ (fo (kd p)).testBit (kd q) = true)
def fkO (kd fo : Nat → Nat) (b : Nat) : Nat → Bool
  | 0 => false
  | p + 1 => fkO kd fo b p || fkI kd fo b p p
theorem fkI_t {kd fo : Nat → Nat} {b p q : Nat} (h : (fkO kd fo b p || fkI kd fo b p q) = true ∨ (b.testBit p = true ∧ b.testBit q = true ∧ (fo (kd p)).testBit (kd q) = true)) : (1 : Int32) = if (fkO kd fo b p || fkI kd fo b p (q + 1)) = true then 1 else 0 := by
  rw [if_pos]
  simp only [fkI, Bool.or_eq_true, decide_eq_true_eq] at *
  rcases h with (h | h) | h
  · exact Or.inl h
  · exact Or.inr (Or.inl h)
  · exact Or.inr (Or.inr h)
theorem fkI_f {kd fo : Nat → Nat} {b p q : Nat} (h : ¬ (fkO kd fo b p || fkI kd fo b p q) = true) (h2 : ¬ (b.testBit p = true ∧ b.testBit q = true ∧ (fo (kd p)).testBit (kd q) = true)) : (0 : Int32) = if (fkO kd fo b p || fkI kd fo b p (q + 1)) = true then 1 else 0 := by
  rw [if_neg]
  simp only [fkI, Bool.or_eq_true, decide_eq_true_eq] at *
  rintro (q1 | q1 | q1)
  · exact h (Or.inl q1)
  · exact h (Or.inr q1)
  · exact h2 q1
/-- the least set without which a beast is no fake, as the reference looks -/
def lmF (kd fo : Nat → Nat) (b : Nat) : Nat → Nat
  | 0 => b
  | s + 1 => if s &&& (1023 ^^^ b) = 0 ∧ pcF 20 s < pcF 20 (lmF kd fo b s) ∧ ¬ fkO kd fo (b &&& (1023 ^^^ s)) 10 = true then s else lmF kd fo b s
theorem lmF_lt {kd fo : Nat → Nat} {b : Nat} (hb : b < 1024) : ∀ s, s ≤ 1024 → lmF kd fo b s < 1024 := by
  intro s
  induction s with
  | zero => intro _; exact hb
  | succ s ih =>
    intro h
    simp only [lmF]
    split
    · omega
    · exact ih (by omega)
