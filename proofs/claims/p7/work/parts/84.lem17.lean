/-- the things of a shelf, as the reference reads them: how many, which -/
def rdF (st : Nat) (tg : Nat → Nat) : Nat → Nat × (Nat → Nat)
  | 0 => (0, tg)
  | t + 1 => if st.testBit t = true then ((rdF st tg t).1 + 1, un (rdF st tg t).2 (rdF st tg t).1 t) else rdF st tg t
theorem rdF_len {st : Nat} {tg : Nat → Nat} : ∀ t, (rdF st tg t).1 = (thL st t).length := by
  intro t
  induction t with
  | zero => rfl
  | succ t ih =>
    simp only [rdF]
    cases h : st.testBit t
    · rw [if_neg (by simp), thL_f h, ih]
    · rw [if_pos rfl, thL_t h]; simp [ih]
theorem rdF_b {st : Nat} {tg : Nat → Nat} (ht : ∀ j, j < 8 → tg j < 12) : ∀ t, t ≤ 12 → ∀ j, j < 8 → (rdF st tg t).2 j < 12 := by
  intro t
  induction t with
  | zero => intro _; exact ht
  | succ t ih =>
    intro h
    simp only [rdF]
    split
    · exact un_lt (ih (by omega)) (by omega)
    · exact ih (by omega)
/-- does a thing stand already -/
def sdF (tg : Nat → Nat) (p t : Nat) : Nat → Bool
  | 0 => false
  | k + 1 => sdF tg p t k || decide (p.testBit k = true ∧ tg k = t)
theorem sdF_t {tg : Nat → Nat} {p t k : Nat} (h : sdF tg p t k = true ∨ (p.testBit k = true ∧ tg k = t)) : (1 : Int32) = if sdF tg p t (k + 1) = true then 1 else 0 := by
  rw [if_pos]
  simp only [sdF, Bool.or_eq_true, decide_eq_true_eq]
  exact h
theorem sdF_f {tg : Nat → Nat} {p t k : Nat} (h : ¬ sdF tg p t k = true) (h2 : ¬ (p.testBit k = true ∧ tg k = t)) : (0 : Int32) = if sdF tg p t (k + 1) = true then 1 else 0 := by
  rw [if_neg]
  simp only [sdF, Bool.or_eq_true, decide_eq_true_eq]
  exact fun q => q.elim h h2
/-- does a visitor's word hold that the next thing decides (L: the last one's place, and one more) -/
def wnC (st : Nat) (so xx yy tg : Nat → Nat) (sh p L nx k : Nat) : Prop :=
  st.testBit (xx k) = true ∧ (2 ≤ so k ∨ st.testBit (yy k) = true) ∧
    ((so k = 0 ∧ yy k = tg nx ∧ sdF tg p (xx k) sh = true) ∨ (so k = 1 ∧ 0 < L ∧ ((xx k = tg nx ∧ yy k = tg (L - 1)) ∨ (yy k = tg nx ∧ xx k = tg (L - 1)))) ∨ (so k = 2 ∧ xx k = tg nx ∧ p = 0) ∨ (so k = 3 ∧ xx k = tg nx ∧ p ||| 2 ^ nx = 2 ^ sh - 1))
def wnB (st : Nat) (so xx yy tg : Nat → Nat) (sh p L nx k : Nat) : Bool := decide (st.testBit (xx k) = true ∧ (2 ≤ so k ∨ st.testBit (yy k) = true) ∧
    ((so k = 0 ∧ yy k = tg nx ∧ sdF tg p (xx k) sh = true) ∨ (so k = 1 ∧ 0 < L ∧ ((xx k = tg nx ∧ yy k = tg (L - 1)) ∨ (yy k = tg nx ∧ xx k = tg (L - 1)))) ∨ (so k = 2 ∧ xx k = tg nx ∧ p = 0) ∨ (so k = 3 ∧ xx k = tg nx ∧ p ||| 2 ^ nx = 2 ^ sh - 1)))
theorem wnB_i {st : Nat} {so xx yy tg : Nat → Nat} {sh p L nx k : Nat} : wnB st so xx yy tg sh p L nx k = true ↔ wnC st so xx yy tg sh p L nx k := by
  unfold wnB wnC; exact decide_eq_true_iff
def wnF (st : Nat) (so xx yy tr tg : Nat → Nat) (sh p L nx : Nat) : Nat → Nat
  | 0 => 0
  | k + 1 => wnF st so xx yy tr tg sh p L nx k + (if wnB st so xx yy tg sh p L nx k = true then tr k else 0)
theorem wnF_le {st : Nat} {so xx yy tr tg : Nat → Nat} {sh p L nx : Nat} (ht : ∀ j, j < 40 → tr j ≤ 9) : ∀ k, k ≤ 40 → wnF st so xx yy tr tg sh p L nx k ≤ 9 * k := by
  intro k
  induction k with
  | zero => intro _; exact Nat.le_refl _
  | succ k ih =>
    intro h
    have a := ih (by omega)
    have b := ht k (by omega)
    simp only [wnF]
    split <;> omega
theorem wnF_y {st : Nat} {so xx yy tr tg : Nat → Nat} {sh p L nx k w : Nat} (hw : w = wnF st so xx yy tr tg sh p L nx k) (h : wnC st so xx yy tg sh p L nx k) : w + tr k = wnF st so xx yy tr tg sh p L nx (k + 1) := by
  simp only [wnF]; rw [if_pos (wnB_i.mpr h), hw]
theorem wnF_n {st : Nat} {so xx yy tr tg : Nat → Nat} {sh p L nx k w : Nat} (hw : w = wnF st so xx yy tr tg sh p L nx k) (h : ¬ wnC st so xx yy tg sh p L nx k) : w = wnF st so xx yy tr tg sh p L nx (k + 1) := by
  simp only [wnF]; rw [if_neg (fun q => h (wnB_i.mp q)), hw]; omega
theorem pc_pop0 : (List.range 4096).all (fun n => decide (pcF 20 n = popN n)) = true := by decide +kernel
theorem pc_pop {n : Nat} (h : n < 4096) : pcF 20 n = popN n := co_dec pc_pop0 h
