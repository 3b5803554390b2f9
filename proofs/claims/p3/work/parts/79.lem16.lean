theorem pw10 : ∀ p, p ≤ 10 → 2 ^ p ≤ 1024 ∧ 1 ≤ 2 ^ p := by decide
theorem nI_m1 {j : Nat} : nI (j + 1) + (-1) = nI j := pk_m1 j
theorem nI_s1 {j : Nat} : nI (j + 1) - 1 = nI j := nI_pred j
/-- one less, or nothing -/
theorem dec_m {i n : Nat} (h : i ≤ n) : (i = 0 ∧ nI i + (-1) = -1) ∨ ∃ j, j < n ∧ nI i + (-1) = nI j ∧ i = j + 1 := by
  cases i with
  | zero => exact Or.inl ⟨rfl, by decide⟩
  | succ i => exact Or.inr ⟨i, by omega, nI_m1, rfl⟩
theorem dec_s {i n : Nat} (h : i ≤ n) : (i = 0 ∧ nI i - 1 = -1) ∨ ∃ j, j < n ∧ nI i - 1 = nI j ∧ i = j + 1 := by
  cases i with
  | zero => exact Or.inl ⟨rfl, by decide⟩
  | succ i => exact Or.inr ⟨i, by omega, nI_s1, rfl⟩
theorem pB_g {f : Nat → Int32} {i : Nat} (h : pB f) (hi : i < 10) (h0 : ¬ (f i).toInt < 0) : ∃ q, q < 10 ∧ f i = nI q :=
  (h i hi).resolve_left (fun e => by rw [e] at h0; exact h0 (by decide))
