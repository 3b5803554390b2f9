theorem pw10 : ∀ p, p ≤ 10 → 2 ^ p ≤ 1024 ∧ 1 ≤ 2 ^ p := by decide
theorem nI_m1 {j : Nat} : nI (j + 1) + (-1) = nI j := pk_m1 j
theorem nI_s1 {j : Nat} : nI (j + 1) - 1 = nI j := nI_pred j
/-- one less, or nothing -/
theorem dec_m {i n : Nat} (h : i ≤ n) : (i = 0 ∧ nI i + (-1) = -1) ∨ ∃ j, j < n ∧ nI i + (-1) = nI j ∧ i = j + 1 := by
  cases i with
  | zero => exact Or.inl ⟨rfl, by decide⟩
  | succ i => exact Or.inr ⟨i, by omega, nI_m1, rfl⟩
theorem dec_s {i n : Nat} (h : i ≤ n) : (i = 0 ∧ nI i - 1 = -1) ∨ ∃ j, j < n ∧ nI i - 1 = nI j ∧ i = j + 1 := by
  cases i with
  | zero => exact Or.inl ⟨rfl, by decide⟩
  | succ i => exact Or.inr ⟨i, by omega, nI_s1, rfl⟩
theorem pB_g {f : Nat → Int32} {i : Nat} (h : pB f) (hi : i < 10) (h0 : ¬ (f i).toInt < 0) : ∃ q, q < 10 ∧ f i = nI q :=
  (h i hi).resolve_left (fun e => by rw [e] at h0; exact h0 (by decide))
theorem dig_i {d : Nat} (hd : d < 10) : (nI d - 1).toInt = (d : Int) - 1 := by
  cases d with
  | zero => decide
  | succ d => rw [nI_s1, nI_toInt (by omega)]; omega
theorem dig_e {d : Nat} (h1 : 1 ≤ d) : nI d - 1 = nI (d - 1) := nv_sub rfl rfl h1
theorem or_16 {a b : Nat} (ha : a < 16) (hb : b < 4) : a ||| 2 ^ b < 16 := Nat.or_lt_two_pow (n := 4) ha (Nat.pow_lt_pow_right (by decide) hb)
theorem pw4 : ∀ p, p < 4 → 2 ^ p < 16 := by decide
def p10 : Nat → Nat
  | 0 => 0
  | 1 => 1
  | 2 => 10
  | _ => 100
theorem rng_w2 {a b c d e f : Nat} {h h1 : List va_E} (p : rg2 a b c d h h1) (h0 : e ≤ a ∧ b ≤ f) (h2 : e ≤ c ∧ d ≤ f) : rng e f h h1 := ⟨p.1, fun j hj => p.2 j (by omega)⟩
