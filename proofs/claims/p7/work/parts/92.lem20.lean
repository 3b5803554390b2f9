/-- the heap grows, and of what was there only two ranges may have changed -/
def grw (a b c d : Nat) (h h1 : List va_E) : Prop := h.length ≤ h1.length ∧ ∀ j, j < h.length → (j < a ∨ b < j) ∧ (j < c ∨ d < j) → h1[j]? = h[j]?
section GRW
variable {a b c d : Nat} {h h1 h2 : List va_E}
theorem grw_rf (a b c d : Nat) (h : List va_E) : grw a b c d h h := ⟨Nat.le_refl _, fun _ _ _ => rfl⟩
theorem grw_set {i : Nat} {x : va_E} (q : grw a b c d h h1) (h0 : (a ≤ i ∧ i ≤ b) ∨ (c ≤ i ∧ i ≤ d) ∨ h.length ≤ i) : grw a b c d h (h1.set i x) :=
  ⟨by rw [List.length_set]; exact q.1, fun j hj hr => by rw [List.getElem?_set_ne (by omega)]; exact q.2 j hj hr⟩
theorem grw_app {x : List va_E} (q : grw a b c d h h1) : grw a b c d h (h1 ++ x) :=
  ⟨by rw [List.length_append]; have := q.1; omega, fun j hj hr => by rw [List.getElem?_append_left (by have := q.1; omega)]; exact q.2 j hj hr⟩
theorem grw_lo {m : Nat} (q : grw a b c d h h1) (k : lo m h1 h2) (hm : h.length ≤ m) (hl : h1.length ≤ h2.length) : grw a b c d h h2 :=
  ⟨Nat.le_trans q.1 hl, fun j hj hr => (k j (by omega)).trans (q.2 j hj hr)⟩
theorem grw_r2 {e f : Nat} (q : grw a b c d h h1) (p : rng e f h1 h2) (w : ∀ j, j < h.length → (j < a ∨ b < j) ∧ (j < c ∨ d < j) → (j < e ∨ f < j)) : grw a b c d h h2 :=
  ⟨by rw [p.1]; exact q.1, fun j hj hr => (p.2 j (w j hj hr)).trans (q.2 j hj hr)⟩
theorem grw_r4 {e f g k : Nat} (q : grw a b c d h h1) (p : rg2 e f g k h1 h2) (w : ∀ j, j < h.length → (j < a ∨ b < j) ∧ (j < c ∨ d < j) → (j < e ∨ f < j) ∧ (j < g ∨ k < j)) : grw a b c d h h2 :=
  ⟨by rw [p.1]; exact q.1, fun j hj hr => (p.2 j (w j hj hr)).trans (q.2 j hj hr)⟩
theorem grw_gg {e f g k : Nat} (q : grw a b c d h h1) (p : grw e f g k h1 h2) (w : ∀ j, j < h.length → (j < a ∨ b < j) ∧ (j < c ∨ d < j) → (j < e ∨ f < j) ∧ (j < g ∨ k < j)) : grw a b c d h h2 :=
  ⟨Nat.le_trans q.1 p.1, fun j hj hr => (p.2 j (Nat.lt_of_lt_of_le hj q.1) (w j hj hr)).trans (q.2 j hj hr)⟩
theorem grw_at {i : Nat} {x : va_E} (p : grw a b c d h h1) (hi : (i < a ∨ b < i) ∧ (i < c ∨ d < i)) (e : h[i]? = some x) : h1[i]? = some x :=
  (p.2 i (List.getElem?_eq_some_iff.mp e).1 hi).trans e
end GRW
theorem xj_P {B P j : Nat} (e : P = 13 + 3 * j) (hj : j < 16) : va_rf (xjo B 16 j) = .ref (B + P) := by rw [xjo_at hj, e]; rfl
