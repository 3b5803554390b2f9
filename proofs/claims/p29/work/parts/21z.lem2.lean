/-- only the cell at p has changed -/
def ex1 (p : Nat) (h h1 : List va_E) : Prop := h1.length = h.length ∧ ∀ j, j ≠ p → h1[j]? = h[j]?
theorem ex1_rf (p : Nat) (h : List va_E) : ex1 p h h := ⟨rfl, fun _ _ => rfl⟩
theorem ex1_set {p : Nat} {h h1 : List va_E} {c : va_E} (q : ex1 p h h1) : ex1 p h (h1.set p c) := ⟨by rw [List.length_set]; exact q.1, fun j hj => by rw [List.getElem?_set_ne (Ne.symm hj)]; exact q.2 j hj⟩
theorem ex1_at {p i : Nat} {h h1 : List va_E} {c : Option va_E} (q : ex1 p h h1) (hi : i ≠ p) (e : h[i]? = c) : h1[i]? = c := (q.2 i hi).trans e
theorem ex1_kp {p : Nat} {h h1 : List va_E} (q : ex1 p h h1) (hp : p < 88 ∨ 125 ≤ p) : kp h h1 := fun j j1 j2 => q.2 j (by omega)
