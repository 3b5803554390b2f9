theorem dJ_n {G : xG} {oS : Option Nat} {so x y tr : Nat → Nat} {n : Nat} {h : List va_E} (hc : cS G oS so x y tr n h) : dJ (some h.length) oS := by
  cases oS with
  | none => trivial
  | some S => exact Or.inr (by have q := hc.2.1; omega)
theorem dJ_s {G : xG} {Φ : jgP} {oJ : Option Nat} {h : List va_E} (hc : cJ G Φ oJ h) : dJ oJ (some h.length) := by
  cases oJ with
  | none => trivial
  | some J => exact Or.inl (by have q := hc.1.2.1; omega)
theorem dJ_o {J S : Nat} {oS : Option Nat} (h : dJ (some J) oS) (e : oS = some S) : J + 5 < S ∨ S + 9 < J := by
  subst e; exact h
theorem dJ_p {J S : Nat} {oJ : Option Nat} (h : dJ oJ (some S)) (e : oJ = some J) : J + 5 < S ∨ S + 9 < J := by
  subst e; exact h
theorem wyF_o {a : Nat} {y : Int32} (h : wyF a y = true) : (1 ≤ y.toInt ∧ y.toInt ≤ 999) ∧ wyG 3 (2 ^ a) (tn y) = true := by
  unfold wyF at h
  simp only [Bool.and_eq_true, decide_eq_true_eq] at h
  exact h
