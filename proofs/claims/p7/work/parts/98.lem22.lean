abbrev jgP : Type := Nat → Int32 → Int32 → (Nat → Int32) → (Nat → Int32) → Nat → Prop
/-- all joinings -/
def iJs (G : xG) (Φ : jgP) (h : List va_E) : Prop := ∀ k, k < 16 → ∃ (su wa : Int32) (pt ce : Nat → Int32) (pv : Nat), h[13 + 3 * k]? = some (oB 4 (lG G (13 + 3 * k) su wa (nI pv))) ∧ h[13 + 3 * k + 1]? = some (aI 10 pt) ∧ h[13 + 3 * k + 2]? = some (aZ 10 ce) ∧ pB pt ∧ pv ≤ 600 ∧ Φ k su wa pt ce pv
def jT : jgP := fun _ _ _ _ _ _ => True
def jZ : jgP := fun _ _ _ _ _ pv => pv = 0
theorem iJs_w {G : xG} {Φ Ψ : jgP} {h : List va_E} (hJ : iJs G Φ h) (hw : ∀ k su wa pt ce pv, Φ k su wa pt ce pv → Ψ k su wa pt ce pv) : iJs G Ψ h := by
  intro k hk
  obtain ⟨su, wa, pt, ce, pv, f0, f1, f2, hp, hv, hf⟩ := hJ k hk
  exact ⟨su, wa, pt, ce, pv, f0, f1, f2, hp, hv, hw _ _ _ _ _ _ hf⟩
theorem iJs_k {G : xG} {Φ : jgP} {h h1 : List va_E} (hJ : iJs G Φ h) (fr : ∀ j, 13 ≤ j → j < 61 → h1[j]? = h[j]?) : iJs G Φ h1 := by
  intro k hk
  obtain ⟨su, wa, pt, ce, pv, f0, f1, f2, hp, hv, hf⟩ := hJ k hk
  exact ⟨su, wa, pt, ce, pv, (fr _ (by omega) (by omega)).trans f0, (fr _ (by omega) (by omega)).trans f1, (fr _ (by omega) (by omega)).trans f2, hp, hv, hf⟩
theorem iJs_up {G : xG} {Φ : jgP} {h h1 : List va_E} {P k pv : Nat} {su wa : Int32} {pt ce : Nat → Int32} (hJ : iJs G Φ h) (hk : k < 16) (eP : P = 13 + 3 * k) (fr : ∀ j, 13 ≤ j → j < 61 → (j < P ∨ P + 2 < j) → h1[j]? = h[j]?)
    (f0 : h1[P]? = some (oB 4 (lG G P su wa (nI pv)))) (f1 : h1[P + 1]? = some (aI 10 pt)) (f2 : h1[P + 2]? = some (aZ 10 ce)) (hp : pB pt) (hv : pv ≤ 600) (hf : Φ k su wa pt ce pv) : iJs G Φ h1 := by
  intro j hj
  by_cases e : j = k
  · subst e; subst eP
    exact ⟨su, wa, pt, ce, pv, f0, f1, f2, hp, hv, hf⟩
  · obtain ⟨su', wa', pt', ce', pv', g0, g1, g2, q1, q2, q3⟩ := hJ j hj
    exact ⟨su', wa', pt', ce', pv', (fr _ (by omega) (by omega) (by omega)).trans g0, (fr _ (by omega) (by omega) (by omega)).trans g1, (fr _ (by omega) (by omega) (by omega)).trans g2, q1, q2, q3⟩
