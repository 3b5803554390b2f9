/-- two ranges may have changed -/
def rg2 (a b c d : Nat) (h h1 : List va_E) : Prop := h1.length = h.length ∧ ∀ j, (j < a ∨ b < j) ∧ (j < c ∨ d < j) → h1[j]? = h[j]?
theorem rg2_rf (a b c d : Nat) (h : List va_E) : rg2 a b c d h h := ⟨rfl, fun _ _ => rfl⟩
theorem rg2_set {a b c d i : Nat} {h h1 : List va_E} {x : va_E} (q : rg2 a b c d h h1) (h0 : (a ≤ i ∧ i ≤ b) ∨ (c ≤ i ∧ i ≤ d)) : rg2 a b c d h (h1.set i x) := ⟨by rw [List.length_set]; exact q.1, fun j hj => by rw [List.getElem?_set_ne (by omega)]; exact q.2 j hj⟩
theorem rg2_tr {a b c d : Nat} {h h1 h2 : List va_E} (p : rg2 a b c d h h1) (q : rg2 a b c d h1 h2) : rg2 a b c d h h2 := ⟨q.1.trans p.1, fun j hj => (q.2 j hj).trans (p.2 j hj)⟩
theorem rg2_w {a b c d e f : Nat} {h h1 : List va_E} (p : rng e f h h1) (h0 : (a ≤ e ∧ f ≤ b) ∨ (c ≤ e ∧ f ≤ d)) : rg2 a b c d h h1 := ⟨p.1, fun j hj => p.2 j (by omega)⟩
theorem rg2_w2 {a b c d e f g k : Nat} {h h1 : List va_E} (p : rg2 e f g k h h1) (h0 : (a ≤ e ∧ f ≤ b) ∨ (c ≤ e ∧ f ≤ d)) (h2 : (a ≤ g ∧ k ≤ b) ∨ (c ≤ g ∧ k ≤ d)) : rg2 a b c d h h1 := ⟨p.1, fun j hj => p.2 j (by omega)⟩
theorem rg2_at {a b c d i : Nat} {h h1 : List va_E} {x : Option va_E} (p : rg2 a b c d h h1) (hi : (i < a ∨ b < i) ∧ (i < c ∨ d < i)) (e : h[i]? = x) : h1[i]? = x := (p.2 i hi).trans e
abbrev lJ (G : xG) (J : Nat) (a b : Value) (c d : Int32) : List Value := [.ref (G.1 + (J + 1)), .ref (G.1 + (J + 2)), .ref (G.1 + (J + 3)), a, b, .int c, .int d]
abbrev lG (G : xG) (P : Nat) (a b c : Int32) : List Value := [.ref (G.1 + (P + 1)), .ref (G.1 + (P + 2)), .int a, .int b, .int c]
/-- partners: none or an entry -/
def pB (f : Nat → Int32) : Prop := ∀ j, j < 10 → f j = -9 ∨ ∃ q, q < 10 ∧ f j = nI q
theorem pB_u {f : Nat → Int32} {i : Nat} {v : Int32} (h : pB f) (hv : v = -9 ∨ ∃ q, q < 10 ∧ v = nI q) : pB (upd f i v) := by
  intro j hj
  by_cases e : j = i
  · simp only [upd, if_pos e]; exact hv
  · simp only [upd, if_neg e]; exact h j hj
theorem or_k {a b : Nat} (ha : a < 1024) (hb : b < 10) : a ||| 2 ^ b < 1024 := Nat.or_lt_two_pow (n := 10) ha (Nat.pow_lt_pow_right (by decide) hb)
theorem or_m {a b : Nat} (ha : a < 1024) (hb : b < 1024) : a ||| b < 1024 := Nat.or_lt_two_pow (n := 10) ha hb
theorem un_b {f : Nat → Nat} {n b i v : Nat} (h : ∀ j, j < n → f j < b) (hv : v < b) : ∀ j, j < n → un f i v j < b := by
  intro j hj
  by_cases e : j = i
  · simp only [un, if_pos e]; exact hv
  · simp only [un, if_neg e]; exact h j hj
/-- what the entries from this one on can bring if it is joined to k -/
def vjF (lk bs : Nat → Int32) (i s k : Nat) : Int32 := if lk (i * 10 + k) = 0 ∨ s.testBit k = true then -1 else lk (i * 10 + k) + bs ((i + 1) * 1024 + (s ||| 2 ^ k))
def wjF (lk bs : Nat → Int32) (i s : Nat) : Nat → Int32
  | 0 => bs ((i + 1) * 1024 + s)
  | k + 1 => if wjF lk bs i s k < vjF lk bs i s k then vjF lk bs i s k else wjF lk bs i s k
