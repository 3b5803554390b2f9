/-- how many: ways -/
abbrev oK (lk : Nat → Nat → Nat) (T : Nat → Nat) (i s g k : Nat) : Prop := ¬ (lk i k = 0 ∨ s.testBit k = true) ∧ lk i k + T (s ||| 2 ^ k) = g
def jN (lk : Nat → Nat → Nat) (T c : Nat → Nat) (i s g : Nat) : Nat → Nat
  | 0 => 0
  | k + 1 => if oK lk T i s g k then jN lk T c i s g k + c (s ||| 2 ^ k) else jN lk T c i s g k
def jC (lk : Nat → Nat → Nat) (m : Nat) : Nat → Nat → Nat → Nat
  | 0, _, _ => 1
  | r + 1, i, s => jN lk (jS lk m r (i + 1)) (jC lk m r (i + 1)) i s (jS lk m (r + 1) i s) m + (if jS lk m r (i + 1) s = jS lk m (r + 1) i s then jC lk m r (i + 1) s else 0)
def sS (f c : Nat → Nat) : Nat → Nat
  | 0 => 0
  | k + 1 => sS f c k + f k * c k
theorem sS_hi {f c : Nat → Nat} {s x : Nat} : ∀ N, N ≤ s → sS (un f s x) c N = sS f c N := by
  intro N
  induction N with
  | zero => intro _; rfl
  | succ N ih => intro h; simp only [sS]; rw [ih (by omega), un_n (by omega)]
theorem sS_un {f c : Nat → Nat} {s x : Nat} : ∀ N, s < N → sS (un f s x) c N + f s * c s = sS f c N + x * c s := by
  intro N
  induction N with
  | zero => intro h; exact absurd h (Nat.not_lt_zero _)
  | succ N ih =>
    intro h
    simp only [sS]
    by_cases e : N = s
    · subst e; rw [sS_hi N (Nat.le_refl _), un_s]; omega
    · have := ih (by omega); rw [un_n e]; omega
theorem sS_0 {f c : Nat → Nat} (h : ∀ x, f x = 0) : ∀ N, sS f c N = 0 := by
  intro N
  induction N with
  | zero => rfl
  | succ N ih => simp only [sS]; rw [ih, h N, Nat.zero_mul]
theorem sS_1 {c : Nat → Nat} : ∀ N, 0 < N → sS (un (fun _ => 0) 0 1) c N = c 0 := by
  intro N hN
  have q : sS (un (fun _ => 0) 0 1) c N + 0 * c 0 = 0 + 1 * c 0 := by
    have w := sS_un (f := fun _ => 0) (c := c) (s := 0) (x := 1) N hN
    rw [sS_0 (f := fun _ => 0) (fun _ => rfl) N] at w
    exact w
  omega
/-- the counts passed on -/
def gA (lk : Nat → Nat → Nat) (T : Nat → Nat) (i s g x : Nat) (f : Nat → Nat) : Nat → Nat → Nat
  | 0 => f
  | k + 1 => if oK lk T i s g k then un (gA lk T i s g x f k) (s ||| 2 ^ k) (gA lk T i s g x f k (s ||| 2 ^ k) + x) else gA lk T i s g x f k
def gP (lk : Nat → Nat → Nat) (T : Nat → Nat) (i s g x : Nat) (f : Nat → Nat) (m : Nat) : Nat → Nat := if T s = g then un (gA lk T i s g x f m) s (gA lk T i s g x f m s + x) else gA lk T i s g x f m
def jH (lk : Nat → Nat → Nat) (T : Nat → Nat) (i s g : Nat) : Nat → Nat
  | 0 => 0
  | k + 1 => if oK lk T i s g k then jH lk T i s g k ||| 2 ^ k else jH lk T i s g k
def jHH (lk : Nat → Nat → Nat) (T : Nat → Nat) (i s g m : Nat) : Nat := if T s = g then jH lk T i s g m ||| 1024 else jH lk T i s g m
section GA
variable {lk : Nat → Nat → Nat} {T c f : Nat → Nat} {m i s g x k : Nat}
theorem gA_S (hs : s < 1024) : ∀ k, k ≤ 10 → sS (gA lk T i s g x f k) c 1024 = sS f c 1024 + x * jN lk T c i s g k := by
  intro k
  induction k with
  | zero => intro _; simp only [gA, jN, Nat.mul_zero, Nat.add_zero]
  | succ k ih =>
    intro hk
    have e := ih (by omega)
    simp only [gA, jN]
    by_cases o : oK lk T i s g k
    · rw [if_pos o, if_pos o]
      have q := sS_un (f := gA lk T i s g x f k) (c := c) (s := s ||| 2 ^ k) (x := gA lk T i s g x f k (s ||| 2 ^ k) + x) 1024 (or_k hs (by omega))
      rw [Nat.add_mul] at q
      rw [Nat.mul_add]
      omega
    · rw [if_neg o, if_neg o]; exact e
theorem gP_S (hs : s < 1024) (hm : m ≤ 10) : sS (gP lk T i s g x f m) c 1024 = sS f c 1024 + x * (jN lk T c i s g m + if T s = g then c s else 0) := by
  have e := gA_S (lk := lk) (T := T) (c := c) (i := i) (g := g) (x := x) (f := f) hs m hm
  unfold gP
  by_cases o : T s = g
  · rw [if_pos o, if_pos o]
    have q := sS_un (f := gA lk T i s g x f m) (c := c) (s := s) (x := gA lk T i s g x f m s + x) 1024 hs
    rw [Nat.add_mul] at q
    rw [Nat.mul_add]
    omega
  · rw [if_neg o, if_neg o, Nat.add_zero]; exact e
theorem gA_pos (hx : 0 < x) : ∀ k y, 0 < gA lk T i s g x f k y ↔ 0 < f y ∨ ∃ q, q < k ∧ oK lk T i s g q ∧ y = s ||| 2 ^ q := by
  intro k
  induction k with
  | zero =>
    intro y
    simp only [gA]
    constructor
    · intro h; exact Or.inl h
    · rintro (h | ⟨q, h1, _⟩)
      · exact h
      · exact absurd h1 (Nat.not_lt_zero _)
  | succ k ih =>
    intro y
    simp only [gA]
    by_cases o : oK lk T i s g k
    · rw [if_pos o]
      by_cases e : y = s ||| 2 ^ k
      · constructor
        · intro _; exact Or.inr ⟨k, Nat.lt_succ_self _, o, e⟩
        · intro _; rw [e, un_s]; omega
      · rw [un_n e, ih y]
        constructor
        · rintro (h | ⟨q, h1, h2⟩)
          · exact Or.inl h
          · exact Or.inr ⟨q, by omega, h2⟩
        · rintro (h | ⟨q, h1, h2, h3⟩)
          · exact Or.inl h
          · have : q ≠ k := fun w => e (by rw [h3, w])
            exact Or.inr ⟨q, by omega, h2, h3⟩
    · rw [if_neg o, ih y]
      constructor
      · rintro (h | ⟨q, h1, h2⟩)
        · exact Or.inl h
        · exact Or.inr ⟨q, by omega, h2⟩
      · rintro (h | ⟨q, h1, h2, h3⟩)
        · exact Or.inl h
        · have : q ≠ k := fun w => o (w ▸ h2)
          exact Or.inr ⟨q, by omega, h2, h3⟩
theorem gP_pos (hx : 0 < x) (y : Nat) : 0 < gP lk T i s g x f m y ↔ 0 < f y ∨ ((∃ q, q < m ∧ oK lk T i s g q ∧ y = s ||| 2 ^ q) ∨ (T s = g ∧ y = s)) := by
  have a := gA_pos (lk := lk) (T := T) (i := i) (s := s) (g := g) (f := f) hx m y
  unfold gP
  by_cases o : T s = g
  · rw [if_pos o]
    by_cases e : y = s
    · constructor
      · intro _; exact Or.inr (Or.inr ⟨o, e⟩)
      · intro _; rw [e, un_s]; omega
    · rw [un_n e, a]
      constructor
      · rintro (h | h)
        · exact Or.inl h
        · exact Or.inr (Or.inl h)
      · rintro (h | h | ⟨_, h⟩)
        · exact Or.inl h
        · exact Or.inr h
        · exact absurd h e
  · rw [if_neg o, a]
    constructor
    · rintro (h | h)
      · exact Or.inl h
      · exact Or.inr (Or.inl h)
    · rintro (h | h | ⟨h, _⟩)
      · exact Or.inl h
      · exact Or.inr h
      · exact absurd h o
theorem jH_lt : ∀ k, k ≤ 10 → jH lk T i s g k < 1024 := by
  intro k
  induction k with
  | zero => intro _; exact Nat.two_pow_pos 10
  | succ k ih =>
    intro hk
    simp only [jH]
    split
    · exact or_k (ih (by omega)) (by omega)
    · exact ih (by omega)
theorem jH_t : ∀ k q, (jH lk T i s g k).testBit q = true ↔ q < k ∧ oK lk T i s g q := by
  intro k
  induction k with
  | zero => intro q; simp only [jH, Nat.zero_testBit]; exact ⟨fun h => absurd h (by decide), fun h => absurd h.1 (Nat.not_lt_zero _)⟩
  | succ k ih =>
    intro q
    simp only [jH]
    by_cases o : oK lk T i s g k
    · rw [if_pos o, Nat.testBit_or, Bool.or_eq_true, ih q, Nat.testBit_two_pow, decide_eq_true_eq]
      constructor
      · rintro (⟨h1, h2⟩ | h)
        · exact ⟨by omega, h2⟩
        · exact ⟨by omega, h ▸ o⟩
      · rintro ⟨h1, h2⟩
        by_cases e : k = q
        · exact Or.inr e
        · exact Or.inl ⟨by omega, h2⟩
    · rw [if_neg o, ih q]
      constructor
      · rintro ⟨h1, h2⟩; exact ⟨by omega, h2⟩
      · rintro ⟨h1, h2⟩
        have : q ≠ k := fun w => o (w ▸ h2)
        exact ⟨by omega, h2⟩
theorem jHH_t (q : Nat) : (jHH lk T i s g m).testBit q = true ↔ (q < m ∧ oK lk T i s g q) ∨ (q = 10 ∧ T s = g) := by
  unfold jHH
  by_cases o : T s = g
  · rw [if_pos o, Nat.testBit_or, Bool.or_eq_true, jH_t m q, show (1024 : Nat) = 2 ^ 10 from rfl, Nat.testBit_two_pow, decide_eq_true_eq]
    constructor
    · rintro (h | h)
      · exact Or.inl h
      · exact Or.inr ⟨h.symm, o⟩
    · rintro (h | h)
      · exact Or.inl h
      · exact Or.inr h.1.symm
  · rw [if_neg o, jH_t m q]
    constructor
    · intro h; exact Or.inl h
    · rintro (h | h)
      · exact h
      · exact absurd h.2 o
theorem or_2k {a b : Nat} (ha : a < 2048) (hb : b < 2048) : a ||| b < 2048 := Nat.or_lt_two_pow (n := 11) ha hb
theorem jHH_lt (hm : m ≤ 10) : jHH lk T i s g m < 2048 := by
  have := jH_lt (lk := lk) (T := T) (i := i) (s := s) (g := g) m hm
  unfold jHH
  split
  · exact or_2k (by omega) (by decide)
  · omega
/-- the reference's count -/
def jW (lk : Nat → Nat → Nat) (T c : Nat → Nat) (i s g k : Nat) : Nat := jN lk T c i s g k + if T s = g then c s else 0
theorem jN_0 : ∀ k, jM lk T i s k < g → jN lk T c i s g k = 0 := by
  intro k
  induction k with
  | zero => intro _; rfl
  | succ k ih =>
    intro h
    simp only [jM] at h
    simp only [jN]
    by_cases a : lk i k = 0 ∨ s.testBit k = true
    · rw [if_pos a] at h
      rw [if_neg (show ¬ oK lk T i s g k from fun o => o.1 a), ih h]
    · rw [if_neg a] at h
      rw [if_neg (show ¬ oK lk T i s g k from fun o => by have := o.2; omega), ih (by omega)]
theorem jW_0 : jW lk T c i s (jM lk T i s 0) 0 = c s := by simp [jW, jN, jM]
theorem jW_n (a : lk i k = 0 ∨ s.testBit k = true) : jW lk T c i s (jM lk T i s (k + 1)) (k + 1) = jW lk T c i s (jM lk T i s k) k := by
  have e : jM lk T i s (k + 1) = jM lk T i s k := by simp only [jM]; rw [if_pos a]
  rw [e]
  unfold jW
  simp only [jN]
  rw [if_neg (show ¬ oK lk T i s (jM lk T i s k) k from fun o => o.1 a)]
theorem jW_g (a : ¬ (lk i k = 0 ∨ s.testBit k = true)) (h : jM lk T i s k < lk i k + T (s ||| 2 ^ k)) : jW lk T c i s (jM lk T i s (k + 1)) (k + 1) = c (s ||| 2 ^ k) := by
  have e : jM lk T i s (k + 1) = lk i k + T (s ||| 2 ^ k) := by simp only [jM]; rw [if_neg a]; omega
  have z := jM_0 (lk := lk) (T := T) (i := i) (s := s) k
  rw [e]
  unfold jW
  simp only [jN]
  rw [if_pos (show oK lk T i s (lk i k + T (s ||| 2 ^ k)) k from ⟨a, rfl⟩), jN_0 k h, if_neg (by omega)]
  omega
theorem jW_e (a : ¬ (lk i k = 0 ∨ s.testBit k = true)) (h : jM lk T i s k = lk i k + T (s ||| 2 ^ k)) : jW lk T c i s (jM lk T i s (k + 1)) (k + 1) = jW lk T c i s (jM lk T i s k) k + c (s ||| 2 ^ k) := by
  have e : jM lk T i s (k + 1) = jM lk T i s k := by simp only [jM]; rw [if_neg a]; omega
  rw [e]
  unfold jW
  simp only [jN]
  rw [if_pos (show oK lk T i s (jM lk T i s k) k from ⟨a, h.symm⟩)]
  omega
theorem jW_l (a : ¬ (lk i k = 0 ∨ s.testBit k = true)) (h : lk i k + T (s ||| 2 ^ k) < jM lk T i s k) : jW lk T c i s (jM lk T i s (k + 1)) (k + 1) = jW lk T c i s (jM lk T i s k) k := by
  have e : jM lk T i s (k + 1) = jM lk T i s k := by simp only [jM]; rw [if_neg a]; omega
  rw [e]
  unfold jW
  simp only [jN]
  rw [if_neg (show ¬ oK lk T i s (jM lk T i s k) k from fun o => by have := o.2; omega)]
end GA
theorem jS_e {lk : Nat → Nat → Nat} {m n i s : Nat} (h : i < n) : jS lk m (n - i) i s = jM lk (jS lk m (n - i - 1) (i + 1)) i s m := by
  obtain ⟨d, hd⟩ : ∃ d, n - i = d + 1 := ⟨n - i - 1, by omega⟩
  rw [hd]
  rfl
theorem jC_e {lk : Nat → Nat → Nat} {m n i s : Nat} (h : i < n) : jC lk m (n - i) i s = jN lk (jS lk m (n - i - 1) (i + 1)) (jC lk m (n - i - 1) (i + 1)) i s (jS lk m (n - i) i s) m + (if jS lk m (n - i - 1) (i + 1) s = jS lk m (n - i) i s then jC lk m (n - i - 1) (i + 1) s else 0) := by
  obtain ⟨d, hd⟩ : ∃ d, n - i = d + 1 := ⟨n - i - 1, by omega⟩
  rw [hd]
  rfl
/-- the states of the best joinings -/
def jSt (lk : Nat → Nat → Nat) (m n i x y : Nat) : Prop := (∃ q, q < m ∧ oK lk (jS lk m (n - i - 1) (i + 1)) i x (jS lk m (n - i) i x) q ∧ y = x ||| 2 ^ q) ∨ (jS lk m (n - i - 1) (i + 1) x = jS lk m (n - i) i x ∧ y = x)
def jCh (lk : Nat → Nat → Nat) (m n i x q : Nat) : Prop := (q < m ∧ oK lk (jS lk m (n - i - 1) (i + 1)) i x (jS lk m (n - i) i x) q) ∨ (q = 10 ∧ jS lk m (n - i - 1) (i + 1) x = jS lk m (n - i) i x)
def jO (lk : Nat → Nat → Nat) (m n : Nat) : Nat → Nat → Prop
  | 0, t => t = 0
  | i + 1, t => ∃ x, jO lk m n i x ∧ jSt lk m n i x t
/-- without one pair -/
def lz (lk : Nat → Nat → Nat) (i q : Nat) : Nat → Nat → Nat := fun x y => if x = i ∧ y = q then 0 else lk x y
theorem lz_le {lk : Nat → Nat → Nat} {i q : Nat} (h : ∀ x y, lk x y ≤ 300) : ∀ x y, lz lk i q x y ≤ 300 := by
  intro x y
  unfold lz
  split
  · omega
  · exact h x y
theorem lz_n {lk : Nat → Nat → Nat} {i q x y : Nat} (h : x ≠ i ∨ y ≠ q) : lz lk i q x y = lk x y := by
  unfold lz
  rw [if_neg (by omega)]
theorem lz_s {lk : Nat → Nat → Nat} {i q : Nat} : lz lk i q i q = 0 := by
  unfold lz
  rw [if_pos ⟨rfl, rfl⟩]
/-- sure: without it, it is worse -/
abbrev jU (lk : Nat → Nat → Nat) (m n i : Nat) : Prop := jP lk m n i ≠ -9 ∧ jS (lz lk i (jn (jP lk m n i))) m n 0 0 < jS lk m n 0 0
section SU
variable {lk lk' : Nat → Nat → Nat} {T T' : Nat → Nat} {m n i s l k : Nat} {rc : Nat → Nat}
theorem jO_ok (hR : jR lk n m rc) (hm : m ≤ 10) : ∀ i, i ≤ n → ∀ t, jO lk m n i t → t < 1024 ∧ t &&& rc i = t ∧ popN t ≤ i := by
  intro i
  induction i with
  | zero =>
    intro _ t h
    have e : t = 0 := h
    subst e
    exact ⟨by decide, by simp, by rw [pop_0]; exact Nat.le_refl _⟩
  | succ i ih =>
    intro hi t h
    obtain ⟨x, hx, st⟩ := h
    obtain ⟨h1, h2, h3⟩ := ih (by omega) x hx
    have up : ∀ j, x.testBit j = true → (rc (i + 1)).testBit j = true := fun j hj => hR.2.2 i (by omega) j (bit_sub.mp h2 j hj)
    rcases st with ⟨q, q1, q2, q3⟩ | ⟨_, q3⟩
    · subst q3
      refine ⟨or_k h1 (by omega), bit_sub.mpr (fun j hj => ?_), ?_⟩
      · rw [Nat.testBit_or, Bool.or_eq_true] at hj
        rcases hj with hj | hj
        · exact up j hj
        · rw [Nat.testBit_two_pow, decide_eq_true_eq] at hj
          rw [← hj]
          exact hR.2.1 i (by omega) q q1 (fun w => q2.1 (Or.inl w))
      · rw [pop_or1 h1 (by omega) (fun w => q2.1 (Or.inr w))]; omega
    · subst q3
      exact ⟨h1, bit_sub.mpr up, by omega⟩
theorem jM_mono (h : ∀ y, lk' i y = 0 ∨ lk' i y = lk i y) (hT : ∀ s, T' s ≤ T s) : ∀ k, jM lk' T' i s k ≤ jM lk T i s k := by
  intro k
  induction k with
  | zero => exact hT s
  | succ k ih =>
    simp only [jM]
    by_cases a : lk' i k = 0 ∨ s.testBit k = true
    · rw [if_pos a]
      split
      · exact ih
      · omega
    · have e := (h k).resolve_left (fun w => a (Or.inl w))
      have t := hT (s ||| 2 ^ k)
      rw [if_neg a, if_neg (by rw [← e]; exact a)]
      omega
theorem jS_mono (h : ∀ x y, lk' x y = 0 ∨ lk' x y = lk x y) : ∀ r i s, jS lk' m r i s ≤ jS lk m r i s := by
  intro r
  induction r with
  | zero => intro i s; exact Nat.le_refl _
  | succ r ih => intro i s; simp only [jS]; exact jM_mono (h i) (ih (i + 1)) m
theorem lz_m : ∀ x y, lz lk l k x y = 0 ∨ lz lk l k x y = lk x y := by
  intro x y
  unfold lz
  split
  · exact Or.inl rfl
  · exact Or.inr rfl
theorem jM_cl (h : ∀ y, lk' i y = lk i y) (hT : ∀ s, T' s = T s) : ∀ k, jM lk' T' i s k = jM lk T i s k := by
  intro k
  induction k with
  | zero => exact hT s
  | succ k ih => simp only [jM]; rw [h k, ih, hT]
theorem jS_cl (h : ∀ x y, l < x → lk' x y = lk x y) : ∀ r i s, l < i → jS lk' m r i s = jS lk m r i s := by
  intro r
  induction r with
  | zero => intro i s _; rfl
  | succ r ih => intro i s hi; simp only [jS]; exact jM_cl (fun y => h i y hi) (fun s => ih (i + 1) s (by omega)) m
theorem jS_z (r s : Nat) : jS (lz lk l k) m r (l + 1) s = jS lk m r (l + 1) s := jS_cl (fun x y hx => lz_n (Or.inl (by omega))) r (l + 1) s (Nat.lt_succ_self l)
/-- the way back -/
theorem su_up (hl : l < n) : ∀ i, i ≤ l → ∀ s, jO lk m n i s → jS lk m (n - i) i s ≤ jS (lz lk l k) m (n - i) i s → jS lk m n 0 0 ≤ jS (lz lk l k) m n 0 0 := by
  intro i
  induction i with
  | zero =>
    intro _ s h e
    have z : s = 0 := h
    subst z
    exact e
  | succ i ih =>
    intro hi s h e
    obtain ⟨x, hx, st⟩ := h
    apply ih (by omega) x hx
    rw [Nat.sub_add_eq] at e
    rcases st with ⟨q, q1, q2, q3⟩ | ⟨q2, q3⟩
    · have a := lz_n (lk := lk) (i := l) (q := k) (x := i) (y := q) (Or.inl (by omega))
      have g := jM_ge (lk := lz lk l k) (T := jS (lz lk l k) m (n - i - 1) (i + 1)) (i := i) (s := x) (j := q) (by rw [a]; exact q2.1) m q1
      rw [← jS_e (show i < n by omega), a, ← q3] at g
      have h2 := q2.2
      rw [← q3] at h2
      omega
    · have g := jM_0 (lk := lz lk l k) (T := jS (lz lk l k) m (n - i - 1) (i + 1)) (i := i) (s := x) m
      rw [← jS_e (show i < n by omega)] at g
      subst q3
      omega
theorem su_a {q : Nat} (hl : l < n) (hO : jO lk m n l s) (hc : jCh lk m n l s q) (hq : q ≠ k) : jS lk m n 0 0 ≤ jS (lz lk l k) m n 0 0 := by
  refine su_up hl l (Nat.le_refl _) s hO ?_
  rcases hc with ⟨q1, q2⟩ | ⟨_, q2⟩
  · have a := lz_n (lk := lk) (i := l) (q := k) (x := l) (y := q) (Or.inr hq)
    have g := jM_ge (lk := lz lk l k) (T := jS (lz lk l k) m (n - l - 1) (l + 1)) (i := l) (s := s) (j := q) (by rw [a]; exact q2.1) m q1
    rw [← jS_e hl, a, jS_z] at g
    have := q2.2
    omega
  · have g := jM_0 (lk := lz lk l k) (T := jS (lz lk l k) m (n - l - 1) (l + 1)) (i := l) (s := s) m
    rw [← jS_e hl, jS_z] at g
    omega
theorem su_dn (hl : l < n) (h : jS lk m n 0 0 ≤ jS (lz lk l k) m n 0 0) : ∀ i, i ≤ l → ∃ s, jO lk m n i s ∧ jS lk m (n - i) i s ≤ jS (lz lk l k) m (n - i) i s := by
  intro i
  induction i with
  | zero => intro _; exact ⟨0, rfl, h⟩
  | succ i ih =>
    intro hi
    obtain ⟨s, hO, e⟩ := ih (by omega)
    have w := jM_at (lk := lz lk l k) (T := jS (lz lk l k) m (n - i - 1) (i + 1)) (i := i) (s := s) m
    rw [← jS_e (show i < n by omega)] at w
    rw [Nat.sub_add_eq]
    rcases w with w | ⟨j, j1, j2, j3⟩
    · have b := jS_mono (m := m) (lz_m (lk := lk) (l := l) (k := k)) (n - i - 1) (i + 1) s
      have g := jM_0 (lk := lk) (T := jS lk m (n - i - 1) (i + 1)) (i := i) (s := s) m
      rw [← jS_e (show i < n by omega)] at g
      exact ⟨s, ⟨s, hO, Or.inr ⟨by omega, rfl⟩⟩, by omega⟩
    · have a := lz_n (lk := lk) (i := l) (q := k) (x := i) (y := j) (Or.inl (by omega))
      rw [a] at j2 j3
      have b := jS_mono (m := m) (lz_m (lk := lk) (l := l) (k := k)) (n - i - 1) (i + 1) (s ||| 2 ^ j)
      have g := jM_ge (T := jS lk m (n - i - 1) (i + 1)) j2 m j1
      rw [← jS_e (show i < n by omega)] at g
      exact ⟨s ||| 2 ^ j, ⟨s, hO, Or.inl ⟨j, j1, ⟨j2, by omega⟩, rfl⟩⟩, by omega⟩
theorem su_b (hl : l < n) (hk : k < 10) (h : jS lk m n 0 0 ≤ jS (lz lk l k) m n 0 0) : ∃ s q, jO lk m n l s ∧ jCh lk m n l s q ∧ q ≠ k := by
  obtain ⟨s, hO, e⟩ := su_dn hl h l (Nat.le_refl _)
  have w := jM_at (lk := lz lk l k) (T := jS (lz lk l k) m (n - l - 1) (l + 1)) (i := l) (s := s) m
  rw [← jS_e hl] at w
  rcases w with w | ⟨j, j1, j2, j3⟩
  · rw [jS_z] at w
    have g := jM_0 (lk := lk) (T := jS lk m (n - l - 1) (l + 1)) (i := l) (s := s) m
    rw [← jS_e hl] at g
    exact ⟨s, 10, hO, Or.inr ⟨rfl, by omega⟩, by omega⟩
  · have hj : j ≠ k := fun w => j2 (Or.inl (by rw [w]; exact lz_s))
    have a := lz_n (lk := lk) (i := l) (q := k) (x := l) (y := j) (Or.inr hj)
    rw [a] at j2 j3
    rw [jS_z] at j3
    have g := jM_ge (T := jS lk m (n - l - 1) (l + 1)) j2 m j1
    rw [← jS_e hl] at g
    exact ⟨s, j, hO, Or.inl ⟨j1, ⟨j2, by omega⟩⟩, hj⟩
theorem jF_no (hl : l < n) (hm : m ≤ 1000) (h : jP lk m n l = -9) (s : Nat) (hs : s = jTk lk m n l) : jS lk m (n - l - 1) (l + 1) s = jS lk m (n - l) l s := by
  subst hs
  have w := jM_at (lk := lk) (T := jS lk m (n - l - 1) (l + 1)) (i := l) (s := jTk lk m n l) m
  rw [← jS_e hl] at w
  rcases w with w | ⟨j, j1, j2, j3⟩
  · exact w.symm
  · exfalso
    rcases jF_q (lk := lk) (T := jS lk m (n - l - 1) (l + 1)) (i := l) (s := jTk lk m n l) (g := jS lk m (n - l) l (jTk lk m n l)) m hm with ⟨_, e⟩ | ⟨q, q1, q2, _⟩
    · exact e j j1 j2 j3
    · have e2 : jP lk m n l = nI q := q2
      rw [e2] at h
      exact nI_9 (by omega) h
theorem jF_ye (hm : m ≤ 1000) (h : jP lk m n l ≠ -9) : ∃ q, q < m ∧ jP lk m n l = nI q ∧ oK lk (jS lk m (n - l - 1) (l + 1)) l (jTk lk m n l) (jS lk m (n - l) l (jTk lk m n l)) q := by
  rcases jF_q (lk := lk) (T := jS lk m (n - l - 1) (l + 1)) (i := l) (s := jTk lk m n l) (g := jS lk m (n - l) l (jTk lk m n l)) m hm with ⟨e, _⟩ | ⟨q, q1, q2, q3, q4⟩
  · exact absurd e h
  · exact ⟨q, q1, q2, q3, q4⟩
theorem jT_O (hm : m ≤ 1000) : ∀ l, l ≤ n → jO lk m n l (jTk lk m n l) := by
  intro l
  induction l with
  | zero => intro _; exact (show jTk lk m n 0 = 0 from rfl)
  | succ l ih =>
    intro hl
    refine ⟨jTk lk m n l, ih (by omega), ?_⟩
    rw [jT_s]
    by_cases c : jP lk m n l = -9
    · rw [if_pos c]
      exact Or.inr ⟨jF_no (by omega) hm c _ rfl, rfl⟩
    · obtain ⟨q, q1, q2, q3⟩ := jF_ye hm c
      rw [if_neg c, q2, jn_nI (by omega)]
      exact Or.inl ⟨q, q1, q3, rfl⟩
theorem pop_2 {c a b : Nat} (h : popN c = 1) (ha : c.testBit a = true) (hb : c.testBit b = true) (h1 : a < 12) (h2 : b < 12) : a = b := by
  unfold popN at h
  have p1 : a ∈ (List.range 12).filter (fun i => c.testBit i) := List.mem_filter.mpr ⟨List.mem_range.mpr h1, ha⟩
  have p2 : b ∈ (List.range 12).filter (fun i => c.testBit i) := List.mem_filter.mpr ⟨List.mem_range.mpr h2, hb⟩
  generalize (List.range 12).filter (fun i => c.testBit i) = L at h p1 p2
  cases L with
  | nil => exact absurd h (by decide)
  | cons z t =>
    cases t with
    | nil => simp only [List.mem_cons, List.not_mem_nil, or_false] at p1 p2; rw [p1, p2]
    | cons y t => simp at h
theorem pop_one {q : Nat} (h : q < 10) : popN (2 ^ q) = 1 := by
  have e := pop_or1 (s := 0) (k := q) (by decide) h (by simp)
  rw [Nat.zero_or, pop_0] at e
  exact e
/-- one choice alone -/
theorem cert {cm : Nat} (hl : l < n) (hm : m ≤ 10) (hc : ∀ q, cm.testBit q = true ↔ ∃ x, jO lk m n l x ∧ jCh lk m n l x q) : (popN cm = 1 ∧ cm < 1024) ↔ jU lk m n l := by
  have hO := jT_O (lk := lk) (m := m) (n := n) (by omega) l (by omega)
  constructor
  · rintro ⟨h1, h2⟩
    by_cases c : jP lk m n l = -9
    · exfalso
      have b : cm.testBit 10 = true := (hc 10).mpr ⟨_, hO, Or.inr ⟨rfl, jF_no hl (by omega) c _ rfl⟩⟩
      rw [Nat.testBit_lt_two_pow (show cm < 2 ^ 10 from h2)] at b
      exact absurd b (by decide)
    · obtain ⟨q, q1, q2, q3⟩ := jF_ye (by omega) c
      refine ⟨c, ?_⟩
      rw [q2, jn_nI (by omega)]
      apply Nat.lt_of_not_le
      intro w
      obtain ⟨s, q', s1, s2, s3⟩ := su_b hl (by omega) w
      have b1 : cm.testBit q = true := (hc q).mpr ⟨_, hO, Or.inl ⟨q1, q3⟩⟩
      have b2 : cm.testBit q' = true := (hc q').mpr ⟨_, s1, s2⟩
      have lt : q' < 12 := by rcases s2 with s2 | s2 <;> omega
      exact s3 (pop_2 h1 b2 b1 lt (by omega))
  · rintro ⟨c, h⟩
    obtain ⟨q, q1, q2, q3⟩ := jF_ye (by omega) c
    rw [q2, jn_nI (by omega)] at h
    have e : cm = 2 ^ q := by
      apply Nat.eq_of_testBit_eq
      intro j
      rw [Nat.testBit_two_pow]
      by_cases z : q = j
      · subst z
        rw [(hc q).mpr ⟨_, hO, Or.inl ⟨q1, q3⟩⟩]
        simp
      · cases b : cm.testBit j with
        | false => simp [z]
        | true =>
          obtain ⟨x, x1, x2⟩ := (hc j).mp b
          have := su_a hl x1 x2 (Ne.symm z)
          omega
    rw [e]
    exact ⟨pop_one (by omega), Nat.pow_lt_pow_right (by decide) (by omega : q < 10)⟩
end SU
/-- the rows of ways -/
def wX (wy : Nat → Int32) (f : Nat → Nat) : Prop := ∀ t, t < 1024 → wy t = nI (min 1000000 (f t))
theorem nv_min {x z : Int32} {a b : Nat} (h1 : x = nI a) (h2 : z = nI b) (ha : a < 2 ^ 31) (hb : b < 2 ^ 31) : (if z < x then z else x) = nI (min a b) := by
  have q := nv_lt h2 h1 hb ha
  by_cases c : z < x
  · rw [if_pos c, h2, Nat.min_eq_right (by have := q.mp c; omega)]
  · rw [if_neg c, h1, Nat.min_eq_left (by have := mt q.mpr c; omega)]
section YI
variable {lk : Nat → Nat → Nat} {m n i s t t' cm x : Nat} {rc f g : Nat → Nat} {wy : Nat → Int32} {v : Int32}
theorem wX_0 (h : ∀ t, t < 1024 → wy t = 0) : wX wy (fun _ => 0) := by
  intro t ht
  rw [h t ht]
  exact (by decide : (0 : Int32) = nI (min 1000000 0))
theorem wX_z (h : wX wy f) (hf : ∀ x, f x = 0) : ∀ t, t < 1024 → wy t = 0 := by
  intro t ht
  rw [h t ht, hf t]
  rfl
theorem wX_u (h : wX wy f) (hv : v = nI (min 1000000 x)) : wX (upd wy s v) (un f s x) := by
  intro t ht
  by_cases e : t = s
  · subst e; rw [un_s]; simp only [upd, if_pos]; exact hv
  · rw [un_n e]; simp only [upd, if_neg e]; exact h t ht
theorem wX_p (h : wX wy f) (hs : s < 1024) : (0 : Int32) < wy s ↔ 0 < f s := by
  rw [h s hs, i_lt, nI_toInt (by omega), show (0 : Int32).toInt = 0 from rfl]
  omega
def yI (lk : Nat → Nat → Nat) (m n i t : Nat) (f g : Nat → Nat) (cm : Nat) : Prop := (∀ x, 0 < f x ↔ x < t ∧ jO lk m n i x) ∧ (∀ y, 0 < g y ↔ ∃ x, t ≤ x ∧ jO lk m n i x ∧ jSt lk m n i x y) ∧ sS f (jC lk m (n - i) i) 1024 + sS g (jC lk m (n - i - 1) (i + 1)) 1024 = jC lk m n 0 0 ∧ cm < 2048 ∧ ∀ q, cm.testBit q = true ↔ ∃ x, t ≤ x ∧ jO lk m n i x ∧ jCh lk m n i x q
def yF (lk : Nat → Nat → Nat) (m n i : Nat) (f : Nat → Nat) : Prop := (∀ x, 0 < f x ↔ jO lk m n i x) ∧ sS f (jC lk m (n - i) i) 1024 = jC lk m n 0 0
theorem yF_0 : yF lk m n 0 (un (fun _ => 0) 0 1) := by
  refine ⟨fun x => ?_, sS_1 1024 (by decide)⟩
  by_cases e : x = 0
  · subst e; rw [un_s]; exact ⟨fun _ => (show (0 : Nat) = 0 from rfl), fun _ => Nat.one_pos⟩
  · rw [un_n e]; exact ⟨fun h => absurd h (Nat.lt_irrefl _), fun h => absurd h e⟩
theorem yI_0 (hR : jR lk n m rc) (hm : m ≤ 10) (hi : i ≤ n) (h : yF lk m n i f) : yI lk m n i (rc i + 1) f (fun _ => 0) 0 := by
  have up : ∀ x, jO lk m n i x → x < rc i + 1 := fun x hx => by
    have q := (jO_ok hR hm i hi x hx).2.1
    have : x &&& rc i ≤ rc i := Nat.and_le_right
    omega
  refine ⟨fun x => ?_, fun y => ?_, ?_, by decide, fun q => ?_⟩
  · rw [h.1 x]; exact ⟨fun w => ⟨up x w, w⟩, fun w => w.2⟩
  · exact ⟨fun w => absurd w (Nat.lt_irrefl _), fun ⟨x, x1, x2, _⟩ => absurd (up x x2) (by omega)⟩
  · rw [sS_0 (fun _ => rfl) 1024, Nat.add_zero]; exact h.2
  · rw [Nat.zero_testBit]; exact ⟨fun w => absurd w (by decide), fun ⟨x, x1, x2, _⟩ => absurd (up x x2) (by omega)⟩
/-- the next state is the next lower subset -/
theorem yI_nx (hR : jR lk n m rc) (hm : m ≤ 10) (hi : i ≤ n) (hs : s &&& rc i = s) (ht : (s = 0 ∧ t = 0) ∨ (0 < s ∧ t = ((s - 1) &&& rc i) + 1)) (x : Nat) (hx : jO lk m n i x) : (x < s + 1 ∧ x ≠ s ↔ x < t) ∧ (t ≤ x ↔ s + 1 ≤ x ∨ x = s) := by
  have q := (jO_ok hR hm i hi x hx).2.1
  rcases ht with ⟨z, e⟩ | ⟨z, e⟩
  · subst z; subst e; omega
  · have b0 : (s - 1) &&& rc i ≤ s - 1 := Nat.and_le_left
    have b1 : s - 1 < s := Nat.sub_lt z (by decide)
    have b : (s - 1) &&& rc i < s := Nat.lt_of_le_of_lt b0 b1
    clear b0 b1
    constructor
    · constructor
      · intro w
        have := sub_nx s (rc i) x q hs (by omega)
        omega
      · intro w; omega
    · constructor
      · intro w
        rcases Nat.lt_or_ge x s with c | c
        · have := sub_nx s (rc i) x q hs c
          omega
        · omega
      · rintro (w | w) <;> omega
theorem yI_n (ht : ∀ x, jO lk m n i x → (x < s + 1 ∧ x ≠ s ↔ x < t) ∧ (t ≤ x ↔ s + 1 ≤ x ∨ x = s)) (h : yI lk m n i (s + 1) f g cm) (h0 : ¬ 0 < f s) : yI lk m n i t f g cm := by
  have no : ¬ jO lk m n i s := fun w => h0 ((h.1 s).mpr ⟨Nat.lt_succ_self _, w⟩)
  have ge : ∀ x, jO lk m n i x → (t ≤ x ↔ s + 1 ≤ x) := fun x hx => by
    rw [(ht x hx).2]
    exact ⟨fun w => w.resolve_right (fun e => no (e ▸ hx)), Or.inl⟩
  refine ⟨fun x => ?_, fun y => ?_, h.2.2.1, h.2.2.2.1, fun q => ?_⟩
  · rw [h.1 x]
    constructor
    · rintro ⟨x1, x2⟩
      exact ⟨(ht x x2).1.mp ⟨x1, fun e => no (e ▸ x2)⟩, x2⟩
    · rintro ⟨x1, x2⟩
      exact ⟨((ht x x2).1.mpr x1).1, x2⟩
  · rw [h.2.1 y]
    constructor
    · rintro ⟨x, x1, x2, x3⟩; exact ⟨x, (ge x x2).mpr x1, x2, x3⟩
    · rintro ⟨x, x1, x2, x3⟩; exact ⟨x, (ge x x2).mp x1, x2, x3⟩
  · rw [h.2.2.2.2 q]
    constructor
    · rintro ⟨x, x1, x2, x3⟩; exact ⟨x, (ge x x2).mpr x1, x2, x3⟩
    · rintro ⟨x, x1, x2, x3⟩; exact ⟨x, (ge x x2).mp x1, x2, x3⟩
theorem yI_s (ht : ∀ x, jO lk m n i x → (x < s + 1 ∧ x ≠ s ↔ x < t) ∧ (t ≤ x ↔ s + 1 ≤ x ∨ x = s)) (hs : s < 1024) (hm : m ≤ 10) (hi : i < n) (h : yI lk m n i (s + 1) f g cm) (h0 : 0 < f s) : yI lk m n i t (un f s 0) (gP lk (jS lk m (n - i - 1) (i + 1)) i s (jS lk m (n - i) i s) (f s) g m) (cm ||| jHH lk (jS lk m (n - i - 1) (i + 1)) i s (jS lk m (n - i) i s) m) := by
  have yes : jO lk m n i s := ((h.1 s).mp h0).2
  refine ⟨fun x => ?_, fun y => ?_, ?_, or_2k h.2.2.2.1 (jHH_lt hm), fun q => ?_⟩
  · by_cases e : x = s
    · subst e
      rw [un_s]
      exact ⟨fun w => absurd w (Nat.lt_irrefl _), fun w => absurd rfl ((ht x yes).1.mpr w.1).2⟩
    · rw [un_n e, h.1 x]
      constructor
      · rintro ⟨x1, x2⟩; exact ⟨(ht x x2).1.mp ⟨x1, e⟩, x2⟩
      · rintro ⟨x1, x2⟩; exact ⟨((ht x x2).1.mpr x1).1, x2⟩
  · rw [gP_pos h0 y, h.2.1 y]
    constructor
    · rintro (⟨x, x1, x2, x3⟩ | w)
      · exact ⟨x, (ht x x2).2.mpr (Or.inl x1), x2, x3⟩
      · exact ⟨s, (ht s yes).2.mpr (Or.inr rfl), yes, w⟩
    · rintro ⟨x, x1, x2, x3⟩
      rcases (ht x x2).2.mp x1 with x1 | x1
      · exact Or.inl ⟨x, x1, x2, x3⟩
      · subst x1; exact Or.inr x3
  · have a := sS_un (f := f) (c := jC lk m (n - i) i) (s := s) (x := 0) 1024 hs
    have b := gP_S (lk := lk) (T := jS lk m (n - i - 1) (i + 1)) (c := jC lk m (n - i - 1) (i + 1)) (i := i) (g := jS lk m (n - i) i s) (x := f s) (f := g) hs hm
    rw [← jC_e hi] at b
    have c := h.2.2.1
    rw [Nat.zero_mul] at a
    omega
  · rw [Nat.testBit_or, Bool.or_eq_true, h.2.2.2.2 q, jHH_t]
    constructor
    · rintro (⟨x, x1, x2, x3⟩ | w)
      · exact ⟨x, (ht x x2).2.mpr (Or.inl x1), x2, x3⟩
      · exact ⟨s, (ht s yes).2.mpr (Or.inr rfl), yes, w⟩
    · rintro ⟨x, x1, x2, x3⟩
      rcases (ht x x2).2.mp x1 with x1 | x1
      · exact Or.inl ⟨x, x1, x2, x3⟩
      · subst x1; exact Or.inr x3
theorem yI_f (h : yI lk m n i 0 f g cm) : ∀ x, f x = 0 := by
  intro x
  have := (h.1 x)
  rcases Nat.eq_zero_or_pos (f x) with e | e
  · exact e
  · exact absurd (this.mp e).1 (Nat.not_lt_zero _)
theorem yI_g (hi : i < n) (h : yI lk m n i 0 f g cm) : yF lk m n (i + 1) g := by
  refine ⟨fun y => ?_, ?_⟩
  · rw [h.2.1 y]
    constructor
    · rintro ⟨x, _, x2, x3⟩; exact ⟨x, x2, x3⟩
    · rintro ⟨x, x2, x3⟩; exact ⟨x, Nat.zero_le _, x2, x3⟩
  · have c := h.2.2.1
    rw [sS_0 (yI_f h) 1024, Nat.zero_add] at c
    rw [Nat.sub_add_eq]
    exact c
theorem yI_c (hi : i < n) (hm : m ≤ 10) (h : yI lk m n i 0 f g cm) : (popN cm = 1 ∧ cm < 1024) ↔ jU lk m n i := by
  refine cert hi hm (fun q => ?_)
  rw [h.2.2.2.2 q]
  constructor
  · rintro ⟨x, _, x2, x3⟩; exact ⟨x, x2, x3⟩
  · rintro ⟨x, x2, x3⟩; exact ⟨x, Nat.zero_le _, x2, x3⟩
/-- the sum at the end -/
def zI (lk : Nat → Nat → Nat) (m n t : Nat) (f : Nat → Nat) (tt : Nat) : Prop := (∀ x, 0 < f x ↔ x < t ∧ jO lk m n n x) ∧ tt + sS f (fun _ => 1) 1024 = jC lk m n 0 0
theorem zI_0 (hR : jR lk n m rc) (hm : m ≤ 10) (h : yF lk m n n f) : zI lk m n (rc n + 1) f 0 := by
  refine ⟨(yI_0 hR hm (Nat.le_refl _) h).1, ?_⟩
  have e := h.2
  rw [Nat.sub_self] at e
  rw [Nat.zero_add]
  exact e
theorem zI_s (ht : ∀ x, jO lk m n n x → (x < s + 1 ∧ x ≠ s ↔ x < t) ∧ (t ≤ x ↔ s + 1 ≤ x ∨ x = s)) (hs : s < 1024) (h : zI lk m n (s + 1) f x) : zI lk m n t (un f s 0) (x + f s) := by
  refine ⟨fun y => ?_, ?_⟩
  · by_cases e : y = s
    · subst e
      rw [un_s]
      exact ⟨fun w => absurd w (Nat.lt_irrefl _), fun w => absurd rfl ((ht y w.2).1.mpr w.1).2⟩
    · rw [un_n e, h.1 y]
      constructor
      · rintro ⟨x1, x2⟩; exact ⟨(ht y x2).1.mp ⟨x1, e⟩, x2⟩
      · rintro ⟨x1, x2⟩; exact ⟨((ht y x2).1.mpr x1).1, x2⟩
  · have a := sS_un (f := f) (c := fun _ => 1) (s := s) (x := 0) 1024 hs
    have c := h.2
    rw [Nat.zero_mul, Nat.mul_one] at a
    omega
theorem zI_z (h : zI lk m n 0 f x) : (∀ y, f y = 0) ∧ x = jC lk m n 0 0 := by
  have z : ∀ y, f y = 0 := by
    intro y
    rcases Nat.eq_zero_or_pos (f y) with e | e
    · exact e
    · exact absurd ((h.1 y).mp e).1 (Nat.not_lt_zero _)
  refine ⟨z, ?_⟩
  have c := h.2
  rw [sS_0 z 1024] at c
  omega
theorem ce_u {ce : Nat → Int32} {v : Int32} (h : ∀ j, j < i → ce j = if jU lk m n j then 1 else 0) (hv : v = if jU lk m n i then 1 else 0) : ∀ j, j < i + 1 → upd ce i v j = if jU lk m n j then 1 else 0 := by
  intro j hj
  by_cases e : j = i
  · subst e; simp only [upd, if_pos]; exact hv
  · simp only [upd, if_neg e]; exact h j (by omega)
end YI
section WS
variable {lk : Nat → Nat → Nat} {T f : Nat → Nat} {m n i s g x k : Nat} {nw L bs : Nat → Int32} {rc : Nat → Nat}
theorem gA_y (o : oK lk T i s g k) : gA lk T i s g x f (k + 1) = un (gA lk T i s g x f k) (s ||| 2 ^ k) (gA lk T i s g x f k (s ||| 2 ^ k) + x) := by simp only [gA]; rw [if_pos o]
theorem gA_n (o : ¬ oK lk T i s g k) : gA lk T i s g x f (k + 1) = gA lk T i s g x f k := by simp only [gA]; rw [if_neg o]
theorem jH_y (o : oK lk T i s g k) : jH lk T i s g (k + 1) = jH lk T i s g k ||| 2 ^ k := by simp only [jH]; rw [if_pos o]
theorem jH_n (o : ¬ oK lk T i s g k) : jH lk T i s g (k + 1) = jH lk T i s g k := by simp only [jH]; rw [if_neg o]
theorem mn_2 (a b : Nat) : min 1000000 (min 1000000 a + min 1000000 b) = min 1000000 (a + b) := by omega
theorem wX_y (h : wX nw (gA lk T i s g x f k)) (o : oK lk T i s g k) : wX (upd nw (s ||| 2 ^ k) (nI (min 1000000 (min 1000000 (gA lk T i s g x f k (s ||| 2 ^ k)) + min 1000000 x)))) (gA lk T i s g x f (k + 1)) := by
  rw [gA_y o, mn_2]
  exact wX_u h rfl
theorem wX_k (h : wX nw (gA lk T i s g x f k)) (o : ¬ oK lk T i s g k) : wX nw (gA lk T i s g x f (k + 1)) := by rw [gA_n o]; exact h
theorem wX_e (h : wX nw (gA lk T i s g x f k)) (e : k = m) (o : T s = g) : wX (upd nw s (nI (min 1000000 (min 1000000 (gA lk T i s g x f k s) + min 1000000 x)))) (gP lk T i s g x f m) := by
  subst e
  unfold gP
  rw [if_pos o, mn_2]
  exact wX_u h rfl
theorem wX_d (h : wX nw (gA lk T i s g x f m)) (o : ¬ T s = g) : wX nw (gP lk T i s g x f m) := by unfold gP; rw [if_neg o]; exact h
theorem sk_e (hl : ∀ i k, lk i k ≤ 300) (hR : jR lk n m rc) (hB : jB lk n m rc 0 bs) (hi : i < n) (hn : n ≤ 10) (hs : s &&& rc i = s) (hp : popN s ≤ i) : bs ((i + 1) * 1024 + s) = bs (i * 1024 + s) ↔ jS lk m (n - i - 1) (i + 1) s = jS lk m (n - i) i s := by
  have hB1 : jB lk n m rc (i + 1) bs := fun l h1 h2 => hB l (Nat.zero_le _) h2
  have b1 := jS_le (m := m) hl (n - (i + 1)) (i + 1) s
  have b2 := jS_le (m := m) hl (n - i) i s
  rw [hB i (Nat.zero_le _) (by omega) s hs hp, jB_0 hR hB1 hi hs hp, show n - i - 1 = n - (i + 1) by omega]
  exact nI_j (by omega) (by omega)
end WS
def wZ (wy nw : Nat → Int32) : Prop := (∀ t, t < 1024 → wy t = 0) ∧ ∀ t, t < 1024 → nw t = 0
/-- what is told of the best joinings -/
def jK (lk : Nat → Nat → Nat) (n m : Nat) (su wa : Int32) (pt ce : Nat → Int32) : Prop := su = nI (jS lk m n 0 0) ∧ (∀ j, j < n → pt j = jP lk m n j) ∧ wa = nI (min 1000000 (jC lk m n 0 0)) ∧ ∀ j, j < n → ce j = if jU lk m n j then 1 else 0
theorem ce_1 {c : Int32} {p : Prop} [Decidable p] (h : c = if p then 1 else 0) (hc : ¬ c = 0) : (1 : Int32) = if p then 1 else 0 := by
  by_cases q : p
  · rw [if_pos q]
  · rw [if_neg q] at h; exact absurd h hc
theorem ce_0 {c : Int32} {p : Prop} [Decidable p] (h : c = if p then 1 else 0) (hc : c = 0) : (0 : Int32) = if p then 1 else 0 := by
  by_cases q : p
  · rw [if_pos q] at h; rw [hc] at h; exact absurd h (by decide)
  · rw [if_neg q]
