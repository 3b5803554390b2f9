def jn (x : Int32) : Nat := x.toInt.toNat
theorem jn_nI {a : Nat} (h : a < 2 ^ 31) : jn (nI a) = a := by unfold jn; rw [nI_toInt h]; simp
theorem nI_j {a b : Nat} (ha : a < 100000) (hb : b < 100000) : nI a = nI b ↔ a = b := nv_eq rfl rfl (by omega) (by omega)
/-- the best joinings of rows from i on, s taken; lk: likenesses, 0 where barred; T: what the rest brings -/
def jM (lk : Nat → Nat → Nat) (T : Nat → Nat) (i s : Nat) : Nat → Nat
  | 0 => T s
  | k + 1 => if lk i k = 0 ∨ s.testBit k = true then jM lk T i s k else max (jM lk T i s k) (lk i k + T (s ||| 2 ^ k))
def jS (lk : Nat → Nat → Nat) (m : Nat) : Nat → Nat → Nat → Nat
  | 0, _, _ => 0
  | r + 1, i, s => jM lk (jS lk m r (i + 1)) i s m
/-- the first choice that keeps the best -/
def jF (lk : Nat → Nat → Nat) (T : Nat → Nat) (i s g : Nat) : Nat → Int32
  | 0 => -9
  | k + 1 => if jF lk T i s g k = -9 then (if lk i k = 0 ∨ s.testBit k = true then -9 else if lk i k + T (s ||| 2 ^ k) = g then nI k else -9) else jF lk T i s g k
def jTk (lk : Nat → Nat → Nat) (m n : Nat) : Nat → Nat
  | 0 => 0
  | l + 1 => if jF lk (jS lk m (n - l - 1) (l + 1)) l (jTk lk m n l) (jS lk m (n - l) l (jTk lk m n l)) m = -9 then jTk lk m n l else jTk lk m n l ||| 2 ^ jn (jF lk (jS lk m (n - l - 1) (l + 1)) l (jTk lk m n l) (jS lk m (n - l) l (jTk lk m n l)) m)
def jP (lk : Nat → Nat → Nat) (m n l : Nat) : Int32 := jF lk (jS lk m (n - l - 1) (l + 1)) l (jTk lk m n l) (jS lk m (n - l) l (jTk lk m n l)) m
section JJ
variable {lk : Nat → Nat → Nat} {T : Nat → Nat} {m n i s g : Nat}
theorem jT_s (l : Nat) : jTk lk m n (l + 1) = if jP lk m n l = -9 then jTk lk m n l else jTk lk m n l ||| 2 ^ jn (jP lk m n l) := rfl
theorem nI_9 {a : Nat} (ha : a < 100000) : ¬ nI a = -9 := by
  intro e
  have h := congrArg Int32.toInt e
  rw [nI_toInt (by omega), show (-9 : Int32).toInt = -9 from rfl] at h
  omega
theorem jM_le {B : Nat} (hT : ∀ s, T s ≤ B) (hl : ∀ i k, lk i k ≤ 300) : ∀ k, jM lk T i s k ≤ B + 300 := by
  intro k
  induction k with
  | zero => have := hT s; simp only [jM]; omega
  | succ k ih =>
    simp only [jM]
    have a := hT (s ||| 2 ^ k)
    have b := hl i k
    split <;> omega
theorem jS_le (hl : ∀ i k, lk i k ≤ 300) : ∀ r i s, jS lk m r i s ≤ 300 * r := by
  intro r
  induction r with
  | zero => intro i s; exact Nat.le_refl _
  | succ r ih =>
    intro i s
    have := jM_le (i := i) (s := s) (ih (i + 1)) hl m
    simp only [jS]
    omega
theorem jM_c {T' : Nat → Nat} (h0 : T s = T' s) (h1 : ∀ k, ¬ (lk i k = 0 ∨ s.testBit k = true) → T (s ||| 2 ^ k) = T' (s ||| 2 ^ k)) : ∀ k, jM lk T i s k = jM lk T' i s k := by
  intro k
  induction k with
  | zero => exact h0
  | succ k ih =>
    simp only [jM]
    by_cases c : lk i k = 0 ∨ s.testBit k = true
    · rw [if_pos c, if_pos c, ih]
    · rw [if_neg c, if_neg c, ih, h1 k c]
theorem jM_0 : ∀ k, T s ≤ jM lk T i s k := by
  intro k
  induction k with
  | zero => exact Nat.le_refl _
  | succ k ih => simp only [jM]; split <;> omega
theorem jM_ge {j : Nat} (ha : ¬ (lk i j = 0 ∨ s.testBit j = true)) : ∀ k, j < k → lk i j + T (s ||| 2 ^ j) ≤ jM lk T i s k := by
  intro k
  induction k with
  | zero => intro h; exact absurd h (Nat.not_lt_zero _)
  | succ k ih =>
    intro h
    simp only [jM]
    by_cases e : j = k
    · subst e; rw [if_neg ha]; omega
    · have := ih (by omega)
      split <;> omega
theorem jM_at : ∀ k, jM lk T i s k = T s ∨ ∃ j, j < k ∧ ¬ (lk i j = 0 ∨ s.testBit j = true) ∧ lk i j + T (s ||| 2 ^ j) = jM lk T i s k := by
  intro k
  induction k with
  | zero => exact Or.inl rfl
  | succ k ih =>
    simp only [jM]
    by_cases c : lk i k = 0 ∨ s.testBit k = true
    · rw [if_pos c]
      rcases ih with h | ⟨j, h1, h2⟩
      · exact Or.inl h
      · exact Or.inr ⟨j, by omega, h2⟩
    · rw [if_neg c]
      by_cases d : jM lk T i s k ≤ lk i k + T (s ||| 2 ^ k)
      · exact Or.inr ⟨k, by omega, c, by omega⟩
      · rcases ih with h | ⟨j, h1, h2, h3⟩
        · exact Or.inl (by omega)
        · exact Or.inr ⟨j, by omega, h2, by omega⟩
theorem jF_q : ∀ k, k ≤ 1000 → (jF lk T i s g k = -9 ∧ ∀ j, j < k → ¬ (lk i j = 0 ∨ s.testBit j = true) → lk i j + T (s ||| 2 ^ j) ≠ g) ∨ ∃ q, q < k ∧ jF lk T i s g k = nI q ∧ ¬ (lk i q = 0 ∨ s.testBit q = true) ∧ lk i q + T (s ||| 2 ^ q) = g := by
  intro k
  induction k with
  | zero => intro _; exact Or.inl ⟨rfl, fun j h => absurd h (Nat.not_lt_zero _)⟩
  | succ k ih =>
    intro hk
    simp only [jF]
    rcases ih (by omega) with ⟨h, hn⟩ | ⟨q, h1, h2, h3⟩
    · rw [if_pos h]
      have nx : (¬ (lk i k = 0 ∨ s.testBit k = true) → lk i k + T (s ||| 2 ^ k) ≠ g) → ∀ j, j < k + 1 → ¬ (lk i j = 0 ∨ s.testBit j = true) → lk i j + T (s ||| 2 ^ j) ≠ g := by
        intro w j hj
        by_cases e : j = k
        · subst e; exact w
        · exact hn j (by omega)
      by_cases c : lk i k = 0 ∨ s.testBit k = true
      · rw [if_pos c]; exact Or.inl ⟨rfl, nx (fun w => absurd c w)⟩
      · rw [if_neg c]
        by_cases d : lk i k + T (s ||| 2 ^ k) = g
        · rw [if_pos d]; exact Or.inr ⟨k, by omega, rfl, c, d⟩
        · rw [if_neg d]; exact Or.inl ⟨rfl, nx (fun _ => d)⟩
    · rw [if_neg (by rw [h2]; exact nI_9 (by omega))]
      exact Or.inr ⟨q, by omega, h2, h3⟩
theorem jF_st {k : Nat} (h : ¬ jF lk T i s g k = -9) : ∀ d, jF lk T i s g (k + d) = jF lk T i s g k := by
  intro d
  induction d with
  | zero => rfl
  | succ d ih => rw [← Nat.add_assoc]; simp only [jF]; rw [if_neg (by rw [ih]; exact h), ih]
theorem jF_le {k : Nat} (h : ¬ jF lk T i s g k = -9) (hk : k ≤ m) : jF lk T i s g m = jF lk T i s g k := by
  have q := jF_st h (m - k)
  rw [show k + (m - k) = m by omega] at q
  exact q
/-- a step of the search for the first -/
theorem jF_n {k : Nat} (h : jF lk T i s g k = -9) (c : (lk i k = 0 ∨ s.testBit k = true) ∨ lk i k + T (s ||| 2 ^ k) ≠ g) : jF lk T i s g (k + 1) = -9 := by
  simp only [jF]
  rw [if_pos h]
  by_cases a : lk i k = 0 ∨ s.testBit k = true
  · rw [if_pos a]
  · rw [if_neg a, if_neg (c.resolve_left a)]
theorem jF_y {k : Nat} (h : jF lk T i s g k = -9) (a : ¬ (lk i k = 0 ∨ s.testBit k = true)) (c : lk i k + T (s ||| 2 ^ k) = g) : jF lk T i s g (k + 1) = nI k := by
  simp only [jF]
  rw [if_pos h, if_neg a, if_pos c]
end JJ
/-- subsets, downwards -/
theorem and_2 (a b : Nat) : a &&& b = 2 * (a / 2 &&& b / 2) + (a % 2 &&& b % 2) := by
  have h1 : (a &&& b) / 2 ^ 1 = a / 2 ^ 1 &&& b / 2 ^ 1 := Nat.and_div_two_pow
  have h2 : (a &&& b) % 2 ^ 1 = (a % 2 ^ 1) &&& (b % 2 ^ 1) := Nat.and_mod_two_pow
  rw [show (2 : Nat) ^ 1 = 2 from rfl] at h1 h2
  omega
theorem and_b : ∀ a, a < 2 → ∀ b, b < 2 → a &&& b = a * b := by decide
theorem sub_nx : ∀ (t w s : Nat), s &&& w = s → t &&& w = t → s < t → s ≤ (t - 1) &&& w := by
  intro t
  induction t using Nat.strongRecOn with
  | ind t ih =>
    intro w s hs ht hlt
    rw [and_2 s w] at hs
    rw [and_2 t w] at ht
    have b1 := and_b (s % 2) (by omega) (w % 2) (by omega)
    have b2 := and_b (t % 2) (by omega) (w % 2) (by omega)
    have q1 : s / 2 &&& w / 2 ≤ s / 2 := Nat.and_le_left
    have q2 : t / 2 &&& w / 2 ≤ t / 2 := Nat.and_le_left
    have m1 : s % 2 &&& w % 2 ≤ s % 2 := Nat.and_le_left
    have m2 : t % 2 &&& w % 2 ≤ t % 2 := Nat.and_le_left
    have hs1 : s / 2 &&& w / 2 = s / 2 := by omega
    have hs2 : s % 2 &&& w % 2 = s % 2 := by omega
    have ht1 : t / 2 &&& w / 2 = t / 2 := by omega
    rw [and_2 (t - 1) w]
    rcases Nat.mod_two_eq_zero_or_one t with z | z
    · have e1 : (t - 1) / 2 = t / 2 - 1 := by omega
      have e2 : (t - 1) % 2 = 1 := by omega
      have b3 := and_b 1 (by omega) (w % 2) (by omega)
      rw [e1, e2, b3]
      have hw : s % 2 ≤ 1 * (w % 2) := by
        rw [b1] at hs2
        rcases Nat.mod_two_eq_zero_or_one s with y | y
        · omega
        · rcases Nat.mod_two_eq_zero_or_one w with x | x
          · rw [y, x] at hs2; omega
          · omega
      have := ih (t / 2) (by omega) (w / 2) (s / 2) hs1 ht1 (by omega)
      omega
    · have e1 : (t - 1) / 2 = t / 2 := by omega
      have e2 : (t - 1) % 2 = 0 := by omega
      rw [e1, e2, ht1, Nat.zero_and]
      omega
theorem sub_in (t w : Nat) : ((t - 1) &&& w) &&& w = (t - 1) &&& w := by rw [Nat.and_assoc, Nat.and_self]
/-- a subset with one more -/
theorem bit_sub {s w : Nat} : s &&& w = s ↔ ∀ j, s.testBit j = true → w.testBit j = true := by
  constructor
  · intro h j hj
    rw [← h, Nat.testBit_and] at hj
    simp only [Bool.and_eq_true] at hj
    exact hj.2
  · intro h
    apply Nat.eq_of_testBit_eq
    intro j
    rw [Nat.testBit_and]
    cases q : s.testBit j with
    | false => rfl
    | true => rw [h j q]; rfl
theorem pop_or1 {s k : Nat} (hs : s < 1024) (hk : k < 10) (hb : ¬ s.testBit k = true) : popN (s ||| 2 ^ k) = popN s + 1 := by
  unfold popN
  have key : ∀ n, k < n → ((List.range n).filter (fun i => (s ||| 2 ^ k).testBit i)).length = ((List.range n).filter (fun i => s.testBit i)).length + 1 := by
    have low : ∀ n, n ≤ k → ((List.range n).filter (fun i => (s ||| 2 ^ k).testBit i)).length = ((List.range n).filter (fun i => s.testBit i)).length := by
      intro n
      induction n with
      | zero => intro _; rfl
      | succ n ih =>
        intro h
        have e : (s ||| 2 ^ k).testBit n = s.testBit n := by rw [Nat.testBit_or, Nat.testBit_two_pow]; simp; omega
        rw [List.range_succ, List.filter_append, List.filter_append, List.length_append, List.length_append, ih (by omega)]
        congr 1
        simp only [List.filter_cons, List.filter_nil, e]
    intro n
    induction n with
    | zero => intro h; exact absurd h (Nat.not_lt_zero _)
    | succ n ih =>
      intro h
      rw [List.range_succ, List.filter_append, List.filter_append, List.length_append, List.length_append]
      by_cases e : k = n
      · subst e
        rw [low k (Nat.le_refl _)]
        have a : (s ||| 2 ^ k).testBit k = true := by rw [Nat.testBit_or, Nat.testBit_two_pow_self]; simp
        have b : s.testBit k = false := by cases q : s.testBit k with
          | false => rfl
          | true => exact absurd q hb
        simp only [List.filter_cons, List.filter_nil, a, b, if_true, Bool.false_eq_true, if_false, List.length_cons, List.length_nil]
      · rw [ih (by omega)]
        have a : (s ||| 2 ^ k).testBit n = s.testBit n := by rw [Nat.testBit_or, Nat.testBit_two_pow]; simp; omega
        simp only [List.filter_cons, List.filter_nil, a]
        omega
  exact key 12 (by omega)
/-- the class's arrays: what it reads -/
def jL (lk : Nat → Nat → Nat) (n m : Nat) (L : Nat → Int32) : Prop := ∀ i, i < n → ∀ k, k < m → L (i * 10 + k) = nI (lk i k)
def jR (lk : Nat → Nat → Nat) (n m : Nat) (rc : Nat → Nat) : Prop := rc 0 = 0 ∧ (∀ i, i < n → ∀ k, k < m → lk i k ≠ 0 → (rc (i + 1)).testBit k = true) ∧ (∀ i, i < n → ∀ k, (rc i).testBit k = true → (rc (i + 1)).testBit k = true)
def jB (lk : Nat → Nat → Nat) (n m : Nat) (rc : Nat → Nat) (l0 : Nat) (bs : Nat → Int32) : Prop := ∀ l, l0 ≤ l → l ≤ n → ∀ s, s &&& rc l = s → popN s ≤ l → bs (l * 1024 + s) = nI (jS lk m (n - l) l s)
section JC
variable {lk : Nat → Nat → Nat} {T : Nat → Nat} {n m i s : Nat} {L bs : Nat → Int32} {rc : Nat → Nat}
theorem vj_e {k : Nat} (hL : jL lk n m L) (hl : ∀ i k, lk i k ≤ 300) (hi : i < n) (hk : k < m) (h1 : ¬ (lk i k = 0 ∨ s.testBit k = true) → bs ((i + 1) * 1024 + (s ||| 2 ^ k)) = nI (T (s ||| 2 ^ k))) : vjF L bs i s k = if lk i k = 0 ∨ s.testBit k = true then -1 else nI (lk i k + T (s ||| 2 ^ k)) := by
  unfold vjF
  have e := hL i hi k hk
  have b := hl i k
  have z : nI (lk i k) = 0 ↔ lk i k = 0 := nI_j (b := 0) (by omega) (by omega)
  rw [e]
  by_cases c : lk i k = 0 ∨ s.testBit k = true
  · rw [if_pos c, if_pos (by rw [z]; exact c)]
  · rw [if_neg c, if_neg (by rw [z]; exact c), h1 c, nI_add]
theorem wj_e (hL : jL lk n m L) (hl : ∀ i k, lk i k ≤ 300) (hi : i < n) (hT : ∀ s, T s ≤ 3000) (h0 : bs ((i + 1) * 1024 + s) = nI (T s)) (h1 : ∀ k, k < m → ¬ (lk i k = 0 ∨ s.testBit k = true) → bs ((i + 1) * 1024 + (s ||| 2 ^ k)) = nI (T (s ||| 2 ^ k))) : ∀ k, k ≤ m → wjF L bs i s k = nI (jM lk T i s k) := by
  intro k
  induction k with
  | zero => intro _; exact h0
  | succ k ih =>
    intro hk
    have b1 := jM_le (i := i) (s := s) hT hl k
    have b2 := hl i k
    have b3 := hT (s ||| 2 ^ k)
    simp only [wjF, jM]
    rw [ih (by omega), vj_e (T := T) hL hl hi (by omega) (h1 k (by omega))]
    by_cases c : lk i k = 0 ∨ s.testBit k = true
    · rw [if_pos c, if_pos c, if_neg]
      intro w
      rw [i_lt, nI_toInt (by omega), show (-1 : Int32).toInt = -1 from rfl] at w
      omega
    · rw [if_neg c, if_neg c]
      exact nv_max rfl rfl (by omega) (by omega)
/-- where the state and what follows it are in reach -/
theorem jB_0 (hR : jR lk n m rc) (hB : jB lk n m rc (i + 1) bs) (hi : i < n) (hs : s &&& rc i = s) (hp : popN s ≤ i) : bs ((i + 1) * 1024 + s) = nI (jS lk m (n - (i + 1)) (i + 1) s) :=
  hB (i + 1) (Nat.le_refl _) hi s (bit_sub.mpr (fun j hj => hR.2.2 i hi j (bit_sub.mp hs j hj))) (by omega)
theorem jB_1 {k : Nat} (hR : jR lk n m rc) (hB : jB lk n m rc (i + 1) bs) (hi : i < n) (hm : m ≤ 10) (h10 : s < 1024) (hs : s &&& rc i = s) (hp : popN s ≤ i) (hk : k < m) (c : ¬ (lk i k = 0 ∨ s.testBit k = true)) : bs ((i + 1) * 1024 + (s ||| 2 ^ k)) = nI (jS lk m (n - (i + 1)) (i + 1) (s ||| 2 ^ k)) := by
  apply hB (i + 1) (Nat.le_refl _) hi
  · rw [bit_sub]
    intro j hj
    rw [Nat.testBit_or, Bool.or_eq_true] at hj
    rcases hj with hj | hj
    · exact hR.2.2 i hi j (bit_sub.mp hs j hj)
    · rw [Nat.testBit_two_pow, decide_eq_true_eq] at hj
      rw [← hj]
      exact hR.2.1 i hi k hk (fun w => c (Or.inl w))
  · rw [pop_or1 h10 (by omega) (fun w => c (Or.inr w))]; omega
theorem wj_S (hL : jL lk n m L) (hl : ∀ i k, lk i k ≤ 300) (hR : jR lk n m rc) (hB : jB lk n m rc (i + 1) bs) (hi : i < n) (hn : n ≤ 10) (hm : m ≤ 10) (h10 : s < 1024) (hs : s &&& rc i = s) (hp : popN s ≤ i) : wjF L bs i s m = nI (jS lk m (n - i) i s) := by
  rw [wj_e (T := jS lk m (n - (i + 1)) (i + 1)) hL hl hi (fun s => by have := jS_le (m := m) hl (n - (i + 1)) (i + 1) s; omega) (jB_0 hR hB hi hs hp) (fun k hk c => jB_1 hR hB hi hm h10 hs hp hk c) m (Nat.le_refl _)]
  rw [show n - i = (n - (i + 1)) + 1 by omega]
  rfl
/-- a level of states -/
def jI (lk : Nat → Nat → Nat) (n m : Nat) (rc : Nat → Nat) (i t : Nat) (bs : Nat → Int32) : Prop := ∀ s, s &&& rc i = s → t ≤ s → popN s ≤ i → bs (i * 1024 + s) = nI (jS lk m (n - i) i s)
theorem jI_0 : jI lk n m rc i (rc i + 1) bs := fun s hs ht _ => by
  have : s &&& rc i ≤ rc i := Nat.and_le_right
  omega
theorem jI_z (h : jI lk n m rc i 0 bs) (hB : jB lk n m rc (i + 1) bs) : jB lk n m rc i bs := by
  intro l h1 h2 s hs hp
  by_cases e : l = i
  · subst e; exact h s hs (Nat.zero_le _) hp
  · exact hB l (by omega) h2 s hs hp
/-- behind the state s: the next one is t - 1 -/
theorem jI_n {t : Nat} (h : jI lk n m rc i (s + 1) bs) (hs : s &&& rc i = s) (hv : popN s ≤ i → bs (i * 1024 + s) = nI (jS lk m (n - i) i s)) (ht : (s = 0 ∧ t = 0) ∨ (0 < s ∧ t = ((s - 1) &&& rc i) + 1)) : jI lk n m rc i t bs := by
  intro x hx h1 hp
  rcases Nat.lt_trichotomy x s with q | q | q
  · rcases ht with ⟨z, _⟩ | ⟨z, e⟩
    · omega
    · have := sub_nx s (rc i) x hx hs q
      omega
  · subst q; exact hv hp
  · exact h x hx (by omega) hp
theorem jI_w {v : Int32} (h : jI lk n m rc i (s + 1) bs) : jI lk n m rc i (s + 1) (upd bs (i * 1024 + s) v) := by
  intro x hx h1 hp
  simp only [upd, if_neg (by omega : ¬ i * 1024 + x = i * 1024 + s)]
  exact h x hx h1 hp
theorem jB_w {v : Int32} (h10 : s < 1024) (hr : ∀ j, j < 11 → rc j < 1024) (hn : n ≤ 10) (h : jB lk n m rc (i + 1) bs) : jB lk n m rc (i + 1) (upd bs (i * 1024 + s) v) := by
  intro l h1 h2 x hx hp
  have b := hr l (by omega)
  have : x &&& rc l ≤ rc l := Nat.and_le_right
  simp only [upd, if_neg (by omega : ¬ l * 1024 + x = i * 1024 + s)]
  exact h l h1 h2 x hx hp
theorem jB_t : jB lk n m rc (n + 1) bs := fun l h1 h2 => by omega
/-- the way of the first joining stays in reach -/
theorem jT_ok (hl : ∀ i k, lk i k ≤ 300) (hR : jR lk n m rc) (hm : m ≤ 10) : ∀ l, l ≤ n → jTk lk m n l < 1024 ∧ jTk lk m n l &&& rc l = jTk lk m n l ∧ popN (jTk lk m n l) ≤ l := by
  intro l
  induction l with
  | zero => intro _; exact ⟨by simp [jTk], by simp [jTk], by simp only [jTk]; rw [pop_0]; exact Nat.le_refl _⟩
  | succ l ih =>
    intro h
    obtain ⟨h1, h2, h3⟩ := ih (by omega)
    rw [jT_s]
    have up : ∀ j, (jTk lk m n l).testBit j = true → (rc (l + 1)).testBit j = true := fun j hj => hR.2.2 l (by omega) j (bit_sub.mp h2 j hj)
    rcases jF_q (lk := lk) (T := jS lk m (n - l - 1) (l + 1)) (i := l) (s := jTk lk m n l) (g := jS lk m (n - l) l (jTk lk m n l)) m (by omega) with ⟨e, _⟩ | ⟨q, q1, q2, q3, q4⟩
    · have e2 : jP lk m n l = -9 := e
      rw [if_pos e2]
      exact ⟨h1, bit_sub.mpr up, by omega⟩
    · have e2 : jP lk m n l = nI q := q2
      rw [if_neg (by rw [e2]; exact nI_9 (by omega)), e2, jn_nI (by omega)]
      refine ⟨or_k h1 (by omega), bit_sub.mpr (fun j hj => ?_), ?_⟩
      · rw [Nat.testBit_or, Bool.or_eq_true] at hj
        rcases hj with hj | hj
        · exact up j hj
        · rw [Nat.testBit_two_pow, decide_eq_true_eq] at hj
          rw [← hj]
          exact hR.2.1 l (by omega) q q1 (fun w => q3 (Or.inl w))
      · rw [pop_or1 h1 (by omega) (fun w => q3 (Or.inr w))]; omega
end JC
section RL
variable {lk : Nat → Nat → Nat} {n m i k : Nat} {L : Nat → Int32} {rc : Nat → Nat} {o : Nat} {v : Int32}
theorem rl_1 (h : ∀ j, j < i → ∀ q, q < m → L (j * 10 + q) = nI (lk j q)) (hm : m ≤ 10) (hk : k < m) : ∀ j, j < i → ∀ q, q < m → upd L (i * 10 + k) v (j * 10 + q) = nI (lk j q) := by
  intro j hj q hq
  simp only [upd, if_neg (by omega : ¬ j * 10 + q = i * 10 + k)]
  exact h j hj q hq
theorem rl_2 (h : ∀ q, q < k → L (i * 10 + q) = nI (lk i q)) (hv : v = nI (lk i k)) : ∀ q, q < k + 1 → upd L (i * 10 + k) v (i * 10 + q) = nI (lk i q) := by
  intro q hq
  by_cases e : q = k
  · subst e; simp only [upd, if_pos]; exact hv
  · simp only [upd, if_neg (by omega : ¬ i * 10 + q = i * 10 + k)]
    exact h q (by omega)
theorem rl_3 (h : ∀ j, j < i → ∀ q, q < m → L (j * 10 + q) = nI (lk j q)) (h2 : ∀ q, q < k → L (i * 10 + q) = nI (lk i q)) (e : k = m) : ∀ j, j < i + 1 → ∀ q, q < m → L (j * 10 + q) = nI (lk j q) := by
  subst e
  intro j hj
  by_cases c : j = i
  · subst c; exact h2
  · exact h j (by omega)
theorem ro_1 (h : ∀ q, q < k → lk i q ≠ 0 → o.testBit q = true) : ∀ q, q < k + 1 → lk i q ≠ 0 → (o ||| 2 ^ k).testBit q = true := by
  intro q hq hn
  rw [Nat.testBit_or]
  by_cases e : q = k
  · subst e; rw [Nat.testBit_two_pow_self]; simp
  · rw [h q (by omega) hn]; rfl
theorem ro_0 (h : ∀ q, q < k → lk i q ≠ 0 → o.testBit q = true) (z : lk i k = 0) : ∀ q, q < k + 1 → lk i q ≠ 0 → o.testBit q = true := by
  intro q hq hn
  by_cases e : q = k
  · subst e; exact absurd z hn
  · exact h q (by omega) hn
theorem rr_0' {w : Nat} (h : rc 0 = 0) : un rc (i + 1) w 0 = 0 := by rw [un_n (by omega)]; exact h
theorem rr_2 (h : ∀ j, j < i → ∀ q, q < m → lk j q ≠ 0 → (rc (j + 1)).testBit q = true) (ho : ∀ q, q < k → lk i q ≠ 0 → o.testBit q = true) (e : k = m) : ∀ j, j < i + 1 → ∀ q, q < m → lk j q ≠ 0 → (un rc (i + 1) (rc i ||| o) (j + 1)).testBit q = true := by
  subst e
  intro j hj q hq hn
  by_cases c : j = i
  · subst c; rw [un_s, Nat.testBit_or, ho q hq hn]; simp
  · rw [un_n (by omega)]; exact h j (by omega) q hq hn
theorem rr_3 (h : ∀ j, j < i → ∀ q, (rc j).testBit q = true → (rc (j + 1)).testBit q = true) : ∀ j, j < i + 1 → ∀ q, (un rc (i + 1) (rc i ||| o) j).testBit q = true → (un rc (i + 1) (rc i ||| o) (j + 1)).testBit q = true := by
  intro j hj q
  rw [un_n (by omega : j ≠ i + 1)]
  by_cases c : j = i
  · subst c; rw [un_s, Nat.testBit_or]; intro w; rw [w]; rfl
  · rw [un_n (by omega)]; exact h j (by omega) q
theorem lk_p {x : Nat} (hx : x ≤ 300) (h : ¬ (0 : Int32) < nI x) : x = 0 := by
  rw [i_lt, nI_toInt (by omega), show (0 : Int32).toInt = 0 from rfl] at h
  omega
end RL
section FT
variable {lk : Nat → Nat → Nat} {n m i s k : Nat} {L bs : Nat → Int32} {rc : Nat → Nat}
/-- the first choice, by the class's arrays -/
theorem ft_e (hL : jL lk n m L) (hl : ∀ i k, lk i k ≤ 300) (hR : jR lk n m rc) (hB : jB lk n m rc 0 bs) (hi : i < n) (hn : n ≤ 10) (hm : m ≤ 10) (h10 : s < 1024) (hs : s &&& rc i = s) (hp : popN s ≤ i) (hk : k < m) : vjF L bs i s k = bs (i * 1024 + s) ↔ (¬ (lk i k = 0 ∨ s.testBit k = true) ∧ lk i k + jS lk m (n - i - 1) (i + 1) (s ||| 2 ^ k) = jS lk m (n - i) i s) := by
  have hB1 : jB lk n m rc (i + 1) bs := fun l h1 h2 => hB l (Nat.zero_le _) h2
  have b1 := jS_le (m := m) hl (n - (i + 1)) (i + 1) (s ||| 2 ^ k)
  have b2 := jS_le (m := m) hl (n - i) i s
  have b3 := hl i k
  rw [hB i (Nat.zero_le _) (by omega) s hs hp, vj_e (T := jS lk m (n - (i + 1)) (i + 1)) hL hl hi hk (fun c => jB_1 hR hB1 hi hm h10 hs hp hk c), show n - i - 1 = n - (i + 1) by omega]
  by_cases c : lk i k = 0 ∨ s.testBit k = true
  · rw [if_pos c]
    constructor
    · intro e
      have q := congrArg Int32.toInt e
      rw [nI_toInt (by omega), show (-1 : Int32).toInt = -1 from rfl] at q
      omega
    · intro q; exact absurd c q.1
  · rw [if_neg c, nI_j (by omega) (by omega)]
    exact ⟨fun e => ⟨c, e⟩, fun e => e.2⟩
theorem jB_00 (hB : jB lk n m rc 0 bs) : bs 0 = nI (jS lk m n 0 0) := hB 0 (Nat.le_refl _) (Nat.zero_le _) 0 (Nat.zero_and _) (by rw [pop_0]; exact Nat.le_refl _)
end FT
section JQ
variable {lk : Nat → Nat → Nat} {n m i s k : Nat} {v : Int32} {pt : Nat → Int32}
theorem jP_1 (hs : s = jTk lk m n i) (hk : k = m) (hv : v = jF lk (jS lk m (n - i - 1) (i + 1)) i s (jS lk m (n - i) i s) k) : jP lk m n i = v := by
  subst hs; subst hk; exact hv.symm
theorem jP_2 (hs : s = jTk lk m n i) (hk : k ≤ m) (h9 : ¬ v = -9) (hv : v = jF lk (jS lk m (n - i - 1) (i + 1)) i s (jS lk m (n - i) i s) k) : jP lk m n i = v := by
  subst hs
  rw [hv] at h9
  rw [hv]
  exact jF_le h9 hk
theorem jP_lt {l q : Nat} (hm : m ≤ 1000) (hq : q < 1000) (h : jP lk m n l = nI q) : q < m := by
  unfold jP at h
  rcases jF_q (lk := lk) (T := jS lk m (n - l - 1) (l + 1)) (i := l) (s := jTk lk m n l) (g := jS lk m (n - l) l (jTk lk m n l)) m hm with ⟨e, _⟩ | ⟨r, r1, r2, _⟩
  · rw [e] at h; exact absurd h.symm (nI_9 (by omega))
  · rw [r2] at h; have := (nI_j (by omega) (by omega)).mp h; omega
theorem pt_up (h : ∀ j, j < i → pt j = jP lk m n j) (hv : v = jP lk m n i) : ∀ j, j < i + 1 → upd pt i v j = jP lk m n j := by
  intro j hj
  by_cases e : j = i
  · subst e; simp only [upd, if_pos]; exact hv
  · simp only [upd, if_neg e]; exact h j (by omega)
theorem ft_n {A X Y : Prop} (h : A ↔ (¬ X ∧ Y)) (hA : ¬ A) : X ∨ ¬ Y := by
  by_cases x : X
  · exact Or.inl x
  · exact Or.inr (fun y => hA (h.mpr ⟨x, y⟩))
end JQ
/-- how many: ways -/
abbrev oK (lk : Nat → Nat → Nat) (T : Nat → Nat) (i s g k : Nat) : Prop := ¬ (lk i k = 0 ∨ s.testBit k = true) ∧ lk i k + T (s ||| 2 ^ k) = g
def jN (lk : Nat → Nat → Nat) (T c : Nat → Nat) (i s g : Nat) : Nat → Nat
  | 0 => 0
  | k + 1 => if oK lk T i s g k then jN lk T c i s g k + c (s ||| 2 ^ k) else jN lk T c i s g k
def jC (lk : Nat → Nat → Nat) (m : Nat) : Nat → Nat → Nat → Nat
  | 0, _, _ => 1
  | r + 1, i, s => jN lk (jS lk m r (i + 1)) (jC lk m r (i + 1)) i s (jS lk m (r + 1) i s) m + (if jS lk m r (i + 1) s = jS lk m (r + 1) i s then jC lk m r (i + 1) s else 0)
def sS (f c : Nat → Nat) : Nat → Nat
  | 0 => 0
  | k + 1 => sS f c k + f k * c k
theorem sS_hi {f c : Nat → Nat} {s x : Nat} : ∀ N, N ≤ s → sS (un f s x) c N = sS f c N := by
  intro N
  induction N with
  | zero => intro _; rfl
  | succ N ih => intro h; simp only [sS]; rw [ih (by omega), un_n (by omega)]
theorem sS_un {f c : Nat → Nat} {s x : Nat} : ∀ N, s < N → sS (un f s x) c N + f s * c s = sS f c N + x * c s := by
  intro N
  induction N with
  | zero => intro h; exact absurd h (Nat.not_lt_zero _)
  | succ N ih =>
    intro h
    simp only [sS]
    by_cases e : N = s
    · subst e; rw [sS_hi N (Nat.le_refl _), un_s]; omega
    · have := ih (by omega); rw [un_n e]; omega
theorem sS_0 {f c : Nat → Nat} (h : ∀ x, f x = 0) : ∀ N, sS f c N = 0 := by
  intro N
  induction N with
  | zero => rfl
  | succ N ih => simp only [sS]; rw [ih, h N, Nat.zero_mul]
theorem sS_1 {c : Nat → Nat} : ∀ N, 0 < N → sS (un (fun _ => 0) 0 1) c N = c 0 := by
  intro N hN
  have q : sS (un (fun _ => 0) 0 1) c N + 0 * c 0 = 0 + 1 * c 0 := by
    have w := sS_un (f := fun _ => 0) (c := c) (s := 0) (x := 1) N hN
    rw [sS_0 (f := fun _ => 0) (fun _ => rfl) N] at w
    exact w
  omega
/-- the counts passed on -/
def gA (lk : Nat → Nat → Nat) (T : Nat → Nat) (i s g x : Nat) (f : Nat → Nat) : Nat → Nat → Nat
  | 0 => f
  | k + 1 => if oK lk T i s g k then un (gA lk T i s g x f k) (s ||| 2 ^ k) (gA lk T i s g x f k (s ||| 2 ^ k) + x) else gA lk T i s g x f k
def gP (lk : Nat → Nat → Nat) (T : Nat → Nat) (i s g x : Nat) (f : Nat → Nat) (m : Nat) : Nat → Nat := if T s = g then un (gA lk T i s g x f m) s (gA lk T i s g x f m s + x) else gA lk T i s g x f m
def jH (lk : Nat → Nat → Nat) (T : Nat → Nat) (i s g : Nat) : Nat → Nat
  | 0 => 0
  | k + 1 => if oK lk T i s g k then jH lk T i s g k ||| 2 ^ k else jH lk T i s g k
def jHH (lk : Nat → Nat → Nat) (T : Nat → Nat) (i s g m : Nat) : Nat := if T s = g then jH lk T i s g m ||| 1024 else jH lk T i s g m
section GA
variable {lk : Nat → Nat → Nat} {T c f : Nat → Nat} {m i s g x k : Nat}
theorem gA_S (hs : s < 1024) : ∀ k, k ≤ 10 → sS (gA lk T i s g x f k) c 1024 = sS f c 1024 + x * jN lk T c i s g k := by
  intro k
  induction k with
  | zero => intro _; simp only [gA, jN, Nat.mul_zero, Nat.add_zero]
  | succ k ih =>
    intro hk
    have e := ih (by omega)
    simp only [gA, jN]
    by_cases o : oK lk T i s g k
    · rw [if_pos o, if_pos o]
      have q := sS_un (f := gA lk T i s g x f k) (c := c) (s := s ||| 2 ^ k) (x := gA lk T i s g x f k (s ||| 2 ^ k) + x) 1024 (or_k hs (by omega))
      rw [Nat.add_mul] at q
      rw [Nat.mul_add]
      omega
    · rw [if_neg o, if_neg o]; exact e
theorem gP_S (hs : s < 1024) (hm : m ≤ 10) : sS (gP lk T i s g x f m) c 1024 = sS f c 1024 + x * (jN lk T c i s g m + if T s = g then c s else 0) := by
  have e := gA_S (lk := lk) (T := T) (c := c) (i := i) (g := g) (x := x) (f := f) hs m hm
  unfold gP
  by_cases o : T s = g
  · rw [if_pos o, if_pos o]
    have q := sS_un (f := gA lk T i s g x f m) (c := c) (s := s) (x := gA lk T i s g x f m s + x) 1024 hs
    rw [Nat.add_mul] at q
    rw [Nat.mul_add]
    omega
  · rw [if_neg o, if_neg o, Nat.add_zero]; exact e
theorem gA_pos (hx : 0 < x) : ∀ k y, 0 < gA lk T i s g x f k y ↔ 0 < f y ∨ ∃ q, q < k ∧ oK lk T i s g q ∧ y = s ||| 2 ^ q := by
  intro k
  induction k with
  | zero =>
    intro y
    simp only [gA]
    constructor
    · intro h; exact Or.inl h
    · rintro (h | ⟨q, h1, _⟩)
      · exact h
      · exact absurd h1 (Nat.not_lt_zero _)
  | succ k ih =>
    intro y
    simp only [gA]
    by_cases o : oK lk T i s g k
    · rw [if_pos o]
      by_cases e : y = s ||| 2 ^ k
      · constructor
        · intro _; exact Or.inr ⟨k, Nat.lt_succ_self _, o, e⟩
        · intro _; rw [e, un_s]; omega
      · rw [un_n e, ih y]
        constructor
        · rintro (h | ⟨q, h1, h2⟩)
          · exact Or.inl h
          · exact Or.inr ⟨q, by omega, h2⟩
        · rintro (h | ⟨q, h1, h2, h3⟩)
          · exact Or.inl h
          · have : q ≠ k := fun w => e (by rw [h3, w])
            exact Or.inr ⟨q, by omega, h2, h3⟩
    · rw [if_neg o, ih y]
      constructor
      · rintro (h | ⟨q, h1, h2⟩)
        · exact Or.inl h
        · exact Or.inr ⟨q, by omega, h2⟩
      · rintro (h | ⟨q, h1, h2, h3⟩)
        · exact Or.inl h
        · have : q ≠ k := fun w => o (w ▸ h2)
          exact Or.inr ⟨q, by omega, h2, h3⟩
theorem gP_pos (hx : 0 < x) (y : Nat) : 0 < gP lk T i s g x f m y ↔ 0 < f y ∨ ((∃ q, q < m ∧ oK lk T i s g q ∧ y = s ||| 2 ^ q) ∨ (T s = g ∧ y = s)) := by
  have a := gA_pos (lk := lk) (T := T) (i := i) (s := s) (g := g) (f := f) hx m y
  unfold gP
  by_cases o : T s = g
  · rw [if_pos o]
    by_cases e : y = s
    · constructor
      · intro _; exact Or.inr (Or.inr ⟨o, e⟩)
      · intro _; rw [e, un_s]; omega
    · rw [un_n e, a]
      constructor
      · rintro (h | h)
        · exact Or.inl h
        · exact Or.inr (Or.inl h)
      · rintro (h | h | ⟨_, h⟩)
        · exact Or.inl h
        · exact Or.inr h
        · exact absurd h e
  · rw [if_neg o, a]
    constructor
    · rintro (h | h)
      · exact Or.inl h
      · exact Or.inr (Or.inl h)
    · rintro (h | h | ⟨h, _⟩)
      · exact Or.inl h
      · exact Or.inr h
      · exact absurd h o
theorem jH_lt : ∀ k, k ≤ 10 → jH lk T i s g k < 1024 := by
  intro k
  induction k with
  | zero => intro _; exact Nat.two_pow_pos 10
  | succ k ih =>
    intro hk
    simp only [jH]
    split
    · exact or_k (ih (by omega)) (by omega)
    · exact ih (by omega)
theorem jH_t : ∀ k q, (jH lk T i s g k).testBit q = true ↔ q < k ∧ oK lk T i s g q := by
  intro k
  induction k with
  | zero => intro q; simp only [jH, Nat.zero_testBit]; exact ⟨fun h => absurd h (by decide), fun h => absurd h.1 (Nat.not_lt_zero _)⟩
  | succ k ih =>
    intro q
    simp only [jH]
    by_cases o : oK lk T i s g k
    · rw [if_pos o, Nat.testBit_or, Bool.or_eq_true, ih q, Nat.testBit_two_pow, decide_eq_true_eq]
      constructor
      · rintro (⟨h1, h2⟩ | h)
        · exact ⟨by omega, h2⟩
        · exact ⟨by omega, h ▸ o⟩
      · rintro ⟨h1, h2⟩
        by_cases e : k = q
        · exact Or.inr e
        · exact Or.inl ⟨by omega, h2⟩
    · rw [if_neg o, ih q]
      constructor
      · rintro ⟨h1, h2⟩; exact ⟨by omega, h2⟩
      · rintro ⟨h1, h2⟩
        have : q ≠ k := fun w => o (w ▸ h2)
        exact ⟨by omega, h2⟩
theorem jHH_t (q : Nat) : (jHH lk T i s g m).testBit q = true ↔ (q < m ∧ oK lk T i s g q) ∨ (q = 10 ∧ T s = g) := by
  unfold jHH
  by_cases o : T s = g
  · rw [if_pos o, Nat.testBit_or, Bool.or_eq_true, jH_t m q, show (1024 : Nat) = 2 ^ 10 from rfl, Nat.testBit_two_pow, decide_eq_true_eq]
    constructor
    · rintro (h | h)
      · exact Or.inl h
      · exact Or.inr ⟨h.symm, o⟩
    · rintro (h | h)
      · exact Or.inl h
      · exact Or.inr h.1.symm
  · rw [if_neg o, jH_t m q]
    constructor
    · intro h; exact Or.inl h
    · rintro (h | h)
      · exact h
      · exact absurd h.2 o
theorem or_2k {a b : Nat} (ha : a < 2048) (hb : b < 2048) : a ||| b < 2048 := Nat.or_lt_two_pow (n := 11) ha hb
theorem jHH_lt (hm : m ≤ 10) : jHH lk T i s g m < 2048 := by
  have := jH_lt (lk := lk) (T := T) (i := i) (s := s) (g := g) m hm
  unfold jHH
  split
  · exact or_2k (by omega) (by decide)
  · omega
/-- the reference's count -/
def jW (lk : Nat → Nat → Nat) (T c : Nat → Nat) (i s g k : Nat) : Nat := jN lk T c i s g k + if T s = g then c s else 0
theorem jN_0 : ∀ k, jM lk T i s k < g → jN lk T c i s g k = 0 := by
  intro k
  induction k with
  | zero => intro _; rfl
  | succ k ih =>
    intro h
    simp only [jM] at h
    simp only [jN]
    by_cases a : lk i k = 0 ∨ s.testBit k = true
    · rw [if_pos a] at h
      rw [if_neg (show ¬ oK lk T i s g k from fun o => o.1 a), ih h]
    · rw [if_neg a] at h
      rw [if_neg (show ¬ oK lk T i s g k from fun o => by have := o.2; omega), ih (by omega)]
theorem jW_0 : jW lk T c i s (jM lk T i s 0) 0 = c s := by simp [jW, jN, jM]
theorem jW_n (a : lk i k = 0 ∨ s.testBit k = true) : jW lk T c i s (jM lk T i s (k + 1)) (k + 1) = jW lk T c i s (jM lk T i s k) k := by
  have e : jM lk T i s (k + 1) = jM lk T i s k := by simp only [jM]; rw [if_pos a]
  rw [e]
  unfold jW
  simp only [jN]
  rw [if_neg (show ¬ oK lk T i s (jM lk T i s k) k from fun o => o.1 a)]
theorem jW_g (a : ¬ (lk i k = 0 ∨ s.testBit k = true)) (h : jM lk T i s k < lk i k + T (s ||| 2 ^ k)) : jW lk T c i s (jM lk T i s (k + 1)) (k + 1) = c (s ||| 2 ^ k) := by
  have e : jM lk T i s (k + 1) = lk i k + T (s ||| 2 ^ k) := by simp only [jM]; rw [if_neg a]; omega
  have z := jM_0 (lk := lk) (T := T) (i := i) (s := s) k
  rw [e]
  unfold jW
  simp only [jN]
  rw [if_pos (show oK lk T i s (lk i k + T (s ||| 2 ^ k)) k from ⟨a, rfl⟩), jN_0 k h, if_neg (by omega)]
  omega
theorem jW_e (a : ¬ (lk i k = 0 ∨ s.testBit k = true)) (h : jM lk T i s k = lk i k + T (s ||| 2 ^ k)) : jW lk T c i s (jM lk T i s (k + 1)) (k + 1) = jW lk T c i s (jM lk T i s k) k + c (s ||| 2 ^ k) := by
  have e : jM lk T i s (k + 1) = jM lk T i s k := by simp only [jM]; rw [if_neg a]; omega
  rw [e]
  unfold jW
  simp only [jN]
  rw [if_pos (show oK lk T i s (jM lk T i s k) k from ⟨a, h.symm⟩)]
  omega
theorem jW_l (a : ¬ (lk i k = 0 ∨ s.testBit k = true)) (h : lk i k + T (s ||| 2 ^ k) < jM lk T i s k) : jW lk T c i s (jM lk T i s (k + 1)) (k + 1) = jW lk T c i s (jM lk T i s k) k := by
  have e : jM lk T i s (k + 1) = jM lk T i s k := by simp only [jM]; rw [if_neg a]; omega
  rw [e]
  unfold jW
  simp only [jN]
  rw [if_neg (show ¬ oK lk T i s (jM lk T i s k) k from fun o => by have := o.2; omega)]
end GA
theorem jS_e {lk : Nat → Nat → Nat} {m n i s : Nat} (h : i < n) : jS lk m (n - i) i s = jM lk (jS lk m (n - i - 1) (i + 1)) i s m := by
  obtain ⟨d, hd⟩ : ∃ d, n - i = d + 1 := ⟨n - i - 1, by omega⟩
  rw [hd]
  rfl
theorem jC_e {lk : Nat → Nat → Nat} {m n i s : Nat} (h : i < n) : jC lk m (n - i) i s = jN lk (jS lk m (n - i - 1) (i + 1)) (jC lk m (n - i - 1) (i + 1)) i s (jS lk m (n - i) i s) m + (if jS lk m (n - i - 1) (i + 1) s = jS lk m (n - i) i s then jC lk m (n - i - 1) (i + 1) s else 0) := by
  obtain ⟨d, hd⟩ : ∃ d, n - i = d + 1 := ⟨n - i - 1, by omega⟩
  rw [hd]
  rfl
/-- the states of the best joinings -/
def jSt (lk : Nat → Nat → Nat) (m n i x y : Nat) : Prop := (∃ q, q < m ∧ oK lk (jS lk m (n - i - 1) (i + 1)) i x (jS lk m (n - i) i x) q ∧ y = x ||| 2 ^ q) ∨ (jS lk m (n - i - 1) (i + 1) x = jS lk m (n - i) i x ∧ y = x)
def jCh (lk : Nat → Nat → Nat) (m n i x q : Nat) : Prop := (q < m ∧ oK lk (jS lk m (n - i - 1) (i + 1)) i x (jS lk m (n - i) i x) q) ∨ (q = 10 ∧ jS lk m (n - i - 1) (i + 1) x = jS lk m (n - i) i x)
def jO (lk : Nat → Nat → Nat) (m n : Nat) : Nat → Nat → Prop
  | 0, t => t = 0
  | i + 1, t => ∃ x, jO lk m n i x ∧ jSt lk m n i x t
/-- without one pair -/
def lz (lk : Nat → Nat → Nat) (i q : Nat) : Nat → Nat → Nat := fun x y => if x = i ∧ y = q then 0 else lk x y
theorem lz_le {lk : Nat → Nat → Nat} {i q : Nat} (h : ∀ x y, lk x y ≤ 300) : ∀ x y, lz lk i q x y ≤ 300 := by
  intro x y
  unfold lz
  split
  · omega
  · exact h x y
theorem lz_n {lk : Nat → Nat → Nat} {i q x y : Nat} (h : x ≠ i ∨ y ≠ q) : lz lk i q x y = lk x y := by
  unfold lz
  rw [if_neg (by omega)]
theorem lz_s {lk : Nat → Nat → Nat} {i q : Nat} : lz lk i q i q = 0 := by
  unfold lz
  rw [if_pos ⟨rfl, rfl⟩]
/-- sure: without it, it is worse -/
abbrev jU (lk : Nat → Nat → Nat) (m n i : Nat) : Prop := jP lk m n i ≠ -9 ∧ jS (lz lk i (jn (jP lk m n i))) m n 0 0 < jS lk m n 0 0
section SU
variable {lk lk' : Nat → Nat → Nat} {T T' : Nat → Nat} {m n i s l k : Nat} {rc : Nat → Nat}
theorem jO_ok (hR : jR lk n m rc) (hm : m ≤ 10) : ∀ i, i ≤ n → ∀ t, jO lk m n i t → t < 1024 ∧ t &&& rc i = t ∧ popN t ≤ i := by
  intro i
  induction i with
  | zero =>
    intro _ t h
    have e : t = 0 := h
    subst e
    exact ⟨by decide, by simp, by rw [pop_0]; exact Nat.le_refl _⟩
  | succ i ih =>
    intro hi t h
    obtain ⟨x, hx, st⟩ := h
    obtain ⟨h1, h2, h3⟩ := ih (by omega) x hx
    have up : ∀ j, x.testBit j = true → (rc (i + 1)).testBit j = true := fun j hj => hR.2.2 i (by omega) j (bit_sub.mp h2 j hj)
    rcases st with ⟨q, q1, q2, q3⟩ | ⟨_, q3⟩
    · subst q3
      refine ⟨or_k h1 (by omega), bit_sub.mpr (fun j hj => ?_), ?_⟩
      · rw [Nat.testBit_or, Bool.or_eq_true] at hj
        rcases hj with hj | hj
        · exact up j hj
        · rw [Nat.testBit_two_pow, decide_eq_true_eq] at hj
          rw [← hj]
          exact hR.2.1 i (by omega) q q1 (fun w => q2.1 (Or.inl w))
      · rw [pop_or1 h1 (by omega) (fun w => q2.1 (Or.inr w))]; omega
    · subst q3
      exact ⟨h1, bit_sub.mpr up, by omega⟩
theorem jM_mono (h : ∀ y, lk' i y = 0 ∨ lk' i y = lk i y) (hT : ∀ s, T' s ≤ T s) : ∀ k, jM lk' T' i s k ≤ jM lk T i s k := by
  intro k
  induction k with
  | zero => exact hT s
  | succ k ih =>
    simp only [jM]
    by_cases a : lk' i k = 0 ∨ s.testBit k = true
    · rw [if_pos a]
      split
      · exact ih
      · omega
    · have e := (h k).resolve_left (fun w => a (Or.inl w))
      have t := hT (s ||| 2 ^ k)
      rw [if_neg a, if_neg (by rw [← e]; exact a)]
      omega
theorem jS_mono (h : ∀ x y, lk' x y = 0 ∨ lk' x y = lk x y) : ∀ r i s, jS lk' m r i s ≤ jS lk m r i s := by
  intro r
  induction r with
  | zero => intro i s; exact Nat.le_refl _
  | succ r ih => intro i s; simp only [jS]; exact jM_mono (h i) (ih (i + 1)) m
theorem lz_m : ∀ x y, lz lk l k x y = 0 ∨ lz lk l k x y = lk x y := by
  intro x y
  unfold lz
  split
  · exact Or.inl rfl
  · exact Or.inr rfl
theorem jM_cl (h : ∀ y, lk' i y = lk i y) (hT : ∀ s, T' s = T s) : ∀ k, jM lk' T' i s k = jM lk T i s k := by
  intro k
  induction k with
  | zero => exact hT s
  | succ k ih => simp only [jM]; rw [h k, ih, hT]
theorem jS_cl (h : ∀ x y, l < x → lk' x y = lk x y) : ∀ r i s, l < i → jS lk' m r i s = jS lk m r i s := by
  intro r
  induction r with
  | zero => intro i s _; rfl
  | succ r ih => intro i s hi; simp only [jS]; exact jM_cl (fun y => h i y hi) (fun s => ih (i + 1) s (by omega)) m
theorem jS_z (r s : Nat) : jS (lz lk l k) m r (l + 1) s = jS lk m r (l + 1) s := jS_cl (fun x y hx => lz_n (Or.inl (by omega))) r (l + 1) s (Nat.lt_succ_self l)
/-- the way back -/
theorem su_up (hl : l < n) : ∀ i, i ≤ l → ∀ s, jO lk m n i s → jS lk m (n - i) i s ≤ jS (lz lk l k) m (n - i) i s → jS lk m n 0 0 ≤ jS (lz lk l k) m n 0 0 := by
  intro i
  induction i with
  | zero =>
    intro _ s h e
    have z : s = 0 := h
    subst z
    exact e
  | succ i ih =>
    intro hi s h e
    obtain ⟨x, hx, st⟩ := h
    apply ih (by omega) x hx
    rw [Nat.sub_add_eq] at e
    rcases st with ⟨q, q1, q2, q3⟩ | ⟨q2, q3⟩
    · have a := lz_n (lk := lk) (i := l) (q := k) (x := i) (y := q) (Or.inl (by omega))
      have g := jM_ge (lk := lz lk l k) (T := jS (lz lk l k) m (n - i - 1) (i + 1)) (i := i) (s := x) (j := q) (by rw [a]; exact q2.1) m q1
      rw [← jS_e (show i < n by omega), a, ← q3] at g
      have h2 := q2.2
      rw [← q3] at h2
      omega
    · have g := jM_0 (lk := lz lk l k) (T := jS (lz lk l k) m (n - i - 1) (i + 1)) (i := i) (s := x) m
      rw [← jS_e (show i < n by omega)] at g
      subst q3
      omega
theorem su_a {q : Nat} (hl : l < n) (hO : jO lk m n l s) (hc : jCh lk m n l s q) (hq : q ≠ k) : jS lk m n 0 0 ≤ jS (lz lk l k) m n 0 0 := by
  refine su_up hl l (Nat.le_refl _) s hO ?_
  rcases hc with ⟨q1, q2⟩ | ⟨_, q2⟩
  · have a := lz_n (lk := lk) (i := l) (q := k) (x := l) (y := q) (Or.inr hq)
    have g := jM_ge (lk := lz lk l k) (T := jS (lz lk l k) m (n - l - 1) (l + 1)) (i := l) (s := s) (j := q) (by rw [a]; exact q2.1) m q1
    rw [← jS_e hl, a, jS_z] at g
    have := q2.2
    omega
  · have g := jM_0 (lk := lz lk l k) (T := jS (lz lk l k) m (n - l - 1) (l + 1)) (i := l) (s := s) m
    rw [← jS_e hl, jS_z] at g
    omega
theorem su_dn (hl : l < n) (h : jS lk m n 0 0 ≤ jS (lz lk l k) m n 0 0) : ∀ i, i ≤ l → ∃ s, jO lk m n i s ∧ jS lk m (n - i) i s ≤ jS (lz lk l k) m (n - i) i s := by
  intro i
  induction i with
  | zero => intro _; exact ⟨0, rfl, h⟩
  | succ i ih =>
    intro hi
    obtain ⟨s, hO, e⟩ := ih (by omega)
    have w := jM_at (lk := lz lk l k) (T := jS (lz lk l k) m (n - i - 1) (i + 1)) (i := i) (s := s) m
    rw [← jS_e (show i < n by omega)] at w
    rw [Nat.sub_add_eq]
    rcases w with w | ⟨j, j1, j2, j3⟩
    · have b := jS_mono (m := m) (lz_m (lk := lk) (l := l) (k := k)) (n - i - 1) (i + 1) s
      have g := jM_0 (lk := lk) (T := jS lk m (n - i - 1) (i + 1)) (i := i) (s := s) m
      rw [← jS_e (show i < n by omega)] at g
      exact ⟨s, ⟨s, hO, Or.inr ⟨by omega, rfl⟩⟩, by omega⟩
    · have a := lz_n (lk := lk) (i := l) (q := k) (x := i) (y := j) (Or.inl (by omega))
      rw [a] at j2 j3
      have b := jS_mono (m := m) (lz_m (lk := lk) (l := l) (k := k)) (n - i - 1) (i + 1) (s ||| 2 ^ j)
      have g := jM_ge (T := jS lk m (n - i - 1) (i + 1)) j2 m j1
      rw [← jS_e (show i < n by omega)] at g
      exact ⟨s ||| 2 ^ j, ⟨s, hO, Or.inl ⟨j, j1, ⟨j2, by omega⟩, rfl⟩⟩, by omega⟩
theorem su_b (hl : l < n) (hk : k < 10) (h : jS lk m n 0 0 ≤ jS (lz lk l k) m n 0 0) : ∃ s q, jO lk m n l s ∧ jCh lk m n l s q ∧ q ≠ k := by
  obtain ⟨s, hO, e⟩ := su_dn hl h l (Nat.le_refl _)
  have w := jM_at (lk := lz lk l k) (T := jS (lz lk l k) m (n - l - 1) (l + 1)) (i := l) (s := s) m
  rw [← jS_e hl] at w
  rcases w with w | ⟨j, j1, j2, j3⟩
  · rw [jS_z] at w
    have g := jM_0 (lk := lk) (T := jS lk m (n - l - 1) (l + 1)) (i := l) (s := s) m
    rw [← jS_e hl] at g
    exact ⟨s, 10, hO, Or.inr ⟨rfl, by omega⟩, by omega⟩
  · have hj : j ≠ k := fun w => j2 (Or.inl (by rw [w]; exact lz_s))
    have a := lz_n (lk := lk) (i := l) (q := k) (x := l) (y := j) (Or.inr hj)
    rw [a] at j2 j3
    rw [jS_z] at j3
    have g := jM_ge (T := jS lk m (n - l - 1) (l + 1)) j2 m j1
    rw [← jS_e hl] at g
    exact ⟨s, j, hO, Or.inl ⟨j1, ⟨j2, by omega⟩⟩, hj⟩
theorem jF_no (hl : l < n) (hm : m ≤ 1000) (h : jP lk m n l = -9) (s : Nat) (hs : s = jTk lk m n l) : jS lk m (n - l - 1) (l + 1) s = jS lk m (n - l) l s := by
  subst hs
  have w := jM_at (lk := lk) (T := jS lk m (n - l - 1) (l + 1)) (i := l) (s := jTk lk m n l) m
  rw [← jS_e hl] at w
  rcases w with w | ⟨j, j1, j2, j3⟩
  · exact w.symm
  · exfalso
    rcases jF_q (lk := lk) (T := jS lk m (n - l - 1) (l + 1)) (i := l) (s := jTk lk m n l) (g := jS lk m (n - l) l (jTk lk m n l)) m hm with ⟨_, e⟩ | ⟨q, q1, q2, _⟩
    · exact e j j1 j2 j3
    · have e2 : jP lk m n l = nI q := q2
      rw [e2] at h
      exact nI_9 (by omega) h
theorem jF_ye (hm : m ≤ 1000) (h : jP lk m n l ≠ -9) : ∃ q, q < m ∧ jP lk m n l = nI q ∧ oK lk (jS lk m (n - l - 1) (l + 1)) l (jTk lk m n l) (jS lk m (n - l) l (jTk lk m n l)) q := by
  rcases jF_q (lk := lk) (T := jS lk m (n - l - 1) (l + 1)) (i := l) (s := jTk lk m n l) (g := jS lk m (n - l) l (jTk lk m n l)) m hm with ⟨e, _⟩ | ⟨q, q1, q2, q3, q4⟩
  · exact absurd e h
  · exact ⟨q, q1, q2, q3, q4⟩
theorem jT_O (hm : m ≤ 1000) : ∀ l, l ≤ n → jO lk m n l (jTk lk m n l) := by
  intro l
  induction l with
  | zero => intro _; exact (show jTk lk m n 0 = 0 from rfl)
  | succ l ih =>
    intro hl
    refine ⟨jTk lk m n l, ih (by omega), ?_⟩
    rw [jT_s]
    by_cases c : jP lk m n l = -9
    · rw [if_pos c]
      exact Or.inr ⟨jF_no (by omega) hm c _ rfl, rfl⟩
    · obtain ⟨q, q1, q2, q3⟩ := jF_ye hm c
      rw [if_neg c, q2, jn_nI (by omega)]
      exact Or.inl ⟨q, q1, q3, rfl⟩
theorem pop_2 {c a b : Nat} (h : popN c = 1) (ha : c.testBit a = true) (hb : c.testBit b = true) (h1 : a < 12) (h2 : b < 12) : a = b := by
  unfold popN at h
  have p1 : a ∈ (List.range 12).filter (fun i => c.testBit i) := List.mem_filter.mpr ⟨List.mem_range.mpr h1, ha⟩
  have p2 : b ∈ (List.range 12).filter (fun i => c.testBit i) := List.mem_filter.mpr ⟨List.mem_range.mpr h2, hb⟩
  generalize (List.range 12).filter (fun i => c.testBit i) = L at h p1 p2
  cases L with
  | nil => exact absurd h (by decide)
  | cons z t =>
    cases t with
    | nil => simp only [List.mem_cons, List.not_mem_nil, or_false] at p1 p2; rw [p1, p2]
    | cons y t => simp at h
theorem pop_one {q : Nat} (h : q < 10) : popN (2 ^ q) = 1 := by
  have e := pop_or1 (s := 0) (k := q) (by decide) h (by simp)
  rw [Nat.zero_or, pop_0] at e
  exact e
/-- one choice alone -/
theorem cert {cm : Nat} (hl : l < n) (hm : m ≤ 10) (hc : ∀ q, cm.testBit q = true ↔ ∃ x, jO lk m n l x ∧ jCh lk m n l x q) : (popN cm = 1 ∧ cm < 1024) ↔ jU lk m n l := by
  have hO := jT_O (lk := lk) (m := m) (n := n) (by omega) l (by omega)
  constructor
  · rintro ⟨h1, h2⟩
    by_cases c : jP lk m n l = -9
    · exfalso
      have b : cm.testBit 10 = true := (hc 10).mpr ⟨_, hO, Or.inr ⟨rfl, jF_no hl (by omega) c _ rfl⟩⟩
      rw [Nat.testBit_lt_two_pow (show cm < 2 ^ 10 from h2)] at b
      exact absurd b (by decide)
    · obtain ⟨q, q1, q2, q3⟩ := jF_ye (by omega) c
      refine ⟨c, ?_⟩
      rw [q2, jn_nI (by omega)]
      apply Nat.lt_of_not_le
      intro w
      obtain ⟨s, q', s1, s2, s3⟩ := su_b hl (by omega) w
      have b1 : cm.testBit q = true := (hc q).mpr ⟨_, hO, Or.inl ⟨q1, q3⟩⟩
      have b2 : cm.testBit q' = true := (hc q').mpr ⟨_, s1, s2⟩
      have lt : q' < 12 := by rcases s2 with s2 | s2 <;> omega
      exact s3 (pop_2 h1 b2 b1 lt (by omega))
  · rintro ⟨c, h⟩
    obtain ⟨q, q1, q2, q3⟩ := jF_ye (by omega) c
    rw [q2, jn_nI (by omega)] at h
    have e : cm = 2 ^ q := by
      apply Nat.eq_of_testBit_eq
      intro j
      rw [Nat.testBit_two_pow]
      by_cases z : q = j
      · subst z
        rw [(hc q).mpr ⟨_, hO, Or.inl ⟨q1, q3⟩⟩]
        simp
      · cases b : cm.testBit j with
        | false => simp [z]
        | true =>
          obtain ⟨x, x1, x2⟩ := (hc j).mp b
          have := su_a hl x1 x2 (Ne.symm z)
          omega
    rw [e]
    exact ⟨pop_one (by omega), Nat.pow_lt_pow_right (by decide) (by omega : q < 10)⟩
end SU
/-- the rows of ways -/
def wX (wy : Nat → Int32) (f : Nat → Nat) : Prop := ∀ t, t < 1024 → wy t = nI (min 1000000 (f t))
theorem nv_min {x z : Int32} {a b : Nat} (h1 : x = nI a) (h2 : z = nI b) (ha : a < 2 ^ 31) (hb : b < 2 ^ 31) : (if z < x then z else x) = nI (min a b) := by
  have q := nv_lt h2 h1 hb ha
  by_cases c : z < x
  · rw [if_pos c, h2, Nat.min_eq_right (by have := q.mp c; omega)]
  · rw [if_neg c, h1, Nat.min_eq_left (by have := mt q.mpr c; omega)]
section YI
variable {lk : Nat → Nat → Nat} {m n i s t t' cm x : Nat} {rc f g : Nat → Nat} {wy : Nat → Int32} {v : Int32}
theorem wX_0 (h : ∀ t, t < 1024 → wy t = 0) : wX wy (fun _ => 0) := by
  intro t ht
  rw [h t ht]
  exact (by decide : (0 : Int32) = nI (min 1000000 0))
theorem wX_z (h : wX wy f) (hf : ∀ x, f x = 0) : ∀ t, t < 1024 → wy t = 0 := by
  intro t ht
  rw [h t ht, hf t]
  rfl
theorem wX_u (h : wX wy f) (hv : v = nI (min 1000000 x)) : wX (upd wy s v) (un f s x) := by
  intro t ht
  by_cases e : t = s
  · subst e; rw [un_s]; simp only [upd, if_pos]; exact hv
  · rw [un_n e]; simp only [upd, if_neg e]; exact h t ht
theorem wX_p (h : wX wy f) (hs : s < 1024) : (0 : Int32) < wy s ↔ 0 < f s := by
  rw [h s hs, i_lt, nI_toInt (by omega), show (0 : Int32).toInt = 0 from rfl]
  omega
def yI (lk : Nat → Nat → Nat) (m n i t : Nat) (f g : Nat → Nat) (cm : Nat) : Prop := (∀ x, 0 < f x ↔ x < t ∧ jO lk m n i x) ∧ (∀ y, 0 < g y ↔ ∃ x, t ≤ x ∧ jO lk m n i x ∧ jSt lk m n i x y) ∧ sS f (jC lk m (n - i) i) 1024 + sS g (jC lk m (n - i - 1) (i + 1)) 1024 = jC lk m n 0 0 ∧ cm < 2048 ∧ ∀ q, cm.testBit q = true ↔ ∃ x, t ≤ x ∧ jO lk m n i x ∧ jCh lk m n i x q
def yF (lk : Nat → Nat → Nat) (m n i : Nat) (f : Nat → Nat) : Prop := (∀ x, 0 < f x ↔ jO lk m n i x) ∧ sS f (jC lk m (n - i) i) 1024 = jC lk m n 0 0
theorem yF_0 : yF lk m n 0 (un (fun _ => 0) 0 1) := by
  refine ⟨fun x => ?_, sS_1 1024 (by decide)⟩
  by_cases e : x = 0
  · subst e; rw [un_s]; exact ⟨fun _ => (show (0 : Nat) = 0 from rfl), fun _ => Nat.one_pos⟩
  · rw [un_n e]; exact ⟨fun h => absurd h (Nat.lt_irrefl _), fun h => absurd h e⟩
theorem yI_0 (hR : jR lk n m rc) (hm : m ≤ 10) (hi : i ≤ n) (h : yF lk m n i f) : yI lk m n i (rc i + 1) f (fun _ => 0) 0 := by
  have up : ∀ x, jO lk m n i x → x < rc i + 1 := fun x hx => by
    have q := (jO_ok hR hm i hi x hx).2.1
    have : x &&& rc i ≤ rc i := Nat.and_le_right
    omega
  refine ⟨fun x => ?_, fun y => ?_, ?_, by decide, fun q => ?_⟩
  · rw [h.1 x]; exact ⟨fun w => ⟨up x w, w⟩, fun w => w.2⟩
  · exact ⟨fun w => absurd w (Nat.lt_irrefl _), fun ⟨x, x1, x2, _⟩ => absurd (up x x2) (by omega)⟩
  · rw [sS_0 (fun _ => rfl) 1024, Nat.add_zero]; exact h.2
  · rw [Nat.zero_testBit]; exact ⟨fun w => absurd w (by decide), fun ⟨x, x1, x2, _⟩ => absurd (up x x2) (by omega)⟩
/-- the next state is the next lower subset -/
theorem yI_nx (hR : jR lk n m rc) (hm : m ≤ 10) (hi : i ≤ n) (hs : s &&& rc i = s) (ht : (s = 0 ∧ t = 0) ∨ (0 < s ∧ t = ((s - 1) &&& rc i) + 1)) (x : Nat) (hx : jO lk m n i x) : (x < s + 1 ∧ x ≠ s ↔ x < t) ∧ (t ≤ x ↔ s + 1 ≤ x ∨ x = s) := by
  have q := (jO_ok hR hm i hi x hx).2.1
  rcases ht with ⟨z, e⟩ | ⟨z, e⟩
  · subst z; subst e; omega
  · have b0 : (s - 1) &&& rc i ≤ s - 1 := Nat.and_le_left
    have b1 : s - 1 < s := Nat.sub_lt z (by decide)
    have b : (s - 1) &&& rc i < s := Nat.lt_of_le_of_lt b0 b1
    clear b0 b1
    constructor
    · constructor
      · intro w
        have := sub_nx s (rc i) x q hs (by omega)
        omega
      · intro w; omega
    · constructor
      · intro w
        rcases Nat.lt_or_ge x s with c | c
        · have := sub_nx s (rc i) x q hs c
          omega
        · omega
      · rintro (w | w) <;> omega
theorem yI_n (ht : ∀ x, jO lk m n i x → (x < s + 1 ∧ x ≠ s ↔ x < t) ∧ (t ≤ x ↔ s + 1 ≤ x ∨ x = s)) (h : yI lk m n i (s + 1) f g cm) (h0 : ¬ 0 < f s) : yI lk m n i t f g cm := by
  have no : ¬ jO lk m n i s := fun w => h0 ((h.1 s).mpr ⟨Nat.lt_succ_self _, w⟩)
  have ge : ∀ x, jO lk m n i x → (t ≤ x ↔ s + 1 ≤ x) := fun x hx => by
    rw [(ht x hx).2]
    exact ⟨fun w => w.resolve_right (fun e => no (e ▸ hx)), Or.inl⟩
  refine ⟨fun x => ?_, fun y => ?_, h.2.2.1, h.2.2.2.1, fun q => ?_⟩
  · rw [h.1 x]
    constructor
    · rintro ⟨x1, x2⟩
      exact ⟨(ht x x2).1.mp ⟨x1, fun e => no (e ▸ x2)⟩, x2⟩
    · rintro ⟨x1, x2⟩
      exact ⟨((ht x x2).1.mpr x1).1, x2⟩
  · rw [h.2.1 y]
    constructor
    · rintro ⟨x, x1, x2, x3⟩; exact ⟨x, (ge x x2).mpr x1, x2, x3⟩
    · rintro ⟨x, x1, x2, x3⟩; exact ⟨x, (ge x x2).mp x1, x2, x3⟩
  · rw [h.2.2.2.2 q]
    constructor
    · rintro ⟨x, x1, x2, x3⟩; exact ⟨x, (ge x x2).mpr x1, x2, x3⟩
    · rintro ⟨x, x1, x2, x3⟩; exact ⟨x, (ge x x2).mp x1, x2, x3⟩
theorem yI_s (ht : ∀ x, jO lk m n i x → (x < s + 1 ∧ x ≠ s ↔ x < t) ∧ (t ≤ x ↔ s + 1 ≤ x ∨ x = s)) (hs : s < 1024) (hm : m ≤ 10) (hi : i < n) (h : yI lk m n i (s + 1) f g cm) (h0 : 0 < f s) : yI lk m n i t (un f s 0) (gP lk (jS lk m (n - i - 1) (i + 1)) i s (jS lk m (n - i) i s) (f s) g m) (cm ||| jHH lk (jS lk m (n - i - 1) (i + 1)) i s (jS lk m (n - i) i s) m) := by
  have yes : jO lk m n i s := ((h.1 s).mp h0).2
  refine ⟨fun x => ?_, fun y => ?_, ?_, or_2k h.2.2.2.1 (jHH_lt hm), fun q => ?_⟩
  · by_cases e : x = s
    · subst e
      rw [un_s]
      exact ⟨fun w => absurd w (Nat.lt_irrefl _), fun w => absurd rfl ((ht x yes).1.mpr w.1).2⟩
    · rw [un_n e, h.1 x]
      constructor
      · rintro ⟨x1, x2⟩; exact ⟨(ht x x2).1.mp ⟨x1, e⟩, x2⟩
      · rintro ⟨x1, x2⟩; exact ⟨((ht x x2).1.mpr x1).1, x2⟩
  · rw [gP_pos h0 y, h.2.1 y]
    constructor
    · rintro (⟨x, x1, x2, x3⟩ | w)
      · exact ⟨x, (ht x x2).2.mpr (Or.inl x1), x2, x3⟩
      · exact ⟨s, (ht s yes).2.mpr (Or.inr rfl), yes, w⟩
    · rintro ⟨x, x1, x2, x3⟩
      rcases (ht x x2).2.mp x1 with x1 | x1
      · exact Or.inl ⟨x, x1, x2, x3⟩
      · subst x1; exact Or.inr x3
  · have a := sS_un (f := f) (c := jC lk m (n - i) i) (s := s) (x := 0) 1024 hs
    have b := gP_S (lk := lk) (T := jS lk m (n - i - 1) (i + 1)) (c := jC lk m (n - i - 1) (i + 1)) (i := i) (g := jS lk m (n - i) i s) (x := f s) (f := g) hs hm
    rw [← jC_e hi] at b
    have c := h.2.2.1
    rw [Nat.zero_mul] at a
    omega
  · rw [Nat.testBit_or, Bool.or_eq_true, h.2.2.2.2 q, jHH_t]
    constructor
    · rintro (⟨x, x1, x2, x3⟩ | w)
      · exact ⟨x, (ht x x2).2.mpr (Or.inl x1), x2, x3⟩
      · exact ⟨s, (ht s yes).2.mpr (Or.inr rfl), yes, w⟩
    · rintro ⟨x, x1, x2, x3⟩
      rcases (ht x x2).2.mp x1 with x1 | x1
      · exact Or.inl ⟨x, x1, x2, x3⟩
      · subst x1; exact Or.inr x3
theorem yI_f (h : yI lk m n i 0 f g cm) : ∀ x, f x = 0 := by
  intro x
  have := (h.1 x)
  rcases Nat.eq_zero_or_pos (f x) with e | e
  · exact e
  · exact absurd (this.mp e).1 (Nat.not_lt_zero _)
theorem yI_g (hi : i < n) (h : yI lk m n i 0 f g cm) : yF lk m n (i + 1) g := by
  refine ⟨fun y => ?_, ?_⟩
  · rw [h.2.1 y]
    constructor
    · rintro ⟨x, _, x2, x3⟩; exact ⟨x, x2, x3⟩
    · rintro ⟨x, x2, x3⟩; exact ⟨x, Nat.zero_le _, x2, x3⟩
  · have c := h.2.2.1
    rw [sS_0 (yI_f h) 1024, Nat.zero_add] at c
    rw [Nat.sub_add_eq]
    exact c
theorem yI_c (hi : i < n) (hm : m ≤ 10) (h : yI lk m n i 0 f g cm) : (popN cm = 1 ∧ cm < 1024) ↔ jU lk m n i := by
  refine cert hi hm (fun q => ?_)
  rw [h.2.2.2.2 q]
  constructor
  · rintro ⟨x, _, x2, x3⟩; exact ⟨x, x2, x3⟩
  · rintro ⟨x, x2, x3⟩; exact ⟨x, Nat.zero_le _, x2, x3⟩
/-- the sum at the end -/
def zI (lk : Nat → Nat → Nat) (m n t : Nat) (f : Nat → Nat) (tt : Nat) : Prop := (∀ x, 0 < f x ↔ x < t ∧ jO lk m n n x) ∧ tt + sS f (fun _ => 1) 1024 = jC lk m n 0 0
theorem zI_0 (hR : jR lk n m rc) (hm : m ≤ 10) (h : yF lk m n n f) : zI lk m n (rc n + 1) f 0 := by
  refine ⟨(yI_0 hR hm (Nat.le_refl _) h).1, ?_⟩
  have e := h.2
  rw [Nat.sub_self] at e
  rw [Nat.zero_add]
  exact e
theorem zI_s (ht : ∀ x, jO lk m n n x → (x < s + 1 ∧ x ≠ s ↔ x < t) ∧ (t ≤ x ↔ s + 1 ≤ x ∨ x = s)) (hs : s < 1024) (h : zI lk m n (s + 1) f x) : zI lk m n t (un f s 0) (x + f s) := by
  refine ⟨fun y => ?_, ?_⟩
  · by_cases e : y = s
    · subst e
      rw [un_s]
      exact ⟨fun w => absurd w (Nat.lt_irrefl _), fun w => absurd rfl ((ht y w.2).1.mpr w.1).2⟩
    · rw [un_n e, h.1 y]
      constructor
      · rintro ⟨x1, x2⟩; exact ⟨(ht y x2).1.mp ⟨x1, e⟩, x2⟩
      · rintro ⟨x1, x2⟩; exact ⟨((ht y x2).1.mpr x1).1, x2⟩
  · have a := sS_un (f := f) (c := fun _ => 1) (s := s) (x := 0) 1024 hs
    have c := h.2
    rw [Nat.zero_mul, Nat.mul_one] at a
    omega
theorem zI_z (h : zI lk m n 0 f x) : (∀ y, f y = 0) ∧ x = jC lk m n 0 0 := by
  have z : ∀ y, f y = 0 := by
    intro y
    rcases Nat.eq_zero_or_pos (f y) with e | e
    · exact e
    · exact absurd ((h.1 y).mp e).1 (Nat.not_lt_zero _)
  refine ⟨z, ?_⟩
  have c := h.2
  rw [sS_0 z 1024] at c
  omega
theorem ce_u {ce : Nat → Int32} {v : Int32} (h : ∀ j, j < i → ce j = if jU lk m n j then 1 else 0) (hv : v = if jU lk m n i then 1 else 0) : ∀ j, j < i + 1 → upd ce i v j = if jU lk m n j then 1 else 0 := by
  intro j hj
  by_cases e : j = i
  · subst e; simp only [upd, if_pos]; exact hv
  · simp only [upd, if_neg e]; exact h j (by omega)
end YI
section WS
variable {lk : Nat → Nat → Nat} {T f : Nat → Nat} {m n i s g x k : Nat} {nw L bs : Nat → Int32} {rc : Nat → Nat}
theorem gA_y (o : oK lk T i s g k) : gA lk T i s g x f (k + 1) = un (gA lk T i s g x f k) (s ||| 2 ^ k) (gA lk T i s g x f k (s ||| 2 ^ k) + x) := by simp only [gA]; rw [if_pos o]
theorem gA_n (o : ¬ oK lk T i s g k) : gA lk T i s g x f (k + 1) = gA lk T i s g x f k := by simp only [gA]; rw [if_neg o]
theorem jH_y (o : oK lk T i s g k) : jH lk T i s g (k + 1) = jH lk T i s g k ||| 2 ^ k := by simp only [jH]; rw [if_pos o]
theorem jH_n (o : ¬ oK lk T i s g k) : jH lk T i s g (k + 1) = jH lk T i s g k := by simp only [jH]; rw [if_neg o]
theorem mn_2 (a b : Nat) : min 1000000 (min 1000000 a + min 1000000 b) = min 1000000 (a + b) := by omega
theorem wX_y (h : wX nw (gA lk T i s g x f k)) (o : oK lk T i s g k) : wX (upd nw (s ||| 2 ^ k) (nI (min 1000000 (min 1000000 (gA lk T i s g x f k (s ||| 2 ^ k)) + min 1000000 x)))) (gA lk T i s g x f (k + 1)) := by
  rw [gA_y o, mn_2]
  exact wX_u h rfl
theorem wX_k (h : wX nw (gA lk T i s g x f k)) (o : ¬ oK lk T i s g k) : wX nw (gA lk T i s g x f (k + 1)) := by rw [gA_n o]; exact h
theorem wX_e (h : wX nw (gA lk T i s g x f k)) (e : k = m) (o : T s = g) : wX (upd nw s (nI (min 1000000 (min 1000000 (gA lk T i s g x f k s) + min 1000000 x)))) (gP lk T i s g x f m) := by
  subst e
  unfold gP
  rw [if_pos o, mn_2]
  exact wX_u h rfl
theorem wX_d (h : wX nw (gA lk T i s g x f m)) (o : ¬ T s = g) : wX nw (gP lk T i s g x f m) := by unfold gP; rw [if_neg o]; exact h
theorem sk_e (hl : ∀ i k, lk i k ≤ 300) (hR : jR lk n m rc) (hB : jB lk n m rc 0 bs) (hi : i < n) (hn : n ≤ 10) (hs : s &&& rc i = s) (hp : popN s ≤ i) : bs ((i + 1) * 1024 + s) = bs (i * 1024 + s) ↔ jS lk m (n - i - 1) (i + 1) s = jS lk m (n - i) i s := by
  have hB1 : jB lk n m rc (i + 1) bs := fun l h1 h2 => hB l (Nat.zero_le _) h2
  have b1 := jS_le (m := m) hl (n - (i + 1)) (i + 1) s
  have b2 := jS_le (m := m) hl (n - i) i s
  rw [hB i (Nat.zero_le _) (by omega) s hs hp, jB_0 hR hB1 hi hs hp, show n - i - 1 = n - (i + 1) by omega]
  exact nI_j (by omega) (by omega)
end WS
def wZ (wy nw : Nat → Int32) : Prop := (∀ t, t < 1024 → wy t = 0) ∧ ∀ t, t < 1024 → nw t = 0
/-- what is told of the best joinings -/
def jK (lk : Nat → Nat → Nat) (n m : Nat) (su wa : Int32) (pt ce : Nat → Int32) : Prop := su = nI (jS lk m n 0 0) ∧ (∀ j, j < n → pt j = jP lk m n j) ∧ wa = nI (min 1000000 (jC lk m n 0 0)) ∧ ∀ j, j < n → ce j = if jU lk m n j then 1 else 0
theorem ce_1 {c : Int32} {p : Prop} [Decidable p] (h : c = if p then 1 else 0) (hc : ¬ c = 0) : (1 : Int32) = if p then 1 else 0 := by
  by_cases q : p
  · rw [if_pos q]
  · rw [if_neg q] at h; exact absurd h hc
theorem ce_0 {c : Int32} {p : Prop} [Decidable p] (h : c = if p then 1 else 0) (hc : c = 0) : (0 : Int32) = if p then 1 else 0 := by
  by_cases q : p
  · rw [if_pos q] at h; rw [hc] at h; exact absurd h (by decide)
  · rw [if_neg q]
set_option maxHeartbeats 4000000 in
theorem aX3_valueOf {l : Launch} {G : xG} {h : List va_E} {J u v ro co : Nat} {rc : Nat → Nat} {lk bs wy nw : Nat → Int32} {i s k : Nat} (hJ : h[J]? = some (oB 3 (lJ G J (.ref (G.1 + u)) (.ref (G.1 + v)) (nI ro) (nI co)))) (hJ_1 : h[J + 1]? = some (aI 100 lk)) (hJ_2 : h[J + 2]? = some (aI 11 (nA rc))) (hJ_3 : h[J + 3]? = some (aI 11264 bs)) (hu : h[u]? = some (aI 1024 wy)) (hv : h[v]? = some (aI 1024 nw)) (qu : J + 4 ≤ u ∧ u ≤ J + 5) (qv : J + 4 ≤ v ∧ v ≤ J + 5) (quv : u ≠ v) (bi : i < 10) (bs_ : s < 1024) (bk : k < 10) : CD l G yX3_valueOf cX3_valueOf 5 (some .int) 0 0 0 [.ref (G.1 + J), .int (nI i), .int (nI s), .int (nI k)] h (some (.int (vjF lk bs i s k))) h := by
  refine cm_ofQ rfl (Nat.le_of_ble_eq_true rfl) [(0, .ref (G.1 + J)), (1, .int (nI i)), (2, .int (nI s)), (3, .int (nI k))] rfl (fun QF hQF => ?_)
  have bq := or_k (a := s) (b := k) bs_ bk
  refine aw_aload_n 0 dX3_valueOf_0 rfl rfl ?_
  refine aw_get fX3_9 dX3_valueOf_1 hJ rfl ?_
  refine aw_iload_n 1 dX3_valueOf_4 rfl rfl ?_
  refine aw_bipush (10) dX3_valueOf_5 (by decide) ?_
  refine aw_imul dX3_valueOf_7 ?_
  refine aw_toe (nI (i * 10)) (nv_mul (rfl) (rfl)) ?_
  refine aw_iload_n 3 dX3_valueOf_8 rfl rfl ?_
  refine aw_iadd dX3_valueOf_9 ?_
  refine aw_toe (nI ((i * 10) + k)) (nv_add (rfl) (rfl)) ?_
  refine aw_iald ((i * 10) + k) (rfl) (by omega) (by decide) dX3_valueOf_10 hJ_1 ?_
  refine aw_istore [(4, .int (lk ((i * 10) + k))), (0, .ref (G.1 + J)), (1, .int (nI i)), (2, .int (nI s)), (3, .int (nI k))] dX3_valueOf_11 (by decide) rfl ?_
  refine aw_iload 0 dX3_valueOf_13 rfl ?_
  refine aw_if_eq 26 dX3_valueOf_15 (by decide) (fun c15 => ?_) (fun c15 => ?_)
  · refine aw_iconst (-1) dX3_valueOf_26 (by decide) ?_
    subst hQF
    exact aw_iret rfl dX3_valueOf_27 (by decide) (by decide) ⟨by unfold vjF; rw [if_pos (Or.inl c15)], rfl⟩
  · refine aw_iload_n 3 dX3_valueOf_18 rfl rfl ?_
    refine aw_iload_n 4 dX3_valueOf_19 rfl rfl ?_
    refine aw_ishr dX3_valueOf_20 ?_
    refine aw_iconst (1) dX3_valueOf_21 (by decide) ?_
    refine aw_iand dX3_valueOf_22 ?_
    refine aw_toe (if s.testBit k = true then 1 else 0) (nv_bit (rfl) (rfl) (by omega) (by omega)) ?_
    refine aw_if_eq 28 dX3_valueOf_23 (by decide) (fun c23 => ?_) (fun c23 => ?_)
    · have t23 := ite_0 c23
      refine aw_iload 0 dX3_valueOf_28 rfl ?_
      refine aw_aload_n 1 dX3_valueOf_30 rfl rfl ?_
      refine aw_get fX3_18 dX3_valueOf_31 hJ rfl ?_
      refine aw_iload_n 2 dX3_valueOf_34 rfl rfl ?_
      refine aw_iconst (1) dX3_valueOf_35 (by decide) ?_
      refine aw_iadd dX3_valueOf_36 ?_
      refine aw_toe (nI (i + 1)) (nv_add (rfl) (rfl)) ?_
      refine aw_sipush (1024) dX3_valueOf_37 (by decide) ?_
      refine aw_imul dX3_valueOf_40 ?_
      refine aw_toe (nI ((i + 1) * 1024)) (nv_mul (rfl) (rfl)) ?_
      refine aw_iload_n 3 dX3_valueOf_41 rfl rfl ?_
      refine aw_iconst (1) dX3_valueOf_42 (by decide) ?_
      refine aw_iload_n 4 dX3_valueOf_43 rfl rfl ?_
      refine aw_ishl dX3_valueOf_44 ?_
      refine aw_toe (nI (2 ^ k)) (nv_shl1 (rfl) (by omega)) ?_
      refine aw_ior dX3_valueOf_45 ?_
      refine aw_toe (nI (s ||| (2 ^ k))) (nv_or (rfl) (rfl)) ?_
      refine aw_iadd dX3_valueOf_46 ?_
      refine aw_toe (nI (((i + 1) * 1024) + (s ||| (2 ^ k)))) (nv_add (rfl) (rfl)) ?_
      refine aw_iald (((i + 1) * 1024) + (s ||| (2 ^ k))) (rfl) (by omega) (by decide) dX3_valueOf_47 hJ_3 ?_
      refine aw_iadd dX3_valueOf_48 ?_
      subst hQF
      exact aw_iret rfl dX3_valueOf_49 (by decide) (by decide) ⟨by unfold vjF; rw [if_neg (fun q => q.elim c15 t23)], rfl⟩
    · have t23 := ite_1 c23
      refine aw_iconst (-1) dX3_valueOf_26 (by decide) ?_
      subst hQF
      exact aw_iret rfl dX3_valueOf_27 (by decide) (by decide) ⟨by unfold vjF; rw [if_pos (Or.inr t23)], rfl⟩
set_option maxHeartbeats 4000000 in
theorem aX3_weighState {l : Launch} {G : xG} {h : List va_E} {J u v ro co : Nat} {rc : Nat → Nat} {lk bs wy nw : Nat → Int32} {i s : Nat} (hJ : h[J]? = some (oB 3 (lJ G J (.ref (G.1 + u)) (.ref (G.1 + v)) (nI ro) (nI co)))) (hJ_1 : h[J + 1]? = some (aI 100 lk)) (hJ_2 : h[J + 2]? = some (aI 11 (nA rc))) (hJ_3 : h[J + 3]? = some (aI 11264 bs)) (hu : h[u]? = some (aI 1024 wy)) (hv : h[v]? = some (aI 1024 nw)) (qu : J + 4 ≤ u ∧ u ≤ J + 5) (qv : J + 4 ≤ v ∧ v ≤ J + 5) (quv : u ≠ v) (hro : ro ≤ 10) (hco : co ≤ 10) (hrc : ∀ j, j < 11 → rc j < 1024) (bi : i < 10) (bs_ : s < 1024) : CD l G yX3_weighState cX3_weighState 5 (some .int) 1 0 0 [.ref (G.1 + J), .int (nI i), .int (nI s)] h (some (.int (wjF lk bs i s co))) h := by
  refine cm_ofQ rfl (Nat.le_of_ble_eq_true rfl) [(0, .ref (G.1 + J)), (1, .int (nI i)), (2, .int (nI s))] rfl (fun QF hQF => ?_)
  refine aw_aload_n 0 dX3_weighState_0 rfl rfl ?_
  refine aw_get fX3_18 dX3_weighState_1 hJ rfl ?_
  refine aw_iload_n 1 dX3_weighState_4 rfl rfl ?_
  refine aw_iconst (1) dX3_weighState_5 (by decide) ?_
  refine aw_iadd dX3_weighState_6 ?_
  refine aw_toe (nI (i + 1)) (nv_add (rfl) (rfl)) ?_
  refine aw_sipush (1024) dX3_weighState_7 (by decide) ?_
  refine aw_imul dX3_weighState_10 ?_
  refine aw_toe (nI ((i + 1) * 1024)) (nv_mul (rfl) (rfl)) ?_
  refine aw_iload_n 2 dX3_weighState_11 rfl rfl ?_
  refine aw_iadd dX3_weighState_12 ?_
  refine aw_toe (nI (((i + 1) * 1024) + s)) (nv_add (rfl) (rfl)) ?_
  refine aw_iald (((i + 1) * 1024) + s) (rfl) (by omega) (by decide) dX3_weighState_13 hJ_3 ?_
  refine aw_istore_n [(3, .int (bs (((i + 1) * 1024) + s))), (0, .ref (G.1 + J)), (1, .int (nI i)), (2, .int (nI s))] dX3_weighState_14 rfl (by decide) rfl ?_
  refine aw_iconst (0) dX3_weighState_15 (by decide) ?_
  refine aw_istore [(4, .int 0), (3, .int (bs (((i + 1) * 1024) + s))), (0, .ref (G.1 + J)), (1, .int (nI i)), (2, .int (nI s))] dX3_weighState_16 (by decide) rfl ?_
  refine aw_lv [(4, .int 0), (3, .int (bs (((i + 1) * 1024) + s))), (2, .int (nI s)), (1, .int (nI i)), (0, .ref (G.1 + J))] [0, 1, 4, 3, 2] rfl ?_
  suffices L31 : ∀ (mm : Nat) (k : Nat) (mo : Int32), co - k < mm → (k ≤ co) → (mo = wjF lk bs i s k) → AW l G yX3_weighState cX3_weighState 5 (some .int) (xR 1 0 0) (fun _ _ => True) QF 0 0 18 [(4, .int (nI k)), (3, .int mo), (2, .int (nI s)), (1, .int (nI i)), (0, .ref (G.1 + J))] [] h from L31 (co - 0 + 1) 0 (bs (((i + 1) * 1024) + s)) (Nat.lt_succ_self _) (Nat.zero_le _) (rfl)
  intro mm
  induction mm with
  | zero =>
    intro k mo hmm hk hm
    exact absurd hmm (Nat.not_lt_zero _)
  | succ mm ih31 =>
    intro k mo hmm hk hm
    refine aw_iload 0 dX3_weighState_18 rfl ?_
    refine aw_aload_n 4 dX3_weighState_20 rfl rfl ?_
    refine aw_get fX3_31 dX3_weighState_21 hJ rfl ?_
    refine aw_icmp_ge 46 dX3_weighState_24 (by decide) (fun c24 => ?_) (fun c24 => ?_)
    · have d24 := (nv_le (a := co) (b := k) (rfl) (rfl) (by omega) (by omega)).mp c24
      refine aw_iload_n 1 dX3_weighState_46 rfl rfl ?_
      subst hQF
      exact aw_iret rfl dX3_weighState_47 (by decide) (by decide) ⟨by rw [hm, show k = co by omega], rfl⟩
    · have d24 := mt (nv_le (a := co) (b := k) (rfl) (rfl) (by omega) (by omega)).mpr c24
      refine aw_iload_n 1 dX3_weighState_27 rfl rfl ?_
      refine aw_aload_n 4 dX3_weighState_28 rfl rfl ?_
      refine aw_iload_n 3 dX3_weighState_29 rfl rfl ?_
      refine aw_iload_n 2 dX3_weighState_30 rfl rfl ?_
      refine aw_iload 0 dX3_weighState_31 rfl ?_
      refine aw_dV [.int (nI i), .int (nI s), .int (nI k)] [.int mo] lX3_71 vX3_valueOf mX3_valueOf dX3_weighState_33 (aX3_valueOf (J := J) (u := u) (v := v) (ro := ro) (co := co) (rc := rc) (lk := lk) (bs := bs) (wy := wy) (nw := nw) (i := i) (s := s) (k := k) hJ hJ_1 hJ_2 hJ_3 hu hv (by omega) (by omega) (by omega) (by omega) (by omega) (by omega)) hJ rfl rfl rfl (Nat.le_of_ble_eq_true rfl) (by decide) (by decide) rfl ?_
      refine aw_mmax lX3_75 dX3_weighState_36 (Nat.le_of_ble_eq_true rfl) (by decide) (by decide) ?_
      refine aw_istore_n [(3, .int (if mo < (vjF lk bs i s k) then (vjF lk bs i s k) else mo)), (4, .int (nI k)), (2, .int (nI s)), (1, .int (nI i)), (0, .ref (G.1 + J))] dX3_weighState_39 rfl (by decide) rfl ?_
      refine aw_iinc (j := 1) (nI (k + 1)) [(4, .int (nI (k + 1))), (3, .int (if mo < (vjF lk bs i s k) then (vjF lk bs i s k) else mo)), (2, .int (nI s)), (1, .int (nI i)), (0, .ref (G.1 + J))] dX3_weighState_40 rfl (nv_inc (rfl)) (by decide) rfl ?_
      refine aw_goto 18 dX3_weighState_43 (by decide) ?_
      refine aw_lv [(4, .int (nI (k + 1))), (3, .int (if mo < (vjF lk bs i s k) then (vjF lk bs i s k) else mo)), (2, .int (nI s)), (1, .int (nI i)), (0, .ref (G.1 + J))] [0, 1, 2, 3, 4] rfl ?_
      exact ih31 (k + 1) (if mo < (vjF lk bs i s k) then (vjF lk bs i s k) else mo) (by omega) (by omega) (by rw [hm]; rfl)
set_option maxHeartbeats 4000000 in
theorem aX3_readLikes {l : Launch} {G : xG} {h : List va_E} {J u v ro co : Nat} {rc : Nat → Nat} {lk bs wy nw : Nat → Int32} {m se ye fi : Nat → Nat} {W Sn Z Ro Co : Nat → Int32} {Ba : Nat → Int64} {nb sp fa ve : Nat} {lx : Nat → Nat → Nat} {a b : Nat} (hJ : h[J]? = some (oB 3 (lJ G J (.ref (G.1 + u)) (.ref (G.1 + v)) (nI ro) (nI co)))) (hJ_1 : h[J + 1]? = some (aI 100 lk)) (hJ_2 : h[J + 2]? = some (aI 11 (nA rc))) (hJ_3 : h[J + 3]? = some (aI 11264 bs)) (hu : h[u]? = some (aI 1024 wy)) (hv : h[v]? = some (aI 1024 nw)) (h1 : h[1]? = some (oB 1 (lC G (nI nb) (nI sp) (nI fa) (nI ve)))) (h2 : h[2]? = some (aI 20 (nA m))) (h3 : h[3]? = some (aI 20 (nA se))) (h4 : h[4]? = some (aI 4 (nA ye))) (h5 : h[5]? = some (aI 4 (nA fi))) (h6 : h[6]? = some (aI 40 W)) (h7 : h[7]? = some (aI 40 Sn)) (h8 : h[8]? = some (aI 40 Z)) (h9 : h[9]? = some (aI 40 Ro)) (h10 : h[10]? = some (aI 40 Co)) (h11 : h[11]? = some (aL 40 Ba)) (qu : J + 4 ≤ u ∧ u ≤ J + 5) (qv : J + 4 ≤ v ∧ v ≤ J + 5) (quv : u ≠ v) (hro : ro ≤ 10) (hco : co ≤ 10) (hrc : ∀ j, j < 11 → rc j < 1024) (hm : ∀ j, j < 20 → m j ≤ j) (hse : ∀ j, j < 20 → se j < 20) (hfi : ∀ j, j < 4 → fi j < 11) (hye : ∀ j, j < 4 → ye j < 1901) (ba : a < 4) (bb : b < 4) (qJ : 125 ≤ J) (hlx : ∀ i, i < ro → ∀ k, k < co → likeC ye Sn Z Ro Co Ba sp fa (a * 10 + i) (b * 10 + k) = nI (lx i k)) (hlx3 : ∀ i k, lx i k ≤ 300) : CE l G yX3_readLikes cX3_readLikes 8 none 2 0 0 [.ref (G.1 + J), .ref (G.1 + 1), .int (nI a), .int (nI b)] h none (fun h1 => ∃ lk1 : Nat → Int32, ∃ rc1 : Nat → Nat, h1[J]? = some (oB 3 (lJ G J (.ref (G.1 + u)) (.ref (G.1 + v)) (nI ro) (nI co))) ∧ h1[J + 1]? = some (aI 100 lk1) ∧ h1[J + 2]? = some (aI 11 (nA rc1)) ∧ h1[J + 3]? = some (aI 11264 bs) ∧ h1[u]? = some (aI 1024 wy) ∧ h1[v]? = some (aI 1024 nw) ∧ rng J (J + 5) h h1 ∧ (∀ j, j < 11 → rc1 j < 1024) ∧ jL lx ro co lk1 ∧ jR lx ro co rc1) := by
  refine cm_ofQ rfl (Nat.le_of_ble_eq_true rfl) [(0, .ref (G.1 + J)), (1, .ref (G.1 + 1)), (2, .int (nI a)), (3, .int (nI b))] rfl (fun QF hQF => ?_)
  refine aw_aload_n 0 dX3_readLikes_0 rfl rfl ?_
  refine aw_get fX3_15 dX3_readLikes_1 hJ rfl ?_
  refine aw_iconst (0) dX3_readLikes_4 (by decide) ?_
  refine aw_iconst (0) dX3_readLikes_5 (by decide) ?_
  refine aw_iast 0 (rfl) (by decide) (by decide) dX3_readLikes_6 hJ_2 ?_
  rw [nA_u (f := rc) (i := 0) (x := 0) (v := 0) (rfl)]
  refine aw_iconst (0) dX3_readLikes_7 (by decide) ?_
  refine aw_istore [(4, .int 0), (0, .ref (G.1 + J)), (1, .ref (G.1 + 1)), (2, .int (nI a)), (3, .int (nI b))] dX3_readLikes_8 (by decide) rfl ?_
  refine aw_lv [(4, .int 0), (3, .int (nI b)), (2, .int (nI a)), (1, .ref (G.1 + 1)), (0, .ref (G.1 + J))] [0, 4, 3, 2, 1] rfl ?_
  suffices L51 : ∀ (mm : Nat) (i : Nat) (lk1 : Nat → Int32) (rc1 : Nat → Nat) (h32 : List va_E), ro - i < mm → (i ≤ ro) → (∀ j, j < 11 → rc1 j < 1024) → (∀ j, j < i → ∀ q, q < co → lk1 (j * 10 + q) = nI (lx j q)) → (rc1 0 = 0) → (∀ j, j < i → ∀ q, q < co → lx j q ≠ 0 → (rc1 (j + 1)).testBit q = true) → (∀ j, j < i → ∀ q, (rc1 j).testBit q = true → (rc1 (j + 1)).testBit q = true) → h32[J]? = some (oB 3 (lJ G J (.ref (G.1 + u)) (.ref (G.1 + v)) (nI ro) (nI co))) → h32[J + 1]? = some (aI 100 lk1) → h32[J + 2]? = some (aI 11 (nA rc1)) → h32[J + 3]? = some (aI 11264 bs) → h32[u]? = some (aI 1024 wy) → h32[v]? = some (aI 1024 nw) → h32[1]? = some (oB 1 (lC G (nI nb) (nI sp) (nI fa) (nI ve))) → h32[2]? = some (aI 20 (nA m)) → h32[3]? = some (aI 20 (nA se)) → h32[4]? = some (aI 4 (nA ye)) → h32[5]? = some (aI 4 (nA fi)) → h32[6]? = some (aI 40 W) → h32[7]? = some (aI 40 Sn) → h32[8]? = some (aI 40 Z) → h32[9]? = some (aI 40 Ro) → h32[10]? = some (aI 40 Co) → h32[11]? = some (aL 40 Ba) → rng J (J + 5) h h32 → AW l G yX3_readLikes cX3_readLikes 8 none (xR 2 0 0) (fun _ _ => True) QF 0 0 10 [(4, .int (nI i)), (3, .int (nI b)), (2, .int (nI a)), (1, .ref (G.1 + 1)), (0, .ref (G.1 + J))] [] h32 from L51 (ro - 0 + 1) 0 lk (un rc 0 0) _ (Nat.lt_succ_self _) (Nat.zero_le _) (un_b hrc (by decide)) (fun q h8 => absurd h8 (Nat.not_lt_zero _)) (un_s) (fun q h8 => absurd h8 (Nat.not_lt_zero _)) (fun q h8 => absurd h8 (Nat.not_lt_zero _)) (gn (by omega) (hJ)) (gn (by omega) (hJ_1)) (gs hJ_2) (gn (by omega) (hJ_3)) (gn (by omega) (hu)) (gn (by omega) (hv)) (gn (by omega) (h1)) (gn (by omega) (h2)) (gn (by omega) (h3)) (gn (by omega) (h4)) (gn (by omega) (h5)) (gn (by omega) (h6)) (gn (by omega) (h7)) (gn (by omega) (h8)) (gn (by omega) (h9)) (gn (by omega) (h10)) (gn (by omega) (h11)) (rng_set (rng_rf J (J + 5) h) (by omega) (by omega))
  intro mm
  induction mm with
  | zero =>
    intro i lk1 rc1 h32 hmm hi hr1 hl1 hr0 hr2 hr3 f33 f34 f35 f36 f37 f38 f39 f40 f41 f42 f43 f44 f45 f46 f47 f48 f49 k50
    exact absurd hmm (Nat.not_lt_zero _)
  | succ mm ih51 =>
    intro i lk1 rc1 h32 hmm hi hr1 hl1 hr0 hr2 hr3 f33 f34 f35 f36 f37 f38 f39 f40 f41 f42 f43 f44 f45 f46 f47 f48 f49 k50
    refine aw_iload 0 dX3_readLikes_10 rfl ?_
    refine aw_aload_n 4 dX3_readLikes_12 rfl rfl ?_
    refine aw_get fX3_27 dX3_readLikes_13 f33 rfl ?_
    refine aw_icmp_ge 114 dX3_readLikes_16 (by decide) (fun c16 => ?_) (fun c16 => ?_)
    · have d16 := (nv_le (a := ro) (b := i) (rfl) (rfl) (by omega) (by omega)).mp c16
      subst hQF
      exact aw_vret rfl dX3_readLikes_114 (by decide) (by decide) ⟨rfl, _, _, f33, f34, f35, f36, f37, f38, k50, hr1, fun j hj => hl1 j (by omega), ⟨hr0, fun j hj => hr2 j (by omega), fun j hj => hr3 j (by omega)⟩⟩
    · have d16 := mt (nv_le (a := ro) (b := i) (rfl) (rfl) (by omega) (by omega)).mpr c16
      refine aw_iconst (0) dX3_readLikes_19 (by decide) ?_
      refine aw_istore [(5, .int 0), (4, .int (nI i)), (3, .int (nI b)), (2, .int (nI a)), (1, .ref (G.1 + 1)), (0, .ref (G.1 + J))] dX3_readLikes_20 (by decide) rfl ?_
      refine aw_iconst (0) dX3_readLikes_22 (by decide) ?_
      refine aw_istore [(6, .int 0), (5, .int 0), (4, .int (nI i)), (3, .int (nI b)), (2, .int (nI a)), (1, .ref (G.1 + 1)), (0, .ref (G.1 + J))] dX3_readLikes_23 (by decide) rfl ?_
      refine aw_lv [(6, .int 0), (5, .int 0), (4, .int (nI i)), (3, .int (nI b)), (2, .int (nI a)), (1, .ref (G.1 + 1)), (0, .ref (G.1 + J))] [0, 1, 2, 3, 4, 5, 6] rfl ?_
      suffices L71 : ∀ (mm : Nat) (k : Nat) (o : Nat) (lk2 : Nat → Int32) (h52 : List va_E), co - k < mm → (k ≤ co) → (o < 1024) → (∀ q, q < k → lx i q ≠ 0 → o.testBit q = true) → (∀ j, j < i → ∀ q, q < co → lk2 (j * 10 + q) = nI (lx j q)) → (∀ q, q < k → lk2 (i * 10 + q) = nI (lx i q)) → h52[J]? = some (oB 3 (lJ G J (.ref (G.1 + u)) (.ref (G.1 + v)) (nI ro) (nI co))) → h52[J + 1]? = some (aI 100 lk2) → h52[J + 2]? = some (aI 11 (nA rc1)) → h52[J + 3]? = some (aI 11264 bs) → h52[u]? = some (aI 1024 wy) → h52[v]? = some (aI 1024 nw) → h52[1]? = some (oB 1 (lC G (nI nb) (nI sp) (nI fa) (nI ve))) → h52[2]? = some (aI 20 (nA m)) → h52[3]? = some (aI 20 (nA se)) → h52[4]? = some (aI 4 (nA ye)) → h52[5]? = some (aI 4 (nA fi)) → h52[6]? = some (aI 40 W) → h52[7]? = some (aI 40 Sn) → h52[8]? = some (aI 40 Z) → h52[9]? = some (aI 40 Ro) → h52[10]? = some (aI 40 Co) → h52[11]? = some (aL 40 Ba) → rng J (J + 5) h h52 → AW l G yX3_readLikes cX3_readLikes 8 none (xR 2 0 0) (fun _ _ => True) QF 0 0 25 [(6, .int (nI k)), (5, .int (nI o)), (4, .int (nI i)), (3, .int (nI b)), (2, .int (nI a)), (1, .ref (G.1 + 1)), (0, .ref (G.1 + J))] [] h52 from L71 (co - 0 + 1) 0 0 lk1 _ (Nat.lt_succ_self _) (Nat.zero_le _) (by decide) (fun q h8 => absurd h8 (Nat.not_lt_zero _)) (hl1) (fun q h8 => absurd h8 (Nat.not_lt_zero _)) f33 f34 f35 f36 f37 f38 f39 f40 f41 f42 f43 f44 f45 f46 f47 f48 f49 (k50)
      intro mm
      induction mm with
      | zero =>
        intro k o lk2 h52 hmm hk bo ho hl2 hl3 f53 f54 f55 f56 f57 f58 f59 f60 f61 f62 f63 f64 f65 f66 f67 f68 f69 k70
        exact absurd hmm (Nat.not_lt_zero _)
      | succ mm ih71 =>
        intro k o lk2 h52 hmm hk bo ho hl2 hl3 f53 f54 f55 f56 f57 f58 f59 f60 f61 f62 f63 f64 f65 f66 f67 f68 f69 k70
        refine aw_iload 0 dX3_readLikes_25 rfl ?_
        refine aw_aload_n 6 dX3_readLikes_27 rfl rfl ?_
        refine aw_get fX3_31 dX3_readLikes_28 f53 rfl ?_
        refine aw_icmp_ge 89 dX3_readLikes_31 (by decide) (fun c31 => ?_) (fun c31 => ?_)
        · have d31 := (nv_le (a := co) (b := k) (rfl) (rfl) (by omega) (by omega)).mp c31
          refine aw_aload_n 6 dX3_readLikes_89 rfl rfl ?_
          refine aw_get fX3_15 dX3_readLikes_90 f53 rfl ?_
          refine aw_iload 2 dX3_readLikes_93 rfl ?_
          refine aw_iconst (1) dX3_readLikes_95 (by decide) ?_
          refine aw_iadd dX3_readLikes_96 ?_
          refine aw_toe (nI (i + 1)) (nv_add (rfl) (rfl)) ?_
          refine aw_aload_n 6 dX3_readLikes_97 rfl rfl ?_
          refine aw_get fX3_15 dX3_readLikes_98 f53 rfl ?_
          refine aw_iload 2 dX3_readLikes_101 rfl ?_
          refine aw_iald i (rfl) (by omega) (by decide) dX3_readLikes_103 f55 ?_
          refine aw_toe (nI (rc1 i)) (rfl) ?_
          have b72 := hr1 i (by omega)
          refine aw_iload 1 dX3_readLikes_104 rfl ?_
          refine aw_ior dX3_readLikes_106 ?_
          refine aw_toe (nI ((rc1 i) ||| o)) (nv_or (rfl) (rfl)) ?_
          refine aw_iast (i + 1) (rfl) (by omega) (by decide) dX3_readLikes_107 f55 ?_
          rw [nA_u (f := rc1) (i := i + 1) (x := (nI ((rc1 i) ||| o))) (v := (rc1 i) ||| o) (rfl)]
          refine aw_iinc (j := 2) (nI (i + 1)) [(4, .int (nI (i + 1))), (6, .int (nI k)), (5, .int (nI o)), (3, .int (nI b)), (2, .int (nI a)), (1, .ref (G.1 + 1)), (0, .ref (G.1 + J))] dX3_readLikes_108 rfl (nv_inc (rfl)) (by decide) rfl ?_
          refine aw_goto 10 dX3_readLikes_111 (by decide) ?_
          refine aw_lv [(4, .int (nI (i + 1))), (3, .int (nI b)), (2, .int (nI a)), (1, .ref (G.1 + 1)), (0, .ref (G.1 + J))] [0, 3, 4, 5, 6] rfl ?_
          exact ih51 (i + 1) lk2 (un rc1 (i + 1) ((rc1 i) ||| o)) _ (by omega) (by omega) (un_b hr1 (or_m (hr1 i (by omega)) bo)) (rl_3 hl2 hl3 (by omega)) (rr_0' hr0) (rr_2 hr2 ho (by omega)) (rr_3 hr3) (gn (by omega) (f53)) (gn (by omega) (f54)) (gs f55) (gn (by omega) (f56)) (gn (by omega) (f57)) (gn (by omega) (f58)) (gn (by omega) (f59)) (gn (by omega) (f60)) (gn (by omega) (f61)) (gn (by omega) (f62)) (gn (by omega) (f63)) (gn (by omega) (f64)) (gn (by omega) (f65)) (gn (by omega) (f66)) (gn (by omega) (f67)) (gn (by omega) (f68)) (gn (by omega) (f69)) (rng_set (k70) (by omega) (by omega))
        · have d31 := mt (nv_le (a := co) (b := k) (rfl) (rfl) (by omega) (by omega)).mpr c31
          refine aw_aload_n 5 dX3_readLikes_34 rfl rfl ?_
          refine aw_iload_n 4 dX3_readLikes_35 rfl rfl ?_
          refine aw_bipush (10) dX3_readLikes_36 (by decide) ?_
          refine aw_imul dX3_readLikes_38 ?_
          refine aw_toe (nI (a * 10)) (nv_mul (rfl) (rfl)) ?_
          refine aw_iload 2 dX3_readLikes_39 rfl ?_
          refine aw_iadd dX3_readLikes_41 ?_
          refine aw_toe (nI ((a * 10) + i)) (nv_add (rfl) (rfl)) ?_
          refine aw_iload_n 3 dX3_readLikes_42 rfl rfl ?_
          refine aw_bipush (10) dX3_readLikes_43 (by decide) ?_
          refine aw_imul dX3_readLikes_45 ?_
          refine aw_toe (nI (b * 10)) (nv_mul (rfl) (rfl)) ?_
          refine aw_iload 0 dX3_readLikes_46 rfl ?_
          refine aw_iadd dX3_readLikes_48 ?_
          refine aw_toe (nI ((b * 10) + k)) (nv_add (rfl) (rfl)) ?_
          refine aw_dV [.int (nI ((a * 10) + i)), .int (nI ((b * 10) + k))] [] lX3_58 vX1_likeness mX1_likeness dX3_readLikes_49 (aX1_likeness (m := m) (se := se) (ye := ye) (fi := fi) (W := W) (Sn := Sn) (Z := Z) (Ro := Ro) (Co := Co) (Ba := Ba) (nb := nb) (sp := sp) (fa := fa) (ve := ve) (e := (a * 10) + i) (f := (b * 10) + k) f59 f60 f61 f62 f63 f64 f65 f66 f67 f68 f69 hm hse hfi hye (by omega) (by omega)) f59 rfl rfl rfl (Nat.le_of_ble_eq_true rfl) (by decide) (by decide) rfl ?_
          have bl := hlx3 i k
          refine aw_toe (nI (lx i k)) (hlx i (by omega) k (by omega)) ?_
          refine aw_istore [(7, .int (nI (lx i k))), (6, .int (nI k)), (5, .int (nI o)), (4, .int (nI i)), (3, .int (nI b)), (2, .int (nI a)), (1, .ref (G.1 + 1)), (0, .ref (G.1 + J))] dX3_readLikes_52 (by decide) rfl ?_
          refine aw_aload_n 7 dX3_readLikes_54 rfl rfl ?_
          refine aw_get fX3_9 dX3_readLikes_55 f53 rfl ?_
          refine aw_iload 3 dX3_readLikes_58 rfl ?_
          refine aw_bipush (10) dX3_readLikes_60 (by decide) ?_
          refine aw_imul dX3_readLikes_62 ?_
          refine aw_toe (nI (i * 10)) (nv_mul (rfl) (rfl)) ?_
          refine aw_iload 1 dX3_readLikes_63 rfl ?_
          refine aw_iadd dX3_readLikes_65 ?_
          refine aw_toe (nI ((i * 10) + k)) (nv_add (rfl) (rfl)) ?_
          refine aw_iload 0 dX3_readLikes_66 rfl ?_
          refine aw_iast ((i * 10) + k) (rfl) (by omega) (by decide) dX3_readLikes_68 f54 ?_
          refine aw_iload 0 dX3_readLikes_69 rfl ?_
          refine aw_if_le 83 dX3_readLikes_71 (by decide) (fun c71 => ?_) (fun c71 => ?_)
          · have d71 := (nv_le (a := lx i k) (b := 0) (rfl) (rfl) (by omega) (by omega)).mp c71
            refine aw_iinc (j := 1) (nI (k + 1)) [(6, .int (nI (k + 1))), (7, .int (nI (lx i k))), (5, .int (nI o)), (4, .int (nI i)), (3, .int (nI b)), (2, .int (nI a)), (1, .ref (G.1 + 1)), (0, .ref (G.1 + J))] dX3_readLikes_83 rfl (nv_inc (rfl)) (by decide) rfl ?_
            refine aw_goto 25 dX3_readLikes_86 (by decide) ?_
            refine aw_lv [(6, .int (nI (k + 1))), (5, .int (nI o)), (4, .int (nI i)), (3, .int (nI b)), (2, .int (nI a)), (1, .ref (G.1 + 1)), (0, .ref (G.1 + J))] [0, 2, 3, 4, 5, 6, 7] rfl ?_
            exact ih71 (k + 1) o (upd lk2 ((i * 10) + k) (nI (lx i k))) _ (by omega) (by omega) (bo) (ro_0 ho (by omega)) (rl_1 hl2 (by omega) (by omega)) (rl_2 hl3 rfl) (gn (by omega) (f53)) (gs f54) (gn (by omega) (f55)) (gn (by omega) (f56)) (gn (by omega) (f57)) (gn (by omega) (f58)) (gn (by omega) (f59)) (gn (by omega) (f60)) (gn (by omega) (f61)) (gn (by omega) (f62)) (gn (by omega) (f63)) (gn (by omega) (f64)) (gn (by omega) (f65)) (gn (by omega) (f66)) (gn (by omega) (f67)) (gn (by omega) (f68)) (gn (by omega) (f69)) (rng_set (k70) (by omega) (by omega))
          · have d71 := mt (nv_le (a := lx i k) (b := 0) (rfl) (rfl) (by omega) (by omega)).mpr c71
            refine aw_iload 2 dX3_readLikes_74 rfl ?_
            refine aw_iconst (1) dX3_readLikes_76 (by decide) ?_
            refine aw_iload 1 dX3_readLikes_77 rfl ?_
            refine aw_ishl dX3_readLikes_79 ?_
            refine aw_toe (nI (2 ^ k)) (nv_shl1 (rfl) (by omega)) ?_
            refine aw_ior dX3_readLikes_80 ?_
            refine aw_toe (nI (o ||| (2 ^ k))) (nv_or (rfl) (rfl)) ?_
            refine aw_istore [(5, .int (nI (o ||| (2 ^ k)))), (7, .int (nI (lx i k))), (6, .int (nI k)), (4, .int (nI i)), (3, .int (nI b)), (2, .int (nI a)), (1, .ref (G.1 + 1)), (0, .ref (G.1 + J))] dX3_readLikes_81 (by decide) rfl ?_
            refine aw_iinc (j := 2) (nI (k + 1)) [(6, .int (nI (k + 1))), (5, .int (nI (o ||| (2 ^ k)))), (7, .int (nI (lx i k))), (4, .int (nI i)), (3, .int (nI b)), (2, .int (nI a)), (1, .ref (G.1 + 1)), (0, .ref (G.1 + J))] dX3_readLikes_83 rfl (nv_inc (rfl)) (by decide) rfl ?_
            refine aw_goto 25 dX3_readLikes_86 (by decide) ?_
            refine aw_lv [(6, .int (nI (k + 1))), (5, .int (nI (o ||| (2 ^ k)))), (4, .int (nI i)), (3, .int (nI b)), (2, .int (nI a)), (1, .ref (G.1 + 1)), (0, .ref (G.1 + J))] [0, 1, 3, 4, 5, 6, 7] rfl ?_
            exact ih71 (k + 1) (o ||| (2 ^ k)) (upd lk2 ((i * 10) + k) (nI (lx i k))) _ (by omega) (by omega) (or_k bo (by omega)) (ro_1 ho) (rl_1 hl2 (by omega) (by omega)) (rl_2 hl3 rfl) (gn (by omega) (f53)) (gs f54) (gn (by omega) (f55)) (gn (by omega) (f56)) (gn (by omega) (f57)) (gn (by omega) (f58)) (gn (by omega) (f59)) (gn (by omega) (f60)) (gn (by omega) (f61)) (gn (by omega) (f62)) (gn (by omega) (f63)) (gn (by omega) (f64)) (gn (by omega) (f65)) (gn (by omega) (f66)) (gn (by omega) (f67)) (gn (by omega) (f68)) (gn (by omega) (f69)) (rng_set (k70) (by omega) (by omega))
set_option maxHeartbeats 4000000 in
theorem aX3_weighStates {l : Launch} {G : xG} {h : List va_E} {J u v ro co : Nat} {rc : Nat → Nat} {lk bs wy nw : Nat → Int32} {lx : Nat → Nat → Nat} (hJ : h[J]? = some (oB 3 (lJ G J (.ref (G.1 + u)) (.ref (G.1 + v)) (nI ro) (nI co)))) (hJ_1 : h[J + 1]? = some (aI 100 lk)) (hJ_2 : h[J + 2]? = some (aI 11 (nA rc))) (hJ_3 : h[J + 3]? = some (aI 11264 bs)) (hu : h[u]? = some (aI 1024 wy)) (hv : h[v]? = some (aI 1024 nw)) (qu : J + 4 ≤ u ∧ u ≤ J + 5) (qv : J + 4 ≤ v ∧ v ≤ J + 5) (quv : u ≠ v) (hro : ro ≤ 10) (hco : co ≤ 10) (hrc : ∀ j, j < 11 → rc j < 1024) (hL : jL lx ro co lk) (hR : jR lx ro co rc) (hlx3 : ∀ i k, lx i k ≤ 300) : CE l G yX3_weighStates cX3_weighStates 4 none 2 0 0 [.ref (G.1 + J)] h none (fun h1 => ∃ bs1 : Nat → Int32, h1[J]? = some (oB 3 (lJ G J (.ref (G.1 + u)) (.ref (G.1 + v)) (nI ro) (nI co))) ∧ h1[J + 1]? = some (aI 100 lk) ∧ h1[J + 2]? = some (aI 11 (nA rc)) ∧ h1[J + 3]? = some (aI 11264 bs1) ∧ h1[u]? = some (aI 1024 wy) ∧ h1[v]? = some (aI 1024 nw) ∧ rng J (J + 5) h h1 ∧ jB lx ro co rc 0 bs1) := by
  refine cm_ofQ rfl (Nat.le_of_ble_eq_true rfl) [(0, .ref (G.1 + J))] rfl (fun QF hQF => ?_)
  refine aw_aload_n 0 dX3_weighStates_0 rfl rfl ?_
  refine aw_get fX3_27 dX3_weighStates_1 hJ rfl ?_
  refine aw_istore_n [(1, .int (nI ro)), (0, .ref (G.1 + J))] dX3_weighStates_4 rfl (by decide) rfl ?_
  refine aw_lv [(1, .int (nI ro)), (0, .ref (G.1 + J))] [0, 1] rfl ?_
  suffices L81 : ∀ (mm : Nat) (x : Nat) (xv : Int32) (b1 : Nat → Int32) (h73 : List va_E), x < mm → ((x = 0 ∧ xv = -1) ∨ (∃ i, i ≤ ro ∧ xv = nI i ∧ x = i + 1)) → (jB lx ro co rc x b1) → h73[J]? = some (oB 3 (lJ G J (.ref (G.1 + u)) (.ref (G.1 + v)) (nI ro) (nI co))) → h73[J + 1]? = some (aI 100 lk) → h73[J + 2]? = some (aI 11 (nA rc)) → h73[J + 3]? = some (aI 11264 b1) → h73[u]? = some (aI 1024 wy) → h73[v]? = some (aI 1024 nw) → rng J (J + 5) h h73 → AW l G yX3_weighStates cX3_weighStates 4 none (xR 2 0 0) (fun _ _ => True) QF 0 0 5 [(1, .int xv), (0, .ref (G.1 + J))] [] h73 from L81 ((ro + 1) + 1) (ro + 1) (nI ro) bs _ (Nat.lt_succ_self _) (Or.inr ⟨ro, Nat.le_refl _, rfl, rfl⟩) (jB_t) hJ hJ_1 hJ_2 hJ_3 hu hv (rng_rf J (J + 5) h)
  intro mm
  induction mm with
  | zero =>
    intro x xv b1 h73 hmm hx hB f74 f75 f76 f77 f78 f79 k80
    exact absurd hmm (Nat.not_lt_zero _)
  | succ mm ih81 =>
    intro x xv b1 h73 hmm hx hB f74 f75 f76 f77 f78 f79 k80
    rcases hx with ⟨rfl, rfl⟩ | ⟨i, hi, rfl, rfl⟩
    · refine aw_iload_n 0 dX3_weighStates_5 rfl rfl ?_
      refine aw_if_lt 83 dX3_weighStates_6 (by decide) (fun c6 => ?_) (fun c6 => absurd (by decide) c6)
      subst hQF
      exact aw_vret rfl dX3_weighStates_83 (by decide) (by decide) ⟨rfl, _, f74, f75, f76, f77, f78, f79, k80, hB⟩
    · refine aw_iload_n 0 dX3_weighStates_5 rfl rfl ?_
      refine aw_if_lt 83 dX3_weighStates_6 (by decide) (fun c6 => absurd c6 (by simp only [i_lt, (nI_toInt (n := i) (by omega)), (show (0 : Int32).toInt = 0 from rfl)] <;> omega)) (fun c6 => ?_)
      refine aw_aload_n 1 dX3_weighStates_9 rfl rfl ?_
      refine aw_get fX3_15 dX3_weighStates_10 f74 rfl ?_
      refine aw_iload_n 0 dX3_weighStates_13 rfl rfl ?_
      refine aw_iald i (rfl) (by omega) (by decide) dX3_weighStates_14 f76 ?_
      refine aw_toe (nI (rc i)) (rfl) ?_
      have b82 := hrc i (by omega)
      refine aw_istore_n [(2, .int (nI (rc i))), (1, .int (nI i)), (0, .ref (G.1 + J))] dX3_weighStates_15 rfl (by decide) rfl ?_
      refine aw_iload_n 0 dX3_weighStates_16 rfl rfl ?_
      refine aw_istore_n [(3, .int (nI (rc i))), (2, .int (nI (rc i))), (1, .int (nI i)), (0, .ref (G.1 + J))] dX3_weighStates_17 rfl (by decide) rfl ?_
      refine aw_lv [(3, .int (nI (rc i))), (2, .int (nI (rc i))), (1, .int (nI i)), (0, .ref (G.1 + J))] [0, 1, 2, 3] rfl ?_
      suffices L91 : ∀ (mm : Nat) (t : Nat) (tv : Int32) (b2 : Nat → Int32) (h83 : List va_E), t < mm → ((t = 0 ∧ tv = -1) ∨ (∃ s, s < 1024 ∧ tv = nI s ∧ t = s + 1 ∧ s &&& rc i = s)) → (jI lx ro co rc i t b2) → (jB lx ro co rc (i + 1) b2) → h83[J]? = some (oB 3 (lJ G J (.ref (G.1 + u)) (.ref (G.1 + v)) (nI ro) (nI co))) → h83[J + 1]? = some (aI 100 lk) → h83[J + 2]? = some (aI 11 (nA rc)) → h83[J + 3]? = some (aI 11264 b2) → h83[u]? = some (aI 1024 wy) → h83[v]? = some (aI 1024 nw) → rng J (J + 5) h h83 → AW l G yX3_weighStates cX3_weighStates 4 none (xR 2 0 0) (fun _ _ => True) QF 0 0 18 [(3, .int tv), (2, .int (nI (rc i))), (1, .int (nI i)), (0, .ref (G.1 + J))] [] h83 from L91 ((rc i + 1) + 1) (rc i + 1) (nI (rc i)) b1 _ (Nat.lt_succ_self _) (Or.inr ⟨_, by omega, rfl, rfl, Nat.and_self _⟩) (jI_0) (hB) f74 f75 f76 f77 f78 f79 (k80)
      intro mm
      induction mm with
      | zero =>
        intro t tv b2 h83 hmm ht hI hB2 f84 f85 f86 f87 f88 f89 k90
        exact absurd hmm (Nat.not_lt_zero _)
      | succ mm ih91 =>
        intro t tv b2 h83 hmm ht hI hB2 f84 f85 f86 f87 f88 f89 k90
        rcases ht with ⟨rfl, rfl⟩ | ⟨s, bs_, rfl, rfl, hss⟩
        · refine aw_iload_n 0 dX3_weighStates_18 rfl rfl ?_
          refine aw_if_lt 77 dX3_weighStates_19 (by decide) (fun c19 => ?_) (fun c19 => absurd (by decide) c19)
          refine aw_lv [(1, .int (nI i)), (0, .ref (G.1 + J))] [2, 3] rfl ?_
          rcases Nat.eq_zero_or_pos i with rfl | hpos
          · refine aw_lv [(1, .int 0), (0, .ref (G.1 + J))] [0, 1] rfl ?_
            refine aw_iinc (j := 0) (-1) [(1, .int (-1)), (0, .ref (G.1 + J))] dX3_weighStates_77 rfl (by decide) (by decide) rfl ?_
            refine aw_goto 5 dX3_weighStates_80 (by decide) ?_
            refine aw_lv [(1, .int (-1)), (0, .ref (G.1 + J))] [0, 1] rfl ?_
            exact ih81 0 (-1) b2 _ (by omega) (Or.inl ⟨rfl, rfl⟩) (jI_z hI hB2) f84 f85 f86 f87 f88 f89 (k90)
          · refine aw_iinc (j := 0) (nI (i - 1)) [(1, .int (nI (i - 1))), (0, .ref (G.1 + J))] dX3_weighStates_77 rfl (nv_dm (rfl) (by omega)) (by decide) rfl ?_
            refine aw_goto 5 dX3_weighStates_80 (by decide) ?_
            refine aw_lv [(1, .int (nI (i - 1))), (0, .ref (G.1 + J))] [0, 1] rfl ?_
            exact ih81 ((i - 1) + 1) (nI (i - 1)) b2 _ (by omega) (Or.inr ⟨_, by omega, rfl, rfl⟩) (by rw [show (i - 1) + 1 = i by omega]; exact jI_z hI hB2) f84 f85 f86 f87 f88 f89 (k90)
        · refine aw_iload_n 0 dX3_weighStates_18 rfl rfl ?_
          refine aw_if_lt 77 dX3_weighStates_19 (by decide) (fun c19 => absurd c19 (by simp only [i_lt, (nI_toInt (n := s) (by omega)), (show (0 : Int32).toInt = 0 from rfl)] <;> omega)) (fun c19 => ?_)
          refine aw_iload_n 0 dX3_weighStates_22 rfl rfl ?_
          refine aw_dS [.int (nI s)] [] lX3_62 sJ6_bitCount_0f7a4 mJ6_bitCount_0f7a4 dX3_weighStates_23 (J6_bitCount_g (x := (nI s)) ) rfl (Nat.le_of_ble_eq_true rfl) (by decide) (by decide) rfl ?_
          refine aw_toe (nI (popN s)) (bc_pop (by omega)) ?_
          have bpn := popN_le s
          refine aw_iload_n 2 dX3_weighStates_26 rfl rfl ?_
          refine aw_icmp_gt 60 dX3_weighStates_27 (by decide) (fun c27 => ?_) (fun c27 => ?_)
          · have d27 := (nv_lt (a := i) (b := popN s) (rfl) (rfl) (by omega) (by omega)).mp c27
            refine aw_iload_n 0 dX3_weighStates_60 rfl rfl ?_
            refine aw_if_ne 68 dX3_weighStates_61 (by decide) (fun c61 => ?_) (fun c61 => ?_)
            · have d61 := mt (nv_eq (a := s) (b := 0) (rfl) (rfl) (by omega) (by omega)).mpr c61
              refine aw_iload_n 0 dX3_weighStates_68 rfl rfl ?_
              refine aw_iconst (1) dX3_weighStates_69 (by decide) ?_
              refine aw_isub dX3_weighStates_70 ?_
              refine aw_toe (nI (s - 1)) (nv_sub (rfl) (rfl) (by omega)) ?_
              refine aw_iload_n 1 dX3_weighStates_71 rfl rfl ?_
              refine aw_iand dX3_weighStates_72 ?_
              refine aw_toe (nI ((s - 1) &&& (rc i))) (nv_and (rfl) (rfl)) ?_
              refine aw_istore_n [(3, .int (nI ((s - 1) &&& (rc i)))), (2, .int (nI (rc i))), (1, .int (nI i)), (0, .ref (G.1 + J))] dX3_weighStates_73 rfl (by decide) rfl ?_
              refine aw_goto 18 dX3_weighStates_74 (by decide) ?_
              refine aw_lv [(3, .int (nI ((s - 1) &&& (rc i)))), (2, .int (nI (rc i))), (1, .int (nI i)), (0, .ref (G.1 + J))] [0, 1, 2, 3] rfl ?_
              have bq : (s - 1) &&& (rc i) ≤ (s - 1) := Nat.and_le_left
              exact ih91 (((s - 1) &&& (rc i)) + 1) (nI ((s - 1) &&& (rc i))) b2 _ (by omega) (Or.inr ⟨_, by omega, rfl, rfl, sub_in _ _⟩) (jI_n (hI) hss (fun h9 => absurd h9 (by omega)) (Or.inr ⟨by omega, rfl⟩)) (hB2) f84 f85 f86 f87 f88 f89 (k90)
            · have d61 := (nv_eq (a := s) (b := 0) (rfl) (rfl) (by omega) (by omega)).mp c61
              refine aw_iconst (-1) dX3_weighStates_64 (by decide) ?_
              refine aw_goto 73 dX3_weighStates_65 (by decide) ?_
              refine aw_istore_n [(3, .int (-1)), (2, .int (nI (rc i))), (1, .int (nI i)), (0, .ref (G.1 + J))] dX3_weighStates_73 rfl (by decide) rfl ?_
              refine aw_goto 18 dX3_weighStates_74 (by decide) ?_
              refine aw_lv [(3, .int (-1)), (2, .int (nI (rc i))), (1, .int (nI i)), (0, .ref (G.1 + J))] [0, 1, 2, 3] rfl ?_
              exact ih91 0 (-1) b2 _ (by omega) (Or.inl ⟨rfl, rfl⟩) (jI_n (hI) hss (fun h9 => absurd h9 (by omega)) (Or.inl ⟨by omega, rfl⟩)) (hB2) f84 f85 f86 f87 f88 f89 (k90)
          · have d27 := mt (nv_lt (a := i) (b := popN s) (rfl) (rfl) (by omega) (by omega)).mpr c27
            refine aw_aload_n 3 dX3_weighStates_30 rfl rfl ?_
            refine aw_get fX3_18 dX3_weighStates_31 f84 rfl ?_
            refine aw_iload_n 2 dX3_weighStates_34 rfl rfl ?_
            refine aw_sipush (1024) dX3_weighStates_35 (by decide) ?_
            refine aw_imul dX3_weighStates_38 ?_
            refine aw_toe (nI (i * 1024)) (nv_mul (rfl) (rfl)) ?_
            refine aw_iload_n 0 dX3_weighStates_39 rfl rfl ?_
            refine aw_iadd dX3_weighStates_40 ?_
            refine aw_toe (nI ((i * 1024) + s)) (nv_add (rfl) (rfl)) ?_
            refine aw_iload_n 2 dX3_weighStates_41 rfl rfl ?_
            refine aw_aload_n 3 dX3_weighStates_42 rfl rfl ?_
            refine aw_get fX3_27 dX3_weighStates_43 f84 rfl ?_
            refine aw_icmp_ne 53 dX3_weighStates_46 (by decide) (fun c46 => ?_) (fun c46 => ?_)
            · have d46 := mt (nv_eq (a := i) (b := ro) (rfl) (rfl) (by omega) (by omega)).mpr c46
              refine aw_aload_n 3 dX3_weighStates_53 rfl rfl ?_
              refine aw_iload_n 2 dX3_weighStates_54 rfl rfl ?_
              refine aw_iload_n 0 dX3_weighStates_55 rfl rfl ?_
              refine aw_dV [.int (nI i), .int (nI s)] [.int (nI ((i * 1024) + s)), .ref (G.1 + (J + 3))] lX3_68 vX3_weighState mX3_weighState dX3_weighStates_56 (aX3_weighState (J := J) (u := u) (v := v) (ro := ro) (co := co) (rc := rc) (lk := lk) (bs := b2) (wy := wy) (nw := nw) (i := i) (s := s) f84 f85 f86 f87 f88 f89 (by omega) (by omega) (by omega) (by omega) (by omega) hrc (by omega) (by omega)) f84 rfl rfl rfl (Nat.le_of_ble_eq_true rfl) (by decide) (by decide) rfl ?_
              refine aw_iast ((i * 1024) + s) (rfl) (by omega) (by decide) dX3_weighStates_59 f87 ?_
              refine aw_iload_n 0 dX3_weighStates_60 rfl rfl ?_
              refine aw_if_ne 68 dX3_weighStates_61 (by decide) (fun c61 => ?_) (fun c61 => ?_)
              · have d61 := mt (nv_eq (a := s) (b := 0) (rfl) (rfl) (by omega) (by omega)).mpr c61
                refine aw_iload_n 0 dX3_weighStates_68 rfl rfl ?_
                refine aw_iconst (1) dX3_weighStates_69 (by decide) ?_
                refine aw_isub dX3_weighStates_70 ?_
                refine aw_toe (nI (s - 1)) (nv_sub (rfl) (rfl) (by omega)) ?_
                refine aw_iload_n 1 dX3_weighStates_71 rfl rfl ?_
                refine aw_iand dX3_weighStates_72 ?_
                refine aw_toe (nI ((s - 1) &&& (rc i))) (nv_and (rfl) (rfl)) ?_
                refine aw_istore_n [(3, .int (nI ((s - 1) &&& (rc i)))), (2, .int (nI (rc i))), (1, .int (nI i)), (0, .ref (G.1 + J))] dX3_weighStates_73 rfl (by decide) rfl ?_
                refine aw_goto 18 dX3_weighStates_74 (by decide) ?_
                refine aw_lv [(3, .int (nI ((s - 1) &&& (rc i)))), (2, .int (nI (rc i))), (1, .int (nI i)), (0, .ref (G.1 + J))] [0, 1, 2, 3] rfl ?_
                have bq : (s - 1) &&& (rc i) ≤ (s - 1) := Nat.and_le_left
                exact ih91 (((s - 1) &&& (rc i)) + 1) (nI ((s - 1) &&& (rc i))) (upd b2 ((i * 1024) + s) (wjF lk b2 i s co)) _ (by omega) (Or.inr ⟨_, by omega, rfl, rfl, sub_in _ _⟩) (jI_n (jI_w hI) hss (fun h9 => by simp only [upd, if_pos]; exact wj_S hL hlx3 hR hB2 (by omega) (by omega) (by omega) bs_ hss h9) (Or.inr ⟨by omega, rfl⟩)) (jB_w bs_ hrc (by omega) hB2) (gn (by omega) (f84)) (gn (by omega) (f85)) (gn (by omega) (f86)) (gs f87) (gn (by omega) (f88)) (gn (by omega) (f89)) (rng_set (k90) (by omega) (by omega))
              · have d61 := (nv_eq (a := s) (b := 0) (rfl) (rfl) (by omega) (by omega)).mp c61
                refine aw_iconst (-1) dX3_weighStates_64 (by decide) ?_
                refine aw_goto 73 dX3_weighStates_65 (by decide) ?_
                refine aw_istore_n [(3, .int (-1)), (2, .int (nI (rc i))), (1, .int (nI i)), (0, .ref (G.1 + J))] dX3_weighStates_73 rfl (by decide) rfl ?_
                refine aw_goto 18 dX3_weighStates_74 (by decide) ?_
                refine aw_lv [(3, .int (-1)), (2, .int (nI (rc i))), (1, .int (nI i)), (0, .ref (G.1 + J))] [0, 1, 2, 3] rfl ?_
                exact ih91 0 (-1) (upd b2 ((i * 1024) + s) (wjF lk b2 i s co)) _ (by omega) (Or.inl ⟨rfl, rfl⟩) (jI_n (jI_w hI) hss (fun h9 => by simp only [upd, if_pos]; exact wj_S hL hlx3 hR hB2 (by omega) (by omega) (by omega) bs_ hss h9) (Or.inl ⟨by omega, rfl⟩)) (jB_w bs_ hrc (by omega) hB2) (gn (by omega) (f84)) (gn (by omega) (f85)) (gn (by omega) (f86)) (gs f87) (gn (by omega) (f88)) (gn (by omega) (f89)) (rng_set (k90) (by omega) (by omega))
            · have d46 := (nv_eq (a := i) (b := ro) (rfl) (rfl) (by omega) (by omega)).mp c46
              refine aw_iconst (0) dX3_weighStates_49 (by decide) ?_
              refine aw_goto 59 dX3_weighStates_50 (by decide) ?_
              refine aw_iast ((i * 1024) + s) (rfl) (by omega) (by decide) dX3_weighStates_59 f87 ?_
              refine aw_iload_n 0 dX3_weighStates_60 rfl rfl ?_
              refine aw_if_ne 68 dX3_weighStates_61 (by decide) (fun c61 => ?_) (fun c61 => ?_)
              · have d61 := mt (nv_eq (a := s) (b := 0) (rfl) (rfl) (by omega) (by omega)).mpr c61
                refine aw_iload_n 0 dX3_weighStates_68 rfl rfl ?_
                refine aw_iconst (1) dX3_weighStates_69 (by decide) ?_
                refine aw_isub dX3_weighStates_70 ?_
                refine aw_toe (nI (s - 1)) (nv_sub (rfl) (rfl) (by omega)) ?_
                refine aw_iload_n 1 dX3_weighStates_71 rfl rfl ?_
                refine aw_iand dX3_weighStates_72 ?_
                refine aw_toe (nI ((s - 1) &&& (rc i))) (nv_and (rfl) (rfl)) ?_
                refine aw_istore_n [(3, .int (nI ((s - 1) &&& (rc i)))), (2, .int (nI (rc i))), (1, .int (nI i)), (0, .ref (G.1 + J))] dX3_weighStates_73 rfl (by decide) rfl ?_
                refine aw_goto 18 dX3_weighStates_74 (by decide) ?_
                refine aw_lv [(3, .int (nI ((s - 1) &&& (rc i)))), (2, .int (nI (rc i))), (1, .int (nI i)), (0, .ref (G.1 + J))] [0, 1, 2, 3] rfl ?_
                have bq : (s - 1) &&& (rc i) ≤ (s - 1) := Nat.and_le_left
                exact ih91 (((s - 1) &&& (rc i)) + 1) (nI ((s - 1) &&& (rc i))) (upd b2 ((i * 1024) + s) 0) _ (by omega) (Or.inr ⟨_, by omega, rfl, rfl, sub_in _ _⟩) (jI_n (jI_w hI) hss (fun h9 => by simp only [upd, if_pos]; rw [show ro - i = 0 by omega]; rfl) (Or.inr ⟨by omega, rfl⟩)) (jB_w bs_ hrc (by omega) hB2) (gn (by omega) (f84)) (gn (by omega) (f85)) (gn (by omega) (f86)) (gs f87) (gn (by omega) (f88)) (gn (by omega) (f89)) (rng_set (k90) (by omega) (by omega))
              · have d61 := (nv_eq (a := s) (b := 0) (rfl) (rfl) (by omega) (by omega)).mp c61
                refine aw_iconst (-1) dX3_weighStates_64 (by decide) ?_
                refine aw_goto 73 dX3_weighStates_65 (by decide) ?_
                refine aw_istore_n [(3, .int (-1)), (2, .int (nI (rc i))), (1, .int (nI i)), (0, .ref (G.1 + J))] dX3_weighStates_73 rfl (by decide) rfl ?_
                refine aw_goto 18 dX3_weighStates_74 (by decide) ?_
                refine aw_lv [(3, .int (-1)), (2, .int (nI (rc i))), (1, .int (nI i)), (0, .ref (G.1 + J))] [0, 1, 2, 3] rfl ?_
                exact ih91 0 (-1) (upd b2 ((i * 1024) + s) 0) _ (by omega) (Or.inl ⟨rfl, rfl⟩) (jI_n (jI_w hI) hss (fun h9 => by simp only [upd, if_pos]; rw [show ro - i = 0 by omega]; rfl) (Or.inl ⟨by omega, rfl⟩)) (jB_w bs_ hrc (by omega) hB2) (gn (by omega) (f84)) (gn (by omega) (f85)) (gn (by omega) (f86)) (gs f87) (gn (by omega) (f88)) (gn (by omega) (f89)) (rng_set (k90) (by omega) (by omega))
set_option maxHeartbeats 4000000 in
theorem aX3_tellFirst {l : Launch} {G : xG} {h : List va_E} {J u v ro co : Nat} {rc : Nat → Nat} {lk bs wy nw : Nat → Int32} {P pv : Nat} {su wa : Int32} {pt ce : Nat → Int32} {lx : Nat → Nat → Nat} (hJ : h[J]? = some (oB 3 (lJ G J (.ref (G.1 + u)) (.ref (G.1 + v)) (nI ro) (nI co)))) (hJ_1 : h[J + 1]? = some (aI 100 lk)) (hJ_2 : h[J + 2]? = some (aI 11 (nA rc))) (hJ_3 : h[J + 3]? = some (aI 11264 bs)) (hu : h[u]? = some (aI 1024 wy)) (hv : h[v]? = some (aI 1024 nw)) (hP : h[P]? = some (oB 4 (lG G P su wa (nI pv)))) (hP_1 : h[P + 1]? = some (aI 10 pt)) (hP_2 : h[P + 2]? = some (aZ 10 ce)) (qu : J + 4 ≤ u ∧ u ≤ J + 5) (qv : J + 4 ≤ v ∧ v ≤ J + 5) (quv : u ≠ v) (hro : ro ≤ 10) (hco : co ≤ 10) (hrc : ∀ j, j < 11 → rc j < 1024) (qP : P + 2 < J) (hpt : pB pt) (hL : jL lx ro co lk) (hR : jR lx ro co rc) (hlx3 : ∀ i k, lx i k ≤ 300) (hB : jB lx ro co rc 0 bs) : CE l G yX3_tellFirst cX3_tellFirst 6 none 1 0 0 [.ref (G.1 + J), .ref (G.1 + P)] h none (fun h1 => ∃ pt1 : Nat → Int32, h1[P]? = some (oB 4 (lG G P su wa (nI pv))) ∧ h1[P + 1]? = some (aI 10 pt1) ∧ h1[P + 2]? = some (aZ 10 ce) ∧ rng P (P + 2) h h1 ∧ pB pt1 ∧ (∀ j, j < ro → pt1 j = jP lx co ro j)) := by
  refine cm_ofQ rfl (Nat.le_of_ble_eq_true rfl) [(0, .ref (G.1 + J)), (1, .ref (G.1 + P))] rfl (fun QF hQF => ?_)
  refine aw_iconst (0) dX3_tellFirst_0 (by decide) ?_
  refine aw_istore_n [(2, .int 0), (0, .ref (G.1 + J)), (1, .ref (G.1 + P))] dX3_tellFirst_1 rfl (by decide) rfl ?_
  refine aw_iconst (0) dX3_tellFirst_2 (by decide) ?_
  refine aw_istore_n [(3, .int 0), (2, .int 0), (0, .ref (G.1 + J)), (1, .ref (G.1 + P))] dX3_tellFirst_3 rfl (by decide) rfl ?_
  refine aw_lv [(3, .int 0), (2, .int 0), (1, .ref (G.1 + P)), (0, .ref (G.1 + J))] [0, 1, 3, 2] rfl ?_
  suffices L103 : ∀ (mm : Nat) (i : Nat) (s : Nat) (pt1 : Nat → Int32) (h92 : List va_E), ro - i < mm → (i ≤ ro) → (s < 1024) → (pB pt1) → (s = jTk lx co ro i) → (∀ j, j < i → pt1 j = jP lx co ro j) → h92[J]? = some (oB 3 (lJ G J (.ref (G.1 + u)) (.ref (G.1 + v)) (nI ro) (nI co))) → h92[J + 1]? = some (aI 100 lk) → h92[J + 2]? = some (aI 11 (nA rc)) → h92[J + 3]? = some (aI 11264 bs) → h92[u]? = some (aI 1024 wy) → h92[v]? = some (aI 1024 nw) → h92[P]? = some (oB 4 (lG G P su wa (nI pv))) → h92[P + 1]? = some (aI 10 pt1) → h92[P + 2]? = some (aZ 10 ce) → rng P (P + 2) h h92 → AW l G yX3_tellFirst cX3_tellFirst 6 none (xR 1 0 0) (fun _ _ => True) QF 0 0 4 [(3, .int (nI i)), (2, .int (nI s)), (1, .ref (G.1 + P)), (0, .ref (G.1 + J))] [] h92 from L103 (ro - 0 + 1) 0 0 pt _ (Nat.lt_succ_self _) (Nat.zero_le _) (by decide) (hpt) (rfl) (fun q h8 => absurd h8 (Nat.not_lt_zero _)) hJ hJ_1 hJ_2 hJ_3 hu hv hP hP_1 hP_2 (rng_rf P (P + 2) h)
  intro mm
  induction mm with
  | zero =>
    intro i s pt1 h92 hmm hi bs_ hp hs hq f93 f94 f95 f96 f97 f98 f99 f100 f101 k102
    exact absurd hmm (Nat.not_lt_zero _)
  | succ mm ih103 =>
    intro i s pt1 h92 hmm hi bs_ hp hs hq f93 f94 f95 f96 f97 f98 f99 f100 f101 k102
    have hT := jT_ok hlx3 hR hco i hi
    rw [← hs] at hT
    obtain ⟨_, hss, hpp⟩ := hT
    refine aw_iload_n 0 dX3_tellFirst_4 rfl rfl ?_
    refine aw_aload_n 3 dX3_tellFirst_5 rfl rfl ?_
    refine aw_get fX3_27 dX3_tellFirst_6 f93 rfl ?_
    refine aw_icmp_ge 96 dX3_tellFirst_9 (by decide) (fun c9 => ?_) (fun c9 => ?_)
    · have d9 := (nv_le (a := ro) (b := i) (rfl) (rfl) (by omega) (by omega)).mp c9
      subst hQF
      exact aw_vret rfl dX3_tellFirst_96 (by decide) (by decide) ⟨rfl, _, f99, f100, f101, k102, hp, fun j hj => hq j (by omega)⟩
    · have d9 := mt (nv_le (a := ro) (b := i) (rfl) (rfl) (by omega) (by omega)).mpr c9
      refine aw_bipush (-9) dX3_tellFirst_12 (by decide) ?_
      refine aw_istore [(4, .int (-9)), (3, .int (nI i)), (2, .int (nI s)), (1, .ref (G.1 + P)), (0, .ref (G.1 + J))] dX3_tellFirst_14 (by decide) rfl ?_
      refine aw_iconst (0) dX3_tellFirst_16 (by decide) ?_
      refine aw_istore [(5, .int 0), (4, .int (-9)), (3, .int (nI i)), (2, .int (nI s)), (1, .ref (G.1 + P)), (0, .ref (G.1 + J))] dX3_tellFirst_17 (by decide) rfl ?_
      refine aw_lv [(5, .int 0), (4, .int (-9)), (3, .int (nI i)), (2, .int (nI s)), (1, .ref (G.1 + P)), (0, .ref (G.1 + J))] [0, 1, 2, 3, 4, 5] rfl ?_
      suffices L115 : ∀ (mm : Nat) (k : Nat) (cv : Int32) (h104 : List va_E), co - k < mm → (k ≤ co) → ((cv = -9 ∨ ∃ q, q < 10 ∧ cv = nI q) ∧ cv = jF lx (jS lx co (ro - i - 1) (i + 1)) i s (jS lx co (ro - i) i s) k) → h104[J]? = some (oB 3 (lJ G J (.ref (G.1 + u)) (.ref (G.1 + v)) (nI ro) (nI co))) → h104[J + 1]? = some (aI 100 lk) → h104[J + 2]? = some (aI 11 (nA rc)) → h104[J + 3]? = some (aI 11264 bs) → h104[u]? = some (aI 1024 wy) → h104[v]? = some (aI 1024 nw) → h104[P]? = some (oB 4 (lG G P su wa (nI pv))) → h104[P + 1]? = some (aI 10 pt1) → h104[P + 2]? = some (aZ 10 ce) → rng P (P + 2) h h104 → AW l G yX3_tellFirst cX3_tellFirst 6 none (xR 1 0 0) (fun _ _ => True) QF 0 0 19 [(5, .int (nI k)), (4, .int cv), (3, .int (nI i)), (2, .int (nI s)), (1, .ref (G.1 + P)), (0, .ref (G.1 + J))] [] h104 from L115 (co - 0 + 1) 0 (-9) _ (Nat.lt_succ_self _) (Nat.zero_le _) (⟨Or.inl rfl, rfl⟩) f93 f94 f95 f96 f97 f98 f99 f100 f101 (k102)
      intro mm
      induction mm with
      | zero =>
        intro k cv h104 hmm hk hc f105 f106 f107 f108 f109 f110 f111 f112 f113 k114
        exact absurd hmm (Nat.not_lt_zero _)
      | succ mm ih115 =>
        intro k cv h104 hmm hk hc f105 f106 f107 f108 f109 f110 f111 f112 f113 k114
        rcases hc with ⟨rfl | ⟨q, bq, rfl⟩, hc⟩
        · refine aw_iload 0 dX3_tellFirst_19 rfl ?_
          refine aw_aload_n 5 dX3_tellFirst_21 rfl rfl ?_
          refine aw_get fX3_31 dX3_tellFirst_22 f105 rfl ?_
          refine aw_icmp_ge 68 dX3_tellFirst_25 (by decide) (fun c25 => ?_) (fun c25 => ?_)
          · have d25 := (nv_le (a := co) (b := k) (rfl) (rfl) (by omega) (by omega)).mp c25
            refine aw_aload_n 4 dX3_tellFirst_68 rfl rfl ?_
            refine aw_get fX3_80 dX3_tellFirst_69 f111 rfl ?_
            refine aw_iload_n 2 dX3_tellFirst_72 rfl rfl ?_
            refine aw_iload 1 dX3_tellFirst_73 rfl ?_
            refine aw_iast i (rfl) (by omega) (by decide) dX3_tellFirst_75 f112 ?_
            refine aw_iload 1 dX3_tellFirst_76 rfl ?_
            refine aw_bipush (-9) dX3_tellFirst_78 (by decide) ?_
            refine aw_icmp_eq 90 dX3_tellFirst_80 (by decide) (fun c80 => ?_) (fun c80 => absurd (by decide) c80)
            refine aw_iinc (j := 2) (nI (i + 1)) [(3, .int (nI (i + 1))), (5, .int (nI k)), (4, .int (-9)), (2, .int (nI s)), (1, .ref (G.1 + P)), (0, .ref (G.1 + J))] dX3_tellFirst_90 rfl (nv_inc (rfl)) (by decide) rfl ?_
            refine aw_goto 4 dX3_tellFirst_93 (by decide) ?_
            refine aw_lv [(3, .int (nI (i + 1))), (2, .int (nI s)), (1, .ref (G.1 + P)), (0, .ref (G.1 + J))] [0, 3, 4, 5] rfl ?_
            have ET : jP lx co ro i = -9 := jP_1 hs (by omega) hc
            exact ih103 (i + 1) s (upd pt1 i (-9)) _ (by omega) (by omega) (bs_) (pB_u hp (Or.inl rfl)) (by rw [jT_s, if_pos ET]; exact hs) (pt_up hq ET.symm) (gn (by omega) (f105)) (gn (by omega) (f106)) (gn (by omega) (f107)) (gn (by omega) (f108)) (gn (by omega) (f109)) (gn (by omega) (f110)) (gn (by omega) (f111)) (gs f112) (gn (by omega) (f113)) (rng_set (k114) (by omega) (by omega))
          · have d25 := mt (nv_le (a := co) (b := k) (rfl) (rfl) (by omega) (by omega)).mpr c25
            refine aw_iload 1 dX3_tellFirst_28 rfl ?_
            refine aw_bipush (-9) dX3_tellFirst_30 (by decide) ?_
            refine aw_icmp_ne 68 dX3_tellFirst_32 (by decide) (fun c32 => absurd (by decide) c32) (fun c32 => ?_)
            refine aw_aload_n 5 dX3_tellFirst_35 rfl rfl ?_
            refine aw_iload_n 2 dX3_tellFirst_36 rfl rfl ?_
            refine aw_iload_n 3 dX3_tellFirst_37 rfl rfl ?_
            refine aw_iload 0 dX3_tellFirst_38 rfl ?_
            refine aw_dV [.int (nI i), .int (nI s), .int (nI k)] [] lX3_71 vX3_valueOf mX3_valueOf dX3_tellFirst_40 (aX3_valueOf (J := J) (u := u) (v := v) (ro := ro) (co := co) (rc := rc) (lk := lk) (bs := bs) (wy := wy) (nw := nw) (i := i) (s := s) (k := k) f105 f106 f107 f108 f109 f110 (by omega) (by omega) (by omega) (by omega) (by omega) (by omega)) f105 rfl rfl rfl (Nat.le_of_ble_eq_true rfl) (by decide) (by decide) rfl ?_
            refine aw_aload_n 5 dX3_tellFirst_43 rfl rfl ?_
            refine aw_get fX3_18 dX3_tellFirst_44 f105 rfl ?_
            refine aw_iload_n 2 dX3_tellFirst_47 rfl rfl ?_
            refine aw_sipush (1024) dX3_tellFirst_48 (by decide) ?_
            refine aw_imul dX3_tellFirst_51 ?_
            refine aw_toe (nI (i * 1024)) (nv_mul (rfl) (rfl)) ?_
            refine aw_iload_n 3 dX3_tellFirst_52 rfl rfl ?_
            refine aw_iadd dX3_tellFirst_53 ?_
            refine aw_toe (nI ((i * 1024) + s)) (nv_add (rfl) (rfl)) ?_
            refine aw_iald ((i * 1024) + s) (rfl) (by omega) (by decide) dX3_tellFirst_54 f108 ?_
            refine aw_icmp_ne 62 dX3_tellFirst_55 (by decide) (fun c55 => ?_) (fun c55 => ?_)
            · refine aw_iinc (j := 0) (nI (k + 1)) [(5, .int (nI (k + 1))), (4, .int (-9)), (3, .int (nI i)), (2, .int (nI s)), (1, .ref (G.1 + P)), (0, .ref (G.1 + J))] dX3_tellFirst_62 rfl (nv_inc (rfl)) (by decide) rfl ?_
              refine aw_goto 19 dX3_tellFirst_65 (by decide) ?_
              refine aw_lv [(5, .int (nI (k + 1))), (4, .int (-9)), (3, .int (nI i)), (2, .int (nI s)), (1, .ref (G.1 + P)), (0, .ref (G.1 + J))] [0, 1, 2, 3, 4, 5] rfl ?_
              exact ih115 (k + 1) (-9) _ (by omega) (by omega) (⟨Or.inl rfl, (jF_n hc.symm (ft_n (ft_e hL hlx3 hR hB (by omega) (by omega) (by omega) bs_ hss hpp (by omega)) c55)).symm⟩) f105 f106 f107 f108 f109 f110 f111 f112 f113 (k114)
            · refine aw_iload 0 dX3_tellFirst_58 rfl ?_
              refine aw_istore [(4, .int (nI k)), (5, .int (nI k)), (3, .int (nI i)), (2, .int (nI s)), (1, .ref (G.1 + P)), (0, .ref (G.1 + J))] dX3_tellFirst_60 (by decide) rfl ?_
              refine aw_iinc (j := 1) (nI (k + 1)) [(5, .int (nI (k + 1))), (4, .int (nI k)), (3, .int (nI i)), (2, .int (nI s)), (1, .ref (G.1 + P)), (0, .ref (G.1 + J))] dX3_tellFirst_62 rfl (nv_inc (rfl)) (by decide) rfl ?_
              refine aw_goto 19 dX3_tellFirst_65 (by decide) ?_
              refine aw_lv [(5, .int (nI (k + 1))), (4, .int (nI k)), (3, .int (nI i)), (2, .int (nI s)), (1, .ref (G.1 + P)), (0, .ref (G.1 + J))] [0, 1, 2, 3, 4, 5] rfl ?_
              exact ih115 (k + 1) (nI k) _ (by omega) (by omega) (⟨Or.inr ⟨_, by omega, rfl⟩, (jF_y hc.symm ((ft_e hL hlx3 hR hB (by omega) (by omega) (by omega) bs_ hss hpp (by omega)).mp c55).1 ((ft_e hL hlx3 hR hB (by omega) (by omega) (by omega) bs_ hss hpp (by omega)).mp c55).2).symm⟩) f105 f106 f107 f108 f109 f110 f111 f112 f113 (k114)
        · refine aw_iload 0 dX3_tellFirst_19 rfl ?_
          refine aw_aload_n 5 dX3_tellFirst_21 rfl rfl ?_
          refine aw_get fX3_31 dX3_tellFirst_22 f105 rfl ?_
          refine aw_icmp_ge 68 dX3_tellFirst_25 (by decide) (fun c25 => ?_) (fun c25 => ?_)
          · have d25 := (nv_le (a := co) (b := k) (rfl) (rfl) (by omega) (by omega)).mp c25
            refine aw_aload_n 4 dX3_tellFirst_68 rfl rfl ?_
            refine aw_get fX3_80 dX3_tellFirst_69 f111 rfl ?_
            refine aw_iload_n 2 dX3_tellFirst_72 rfl rfl ?_
            refine aw_iload 1 dX3_tellFirst_73 rfl ?_
            refine aw_iast i (rfl) (by omega) (by decide) dX3_tellFirst_75 f112 ?_
            refine aw_iload 1 dX3_tellFirst_76 rfl ?_
            refine aw_bipush (-9) dX3_tellFirst_78 (by decide) ?_
            refine aw_icmp_eq 90 dX3_tellFirst_80 (by decide) (fun c80 => ?_) (fun c80 => ?_)
            · refine aw_iinc (j := 2) (nI (i + 1)) [(3, .int (nI (i + 1))), (5, .int (nI k)), (4, .int (nI q)), (2, .int (nI s)), (1, .ref (G.1 + P)), (0, .ref (G.1 + J))] dX3_tellFirst_90 rfl (nv_inc (rfl)) (by decide) rfl ?_
              refine aw_goto 4 dX3_tellFirst_93 (by decide) ?_
              refine aw_lv [(3, .int (nI (i + 1))), (2, .int (nI s)), (1, .ref (G.1 + P)), (0, .ref (G.1 + J))] [0, 3, 4, 5] rfl ?_
              exact absurd c80 (nI_9 (by omega))
            · refine aw_iload_n 3 dX3_tellFirst_83 rfl rfl ?_
              refine aw_iconst (1) dX3_tellFirst_84 (by decide) ?_
              refine aw_iload 1 dX3_tellFirst_85 rfl ?_
              refine aw_ishl dX3_tellFirst_87 ?_
              refine aw_toe (nI (2 ^ q)) (nv_shl1 (rfl) (by omega)) ?_
              refine aw_ior dX3_tellFirst_88 ?_
              refine aw_toe (nI (s ||| (2 ^ q))) (nv_or (rfl) (rfl)) ?_
              refine aw_istore_n [(2, .int (nI (s ||| (2 ^ q)))), (5, .int (nI k)), (4, .int (nI q)), (3, .int (nI i)), (1, .ref (G.1 + P)), (0, .ref (G.1 + J))] dX3_tellFirst_89 rfl (by decide) rfl ?_
              refine aw_iinc (j := 3) (nI (i + 1)) [(3, .int (nI (i + 1))), (2, .int (nI (s ||| (2 ^ q)))), (5, .int (nI k)), (4, .int (nI q)), (1, .ref (G.1 + P)), (0, .ref (G.1 + J))] dX3_tellFirst_90 rfl (nv_inc (rfl)) (by decide) rfl ?_
              refine aw_goto 4 dX3_tellFirst_93 (by decide) ?_
              refine aw_lv [(3, .int (nI (i + 1))), (2, .int (nI (s ||| (2 ^ q)))), (1, .ref (G.1 + P)), (0, .ref (G.1 + J))] [0, 1, 4, 5] rfl ?_
              have ET : jP lx co ro i = nI q := jP_1 hs (by omega) hc
              exact ih103 (i + 1) (s ||| (2 ^ q)) (upd pt1 i (nI q)) _ (by omega) (by omega) (or_k bs_ (by omega)) (pB_u hp (Or.inr ⟨_, by omega, rfl⟩)) (by rw [jT_s, ET, if_neg (nI_9 (by omega)), jn_nI (by omega), ← hs]) (pt_up hq ET.symm) (gn (by omega) (f105)) (gn (by omega) (f106)) (gn (by omega) (f107)) (gn (by omega) (f108)) (gn (by omega) (f109)) (gn (by omega) (f110)) (gn (by omega) (f111)) (gs f112) (gn (by omega) (f113)) (rng_set (k114) (by omega) (by omega))
          · have d25 := mt (nv_le (a := co) (b := k) (rfl) (rfl) (by omega) (by omega)).mpr c25
            refine aw_iload 1 dX3_tellFirst_28 rfl ?_
            refine aw_bipush (-9) dX3_tellFirst_30 (by decide) ?_
            refine aw_icmp_ne 68 dX3_tellFirst_32 (by decide) (fun c32 => ?_) (fun c32 => ?_)
            · refine aw_aload_n 4 dX3_tellFirst_68 rfl rfl ?_
              refine aw_get fX3_80 dX3_tellFirst_69 f111 rfl ?_
              refine aw_iload_n 2 dX3_tellFirst_72 rfl rfl ?_
              refine aw_iload 1 dX3_tellFirst_73 rfl ?_
              refine aw_iast i (rfl) (by omega) (by decide) dX3_tellFirst_75 f112 ?_
              refine aw_iload 1 dX3_tellFirst_76 rfl ?_
              refine aw_bipush (-9) dX3_tellFirst_78 (by decide) ?_
              refine aw_icmp_eq 90 dX3_tellFirst_80 (by decide) (fun c80 => ?_) (fun c80 => ?_)
              · refine aw_iinc (j := 2) (nI (i + 1)) [(3, .int (nI (i + 1))), (5, .int (nI k)), (4, .int (nI q)), (2, .int (nI s)), (1, .ref (G.1 + P)), (0, .ref (G.1 + J))] dX3_tellFirst_90 rfl (nv_inc (rfl)) (by decide) rfl ?_
                refine aw_goto 4 dX3_tellFirst_93 (by decide) ?_
                refine aw_lv [(3, .int (nI (i + 1))), (2, .int (nI s)), (1, .ref (G.1 + P)), (0, .ref (G.1 + J))] [0, 3, 4, 5] rfl ?_
                exact absurd c80 (nI_9 (by omega))
              · refine aw_iload_n 3 dX3_tellFirst_83 rfl rfl ?_
                refine aw_iconst (1) dX3_tellFirst_84 (by decide) ?_
                refine aw_iload 1 dX3_tellFirst_85 rfl ?_
                refine aw_ishl dX3_tellFirst_87 ?_
                refine aw_toe (nI (2 ^ q)) (nv_shl1 (rfl) (by omega)) ?_
                refine aw_ior dX3_tellFirst_88 ?_
                refine aw_toe (nI (s ||| (2 ^ q))) (nv_or (rfl) (rfl)) ?_
                refine aw_istore_n [(2, .int (nI (s ||| (2 ^ q)))), (5, .int (nI k)), (4, .int (nI q)), (3, .int (nI i)), (1, .ref (G.1 + P)), (0, .ref (G.1 + J))] dX3_tellFirst_89 rfl (by decide) rfl ?_
                refine aw_iinc (j := 3) (nI (i + 1)) [(3, .int (nI (i + 1))), (2, .int (nI (s ||| (2 ^ q)))), (5, .int (nI k)), (4, .int (nI q)), (1, .ref (G.1 + P)), (0, .ref (G.1 + J))] dX3_tellFirst_90 rfl (nv_inc (rfl)) (by decide) rfl ?_
                refine aw_goto 4 dX3_tellFirst_93 (by decide) ?_
                refine aw_lv [(3, .int (nI (i + 1))), (2, .int (nI (s ||| (2 ^ q)))), (1, .ref (G.1 + P)), (0, .ref (G.1 + J))] [0, 1, 4, 5] rfl ?_
                have ET : jP lx co ro i = nI q := jP_2 hs (by omega) (nI_9 (by omega)) hc
                exact ih103 (i + 1) (s ||| (2 ^ q)) (upd pt1 i (nI q)) _ (by omega) (by omega) (or_k bs_ (by omega)) (pB_u hp (Or.inr ⟨_, by omega, rfl⟩)) (by rw [jT_s, ET, if_neg (nI_9 (by omega)), jn_nI (by omega), ← hs]) (pt_up hq ET.symm) (gn (by omega) (f105)) (gn (by omega) (f106)) (gn (by omega) (f107)) (gn (by omega) (f108)) (gn (by omega) (f109)) (gn (by omega) (f110)) (gn (by omega) (f111)) (gs f112) (gn (by omega) (f113)) (rng_set (k114) (by omega) (by omega))
            · refine aw_aload_n 5 dX3_tellFirst_35 rfl rfl ?_
              refine aw_iload_n 2 dX3_tellFirst_36 rfl rfl ?_
              refine aw_iload_n 3 dX3_tellFirst_37 rfl rfl ?_
              refine aw_iload 0 dX3_tellFirst_38 rfl ?_
              refine aw_dV [.int (nI i), .int (nI s), .int (nI k)] [] lX3_71 vX3_valueOf mX3_valueOf dX3_tellFirst_40 (aX3_valueOf (J := J) (u := u) (v := v) (ro := ro) (co := co) (rc := rc) (lk := lk) (bs := bs) (wy := wy) (nw := nw) (i := i) (s := s) (k := k) f105 f106 f107 f108 f109 f110 (by omega) (by omega) (by omega) (by omega) (by omega) (by omega)) f105 rfl rfl rfl (Nat.le_of_ble_eq_true rfl) (by decide) (by decide) rfl ?_
              refine aw_aload_n 5 dX3_tellFirst_43 rfl rfl ?_
              refine aw_get fX3_18 dX3_tellFirst_44 f105 rfl ?_
              refine aw_iload_n 2 dX3_tellFirst_47 rfl rfl ?_
              refine aw_sipush (1024) dX3_tellFirst_48 (by decide) ?_
              refine aw_imul dX3_tellFirst_51 ?_
              refine aw_toe (nI (i * 1024)) (nv_mul (rfl) (rfl)) ?_
              refine aw_iload_n 3 dX3_tellFirst_52 rfl rfl ?_
              refine aw_iadd dX3_tellFirst_53 ?_
              refine aw_toe (nI ((i * 1024) + s)) (nv_add (rfl) (rfl)) ?_
              refine aw_iald ((i * 1024) + s) (rfl) (by omega) (by decide) dX3_tellFirst_54 f108 ?_
              refine aw_icmp_ne 62 dX3_tellFirst_55 (by decide) (fun c55 => ?_) (fun c55 => ?_)
              · refine aw_iinc (j := 0) (nI (k + 1)) [(5, .int (nI (k + 1))), (4, .int (nI q)), (3, .int (nI i)), (2, .int (nI s)), (1, .ref (G.1 + P)), (0, .ref (G.1 + J))] dX3_tellFirst_62 rfl (nv_inc (rfl)) (by decide) rfl ?_
                refine aw_goto 19 dX3_tellFirst_65 (by decide) ?_
                refine aw_lv [(5, .int (nI (k + 1))), (4, .int (nI q)), (3, .int (nI i)), (2, .int (nI s)), (1, .ref (G.1 + P)), (0, .ref (G.1 + J))] [0, 1, 2, 3, 4, 5] rfl ?_
                exact absurd c32 (nI_9 (by omega))
              · refine aw_iload 0 dX3_tellFirst_58 rfl ?_
                refine aw_istore [(4, .int (nI k)), (5, .int (nI k)), (3, .int (nI i)), (2, .int (nI s)), (1, .ref (G.1 + P)), (0, .ref (G.1 + J))] dX3_tellFirst_60 (by decide) rfl ?_
                refine aw_iinc (j := 1) (nI (k + 1)) [(5, .int (nI (k + 1))), (4, .int (nI k)), (3, .int (nI i)), (2, .int (nI s)), (1, .ref (G.1 + P)), (0, .ref (G.1 + J))] dX3_tellFirst_62 rfl (nv_inc (rfl)) (by decide) rfl ?_
                refine aw_goto 19 dX3_tellFirst_65 (by decide) ?_
                refine aw_lv [(5, .int (nI (k + 1))), (4, .int (nI k)), (3, .int (nI i)), (2, .int (nI s)), (1, .ref (G.1 + P)), (0, .ref (G.1 + J))] [0, 1, 2, 3, 4, 5] rfl ?_
                exact absurd c32 (nI_9 (by omega))
set_option maxHeartbeats 4000000 in
theorem aX3_addWays {l : Launch} {G : xG} {h : List va_E} {J u v ro co : Nat} {rc : Nat → Nat} {lk bs wy nw : Nat → Int32} {s ga mo : Nat} (hJ : h[J]? = some (oB 3 (lJ G J (.ref (G.1 + u)) (.ref (G.1 + v)) (nI ro) (nI co)))) (hJ_1 : h[J + 1]? = some (aI 100 lk)) (hJ_2 : h[J + 2]? = some (aI 11 (nA rc))) (hJ_3 : h[J + 3]? = some (aI 11264 bs)) (hu : h[u]? = some (aI 1024 wy)) (hv : h[v]? = some (aI 1024 nw)) (qu : J + 4 ≤ u ∧ u ≤ J + 5) (qv : J + 4 ≤ v ∧ v ≤ J + 5) (quv : u ≠ v) (bs_ : s < 1024) (hga : nw s = nI ga) (bga : ga ≤ 1000000) (bmo : mo ≤ 1000000) : CE l G yX3_addWays cX3_addWays 3 none 1 0 0 [.ref (G.1 + J), .int (nI s), .int (nI mo)] h none (fun h1 => h1[J]? = some (oB 3 (lJ G J (.ref (G.1 + u)) (.ref (G.1 + v)) (nI ro) (nI co))) ∧ h1[J + 1]? = some (aI 100 lk) ∧ h1[J + 2]? = some (aI 11 (nA rc)) ∧ h1[J + 3]? = some (aI 11264 bs) ∧ h1[u]? = some (aI 1024 wy) ∧ h1[v]? = some (aI 1024 (upd nw s (nI (min 1000000 (ga + mo))))) ∧ rng J (J + 5) h h1) := by
  refine cm_ofQ rfl (Nat.le_of_ble_eq_true rfl) [(0, .ref (G.1 + J)), (1, .int (nI s)), (2, .int (nI mo))] rfl (fun QF hQF => ?_)
  refine aw_aload_n 0 dX3_addWays_0 rfl rfl ?_
  refine aw_get fX3_24 dX3_addWays_1 hJ rfl ?_
  refine aw_iload_n 1 dX3_addWays_4 rfl rfl ?_
  refine aw_ldc (1000000) kX3_99 dX3_addWays_5 ?_
  refine aw_aload_n 0 dX3_addWays_7 rfl rfl ?_
  refine aw_get fX3_24 dX3_addWays_8 hJ rfl ?_
  refine aw_iload_n 1 dX3_addWays_11 rfl rfl ?_
  refine aw_iald s (rfl) (by omega) (by decide) dX3_addWays_12 hv ?_
  refine aw_toe (nI ga) (hga) ?_
  refine aw_iload_n 2 dX3_addWays_13 rfl rfl ?_
  refine aw_iadd dX3_addWays_14 ?_
  refine aw_toe (nI (ga + mo)) (nv_add (rfl) (rfl)) ?_
  refine aw_mmin lX3_100 dX3_addWays_15 (Nat.le_of_ble_eq_true rfl) (by decide) (by decide) ?_
  refine aw_toe (nI (min 1000000 (ga + mo))) (nv_min rfl rfl (by omega) (by omega)) ?_
  refine aw_iast s (rfl) (by omega) (by decide) dX3_addWays_18 hv ?_
  subst hQF
  exact aw_vret rfl dX3_addWays_19 (by decide) (by decide) ⟨rfl, (gn (by omega) (hJ)), (gn (by omega) (hJ_1)), (gn (by omega) (hJ_2)), (gn (by omega) (hJ_3)), (gn (by omega) (hu)), (gs hv), rng_set (rng_rf J (J + 5) h) (by omega) (by omega)⟩
set_option maxHeartbeats 4000000 in
theorem aX3_passOn {l : Launch} {G : xG} {h : List va_E} {J u v ro co : Nat} {rc : Nat → Nat} {lk bs wy nw : Nat → Int32} {i s x : Nat} {g : Nat → Nat} {lx : Nat → Nat → Nat} (hJ : h[J]? = some (oB 3 (lJ G J (.ref (G.1 + u)) (.ref (G.1 + v)) (nI ro) (nI co)))) (hJ_1 : h[J + 1]? = some (aI 100 lk)) (hJ_2 : h[J + 2]? = some (aI 11 (nA rc))) (hJ_3 : h[J + 3]? = some (aI 11264 bs)) (hu : h[u]? = some (aI 1024 wy)) (hv : h[v]? = some (aI 1024 nw)) (qu : J + 4 ≤ u ∧ u ≤ J + 5) (qv : J + 4 ≤ v ∧ v ≤ J + 5) (quv : u ≠ v) (hro : ro ≤ 10) (hco : co ≤ 10) (hrc : ∀ j, j < 11 → rc j < 1024) (hL : jL lx ro co lk) (hR : jR lx ro co rc) (hlx3 : ∀ i k, lx i k ≤ 300) (hB : jB lx ro co rc 0 bs) (bi : i < ro) (bs_ : s < 1024) (hss : s &&& rc i = s) (hpp : popN s ≤ i) (hfx : wy s = nI (min 1000000 x)) (hgg : wX nw g) : CE l G yX3_passOn cX3_passOn 6 (some .int) 2 0 0 [.ref (G.1 + J), .int (nI i), .int (nI s)] h (some (.int (nI (jHH lx (jS lx co (ro - i - 1) (i + 1)) i s (jS lx co (ro - i) i s) co)))) (fun h1 => ∃ nw1 : Nat → Int32, h1[J]? = some (oB 3 (lJ G J (.ref (G.1 + u)) (.ref (G.1 + v)) (nI ro) (nI co))) ∧ h1[J + 1]? = some (aI 100 lk) ∧ h1[J + 2]? = some (aI 11 (nA rc)) ∧ h1[J + 3]? = some (aI 11264 bs) ∧ h1[u]? = some (aI 1024 wy) ∧ h1[v]? = some (aI 1024 nw1) ∧ rng J (J + 5) h h1 ∧ wX nw1 (gP lx (jS lx co (ro - i - 1) (i + 1)) i s (jS lx co (ro - i) i s) x g co)) := by
  refine cm_ofQ rfl (Nat.le_of_ble_eq_true rfl) [(0, .ref (G.1 + J)), (1, .int (nI i)), (2, .int (nI s))] rfl (fun QF hQF => ?_)
  refine aw_aload_n 0 dX3_passOn_0 rfl rfl ?_
  refine aw_get fX3_18 dX3_passOn_1 hJ rfl ?_
  refine aw_iload_n 1 dX3_passOn_4 rfl rfl ?_
  refine aw_sipush (1024) dX3_passOn_5 (by decide) ?_
  refine aw_imul dX3_passOn_8 ?_
  refine aw_toe (nI (i * 1024)) (nv_mul (rfl) (rfl)) ?_
  refine aw_iload_n 2 dX3_passOn_9 rfl rfl ?_
  refine aw_iadd dX3_passOn_10 ?_
  refine aw_toe (nI ((i * 1024) + s)) (nv_add (rfl) (rfl)) ?_
  refine aw_iald ((i * 1024) + s) (rfl) (by omega) (by decide) dX3_passOn_11 hJ_3 ?_
  refine aw_istore_n [(3, .int (bs ((i * 1024) + s))), (0, .ref (G.1 + J)), (1, .int (nI i)), (2, .int (nI s))] dX3_passOn_12 rfl (by decide) rfl ?_
  refine aw_iconst (0) dX3_passOn_13 (by decide) ?_
  refine aw_istore [(4, .int 0), (3, .int (bs ((i * 1024) + s))), (0, .ref (G.1 + J)), (1, .int (nI i)), (2, .int (nI s))] dX3_passOn_14 (by decide) rfl ?_
  refine aw_iconst (0) dX3_passOn_16 (by decide) ?_
  refine aw_istore [(5, .int 0), (4, .int 0), (3, .int (bs ((i * 1024) + s))), (0, .ref (G.1 + J)), (1, .int (nI i)), (2, .int (nI s))] dX3_passOn_17 (by decide) rfl ?_
  refine aw_lv [(5, .int 0), (4, .int 0), (3, .int (bs ((i * 1024) + s))), (2, .int (nI s)), (1, .int (nI i)), (0, .ref (G.1 + J))] [0, 1, 2, 5, 4, 3] rfl ?_
  suffices L124 : ∀ (mm : Nat) (k : Nat) (ch : Nat) (nw2 : Nat → Int32) (h116 : List va_E), co - k < mm → (k ≤ co) → (ch = jH lx (jS lx co (ro - i - 1) (i + 1)) i s (jS lx co (ro - i) i s) k) → (wX nw2 (gA lx (jS lx co (ro - i - 1) (i + 1)) i s (jS lx co (ro - i) i s) x g k)) → h116[J]? = some (oB 3 (lJ G J (.ref (G.1 + u)) (.ref (G.1 + v)) (nI ro) (nI co))) → h116[J + 1]? = some (aI 100 lk) → h116[J + 2]? = some (aI 11 (nA rc)) → h116[J + 3]? = some (aI 11264 bs) → h116[u]? = some (aI 1024 wy) → h116[v]? = some (aI 1024 nw2) → rng J (J + 5) h h116 → AW l G yX3_passOn cX3_passOn 6 (some .int) (xR 2 0 0) (fun _ _ => True) QF 0 0 19 [(5, .int (nI k)), (4, .int (nI ch)), (3, .int (bs ((i * 1024) + s))), (2, .int (nI s)), (1, .int (nI i)), (0, .ref (G.1 + J))] [] h116 from L124 (co - 0 + 1) 0 0 nw _ (Nat.lt_succ_self _) (Nat.zero_le _) (rfl) (hgg) hJ hJ_1 hJ_2 hJ_3 hu hv (rng_rf J (J + 5) h)
  intro mm
  induction mm with
  | zero =>
    intro k ch nw2 h116 hmm hk hc hw f117 f118 f119 f120 f121 f122 k123
    exact absurd hmm (Nat.not_lt_zero _)
  | succ mm ih124 =>
    intro k ch nw2 h116 hmm hk hc hw f117 f118 f119 f120 f121 f122 k123
    refine aw_iload 0 dX3_passOn_19 rfl ?_
    refine aw_aload_n 5 dX3_passOn_21 rfl rfl ?_
    refine aw_get fX3_31 dX3_passOn_22 f117 rfl ?_
    refine aw_icmp_ge 71 dX3_passOn_25 (by decide) (fun c25 => ?_) (fun c25 => ?_)
    · have d25 := (nv_le (a := co) (b := k) (rfl) (rfl) (by omega) (by omega)).mp c25
      refine aw_aload_n 5 dX3_passOn_71 rfl rfl ?_
      refine aw_get fX3_18 dX3_passOn_72 f117 rfl ?_
      refine aw_iload_n 4 dX3_passOn_75 rfl rfl ?_
      refine aw_iconst (1) dX3_passOn_76 (by decide) ?_
      refine aw_iadd dX3_passOn_77 ?_
      refine aw_toe (nI (i + 1)) (nv_add (rfl) (rfl)) ?_
      refine aw_sipush (1024) dX3_passOn_78 (by decide) ?_
      refine aw_imul dX3_passOn_81 ?_
      refine aw_toe (nI ((i + 1) * 1024)) (nv_mul (rfl) (rfl)) ?_
      refine aw_iload_n 3 dX3_passOn_82 rfl rfl ?_
      refine aw_iadd dX3_passOn_83 ?_
      refine aw_toe (nI (((i + 1) * 1024) + s)) (nv_add (rfl) (rfl)) ?_
      refine aw_iald (((i + 1) * 1024) + s) (rfl) (by omega) (by decide) dX3_passOn_84 f120 ?_
      refine aw_iload_n 2 dX3_passOn_85 rfl rfl ?_
      refine aw_icmp_ne 108 dX3_passOn_86 (by decide) (fun c86 => ?_) (fun c86 => ?_)
      · refine aw_iload 1 dX3_passOn_108 rfl ?_
        subst hQF
        exact aw_iret rfl dX3_passOn_110 (by decide) (by decide) ⟨by unfold jHH; rw [if_neg (mt (sk_e hlx3 hR hB bi (by omega) hss hpp).mpr c86), hc, show k = co by omega], _, f117, f118, f119, f120, f121, f122, k123, by rw [show k = co by omega] at hw; exact wX_d hw (mt (sk_e hlx3 hR hB bi (by omega) hss hpp).mpr c86)⟩
      · refine aw_aload_n 5 dX3_passOn_89 rfl rfl ?_
        refine aw_iload_n 3 dX3_passOn_90 rfl rfl ?_
        refine aw_aload_n 5 dX3_passOn_91 rfl rfl ?_
        refine aw_get fX3_21 dX3_passOn_92 f117 rfl ?_
        refine aw_iload_n 3 dX3_passOn_95 rfl rfl ?_
        refine aw_iald s (rfl) (by omega) (by decide) dX3_passOn_96 f121 ?_
        refine aw_toe (nI (min 1000000 x)) (hfx) ?_
        refine aw_eW [.int (nI s), .int (nI (min 1000000 x))] [] lX3_95 vX3_addWays mX3_addWays dX3_passOn_97 (aX3_addWays (J := J) (u := u) (v := v) (ro := ro) (co := co) (rc := rc) (lk := lk) (bs := bs) (wy := wy) (nw := nw2) (s := s) (ga := min 1000000 ((gA lx (jS lx co (ro - i - 1) (i + 1)) i s (jS lx co (ro - i) i s) x g k) s)) (mo := min 1000000 x) f117 f118 f119 f120 f121 f122 (by omega) (by omega) (by omega) (by first | assumption | omega) (hw s bs_) (by omega) (by omega)) f117 rfl rfl rfl (Nat.le_of_ble_eq_true rfl) (by decide) (by decide) rfl (fun h126 q125 => ?_)
        obtain ⟨f127, f128, f129, f130, f131, f132, k133⟩ := q125
        refine aw_iload 1 dX3_passOn_100 rfl ?_
        refine aw_sipush (1024) dX3_passOn_102 (by decide) ?_
        refine aw_ior dX3_passOn_105 ?_
        refine aw_toe (nI (ch ||| 1024)) (nv_or (rfl) (rfl)) ?_
        refine aw_istore [(4, .int (nI (ch ||| 1024))), (5, .int (nI k)), (3, .int (bs ((i * 1024) + s))), (2, .int (nI s)), (1, .int (nI i)), (0, .ref (G.1 + J))] dX3_passOn_106 (by decide) rfl ?_
        refine aw_iload 0 dX3_passOn_108 rfl ?_
        subst hQF
        exact aw_iret rfl dX3_passOn_110 (by decide) (by decide) ⟨by unfold jHH; rw [if_pos ((sk_e hlx3 hR hB bi (by omega) hss hpp).mp c86), hc, show k = co by omega], _, f127, f128, f129, f130, f131, f132, rng_tr (k123) (rng_w k133 (by omega) (by omega)), wX_e hw (by omega) ((sk_e hlx3 hR hB bi (by omega) hss hpp).mp c86)⟩
    · have d25 := mt (nv_le (a := co) (b := k) (rfl) (rfl) (by omega) (by omega)).mpr c25
      refine aw_aload_n 5 dX3_passOn_28 rfl rfl ?_
      refine aw_iload_n 4 dX3_passOn_29 rfl rfl ?_
      refine aw_iload_n 3 dX3_passOn_30 rfl rfl ?_
      refine aw_iload 0 dX3_passOn_31 rfl ?_
      refine aw_dV [.int (nI i), .int (nI s), .int (nI k)] [] lX3_71 vX3_valueOf mX3_valueOf dX3_passOn_33 (aX3_valueOf (J := J) (u := u) (v := v) (ro := ro) (co := co) (rc := rc) (lk := lk) (bs := bs) (wy := wy) (nw := nw2) (i := i) (s := s) (k := k) f117 f118 f119 f120 f121 f122 (by omega) (by omega) (by omega) (by omega) (by omega) (by omega)) f117 rfl rfl rfl (Nat.le_of_ble_eq_true rfl) (by decide) (by decide) rfl ?_
      refine aw_iload_n 2 dX3_passOn_36 rfl rfl ?_
      refine aw_icmp_ne 65 dX3_passOn_37 (by decide) (fun c37 => ?_) (fun c37 => ?_)
      · refine aw_iinc (j := 0) (nI (k + 1)) [(5, .int (nI (k + 1))), (4, .int (nI ch)), (3, .int (bs ((i * 1024) + s))), (2, .int (nI s)), (1, .int (nI i)), (0, .ref (G.1 + J))] dX3_passOn_65 rfl (nv_inc (rfl)) (by decide) rfl ?_
        refine aw_goto 19 dX3_passOn_68 (by decide) ?_
        refine aw_lv [(5, .int (nI (k + 1))), (4, .int (nI ch)), (3, .int (bs ((i * 1024) + s))), (2, .int (nI s)), (1, .int (nI i)), (0, .ref (G.1 + J))] [0, 1, 2, 3, 4, 5] rfl ?_
        exact ih124 (k + 1) ch nw2 _ (by omega) (by omega) (by rw [jH_n (mt (ft_e hL hlx3 hR hB (by omega) (by omega) (by omega) bs_ hss hpp (by omega)).mpr c37), hc]) (wX_k hw (mt (ft_e hL hlx3 hR hB (by omega) (by omega) (by omega) bs_ hss hpp (by omega)).mpr c37)) f117 f118 f119 f120 f121 f122 (k123)
      · have bq := or_k (a := s) (b := k) bs_ (by omega)
        refine aw_aload_n 5 dX3_passOn_40 rfl rfl ?_
        refine aw_iload_n 3 dX3_passOn_41 rfl rfl ?_
        refine aw_iconst (1) dX3_passOn_42 (by decide) ?_
        refine aw_iload 0 dX3_passOn_43 rfl ?_
        refine aw_ishl dX3_passOn_45 ?_
        refine aw_toe (nI (2 ^ k)) (nv_shl1 (rfl) (by omega)) ?_
        refine aw_ior dX3_passOn_46 ?_
        refine aw_toe (nI (s ||| (2 ^ k))) (nv_or (rfl) (rfl)) ?_
        refine aw_aload_n 5 dX3_passOn_47 rfl rfl ?_
        refine aw_get fX3_21 dX3_passOn_48 f117 rfl ?_
        refine aw_iload_n 3 dX3_passOn_51 rfl rfl ?_
        refine aw_iald s (rfl) (by omega) (by decide) dX3_passOn_52 f121 ?_
        refine aw_toe (nI (min 1000000 x)) (hfx) ?_
        refine aw_eW [.int (nI (s ||| (2 ^ k))), .int (nI (min 1000000 x))] [] lX3_95 vX3_addWays mX3_addWays dX3_passOn_53 (aX3_addWays (J := J) (u := u) (v := v) (ro := ro) (co := co) (rc := rc) (lk := lk) (bs := bs) (wy := wy) (nw := nw2) (s := s ||| (2 ^ k)) (ga := min 1000000 ((gA lx (jS lx co (ro - i - 1) (i + 1)) i s (jS lx co (ro - i) i s) x g k) (s ||| 2 ^ k))) (mo := min 1000000 x) f117 f118 f119 f120 f121 f122 (by omega) (by omega) (by omega) (by first | assumption | omega) (hw _ bq) (by omega) (by omega)) f117 rfl rfl rfl (Nat.le_of_ble_eq_true rfl) (by decide) (by decide) rfl (fun h135 q134 => ?_)
        obtain ⟨f136, f137, f138, f139, f140, f141, k142⟩ := q134
        refine aw_iload 1 dX3_passOn_56 rfl ?_
        refine aw_iconst (1) dX3_passOn_58 (by decide) ?_
        refine aw_iload 0 dX3_passOn_59 rfl ?_
        refine aw_ishl dX3_passOn_61 ?_
        refine aw_toe (nI (2 ^ k)) (nv_shl1 (rfl) (by omega)) ?_
        refine aw_ior dX3_passOn_62 ?_
        refine aw_toe (nI (ch ||| (2 ^ k))) (nv_or (rfl) (rfl)) ?_
        refine aw_istore [(4, .int (nI (ch ||| (2 ^ k)))), (5, .int (nI k)), (3, .int (bs ((i * 1024) + s))), (2, .int (nI s)), (1, .int (nI i)), (0, .ref (G.1 + J))] dX3_passOn_63 (by decide) rfl ?_
        refine aw_iinc (j := 1) (nI (k + 1)) [(5, .int (nI (k + 1))), (4, .int (nI (ch ||| (2 ^ k)))), (3, .int (bs ((i * 1024) + s))), (2, .int (nI s)), (1, .int (nI i)), (0, .ref (G.1 + J))] dX3_passOn_65 rfl (nv_inc (rfl)) (by decide) rfl ?_
        refine aw_goto 19 dX3_passOn_68 (by decide) ?_
        refine aw_lv [(5, .int (nI (k + 1))), (4, .int (nI (ch ||| (2 ^ k)))), (3, .int (bs ((i * 1024) + s))), (2, .int (nI s)), (1, .int (nI i)), (0, .ref (G.1 + J))] [0, 1, 2, 3, 4, 5] rfl ?_
        exact ih124 (k + 1) (ch ||| (2 ^ k)) (upd nw2 (s ||| (2 ^ k)) (nI (min 1000000 ((min 1000000 ((gA lx (jS lx co (ro - i - 1) (i + 1)) i s (jS lx co (ro - i) i s) x g k) (s ||| 2 ^ k))) + (min 1000000 x))))) _ (by omega) (by omega) (by rw [jH_y ((ft_e hL hlx3 hR hB (by omega) (by omega) (by omega) bs_ hss hpp (by omega)).mp c37), hc]) (wX_y hw ((ft_e hL hlx3 hR hB (by omega) (by omega) (by omega) bs_ hss hpp (by omega)).mp c37)) f136 f137 f138 f139 f140 f141 (rng_tr (k123) (rng_w k142 (by omega) (by omega)))
set_option maxHeartbeats 4000000 in
theorem aX3_sumWays {l : Launch} {G : xG} {h : List va_E} {J u v ro co : Nat} {rc : Nat → Nat} {lk bs wy nw : Nat → Int32} {f : Nat → Nat} {lx : Nat → Nat → Nat} (hJ : h[J]? = some (oB 3 (lJ G J (.ref (G.1 + u)) (.ref (G.1 + v)) (nI ro) (nI co)))) (hJ_1 : h[J + 1]? = some (aI 100 lk)) (hJ_2 : h[J + 2]? = some (aI 11 (nA rc))) (hJ_3 : h[J + 3]? = some (aI 11264 bs)) (hu : h[u]? = some (aI 1024 wy)) (hv : h[v]? = some (aI 1024 nw)) (qu : J + 4 ≤ u ∧ u ≤ J + 5) (qv : J + 4 ≤ v ∧ v ≤ J + 5) (quv : u ≠ v) (hro : ro ≤ 10) (hco : co ≤ 10) (hrc : ∀ j, j < 11 → rc j < 1024) (hR : jR lx ro co rc) (hf : yF lx co ro ro f) (hwf : wX wy f) : CE l G yX3_sumWays cX3_sumWays 4 (some .int) 1 0 0 [.ref (G.1 + J), .int (nI (rc ro))] h (some (.int (nI (min 1000000 (jC lx co ro 0 0))))) (fun h1 => ∃ wy1 : Nat → Int32, h1[J]? = some (oB 3 (lJ G J (.ref (G.1 + u)) (.ref (G.1 + v)) (nI ro) (nI co))) ∧ h1[J + 1]? = some (aI 100 lk) ∧ h1[J + 2]? = some (aI 11 (nA rc)) ∧ h1[J + 3]? = some (aI 11264 bs) ∧ h1[u]? = some (aI 1024 wy1) ∧ h1[v]? = some (aI 1024 nw) ∧ rng J (J + 5) h h1 ∧ (∀ t, t < 1024 → wy1 t = 0)) := by
  refine cm_ofQ rfl (Nat.le_of_ble_eq_true rfl) [(0, .ref (G.1 + J)), (1, .int (nI (rc ro)))] rfl (fun QF hQF => ?_)
  have bw := hrc ro (by omega)
  refine aw_iconst (0) dX3_sumWays_0 (by decide) ?_
  refine aw_istore_n [(2, .int 0), (0, .ref (G.1 + J)), (1, .int (nI (rc ro)))] dX3_sumWays_1 rfl (by decide) rfl ?_
  refine aw_iload_n 2 dX3_sumWays_2 rfl rfl ?_
  refine aw_istore_n [(3, .int (nI (rc ro))), (2, .int 0), (0, .ref (G.1 + J)), (1, .int (nI (rc ro)))] dX3_sumWays_3 rfl (by decide) rfl ?_
  refine aw_lv [(3, .int (nI (rc ro))), (2, .int 0), (1, .int (nI (rc ro))), (0, .ref (G.1 + J))] [0, 1, 3, 2] rfl ?_
  suffices L151 : ∀ (mm : Nat) (t : Nat) (tv : Int32) (tt : Nat) (sv : Nat) (f1 : Nat → Nat) (wy1 : Nat → Int32) (h143 : List va_E), t < mm → ((t = 0 ∧ tv = -1) ∨ (∃ s, s < 1024 ∧ tv = nI s ∧ t = s + 1 ∧ s &&& rc ro = s)) → (zI lx co ro t f1 tt) → (sv = min 1000000 tt) → (wX wy1 f1) → h143[J]? = some (oB 3 (lJ G J (.ref (G.1 + u)) (.ref (G.1 + v)) (nI ro) (nI co))) → h143[J + 1]? = some (aI 100 lk) → h143[J + 2]? = some (aI 11 (nA rc)) → h143[J + 3]? = some (aI 11264 bs) → h143[u]? = some (aI 1024 wy1) → h143[v]? = some (aI 1024 nw) → rng J (J + 5) h h143 → AW l G yX3_sumWays cX3_sumWays 4 (some .int) (xR 1 0 0) (fun _ _ => True) QF 0 0 4 [(3, .int tv), (2, .int (nI sv)), (1, .int (nI (rc ro))), (0, .ref (G.1 + J))] [] h143 from L151 ((rc ro + 1) + 1) (rc ro + 1) (nI (rc ro)) 0 0 f wy _ (Nat.lt_succ_self _) (Or.inr ⟨_, bw, rfl, rfl, Nat.and_self _⟩) (zI_0 hR hco hf) (rfl) (hwf) hJ hJ_1 hJ_2 hJ_3 hu hv (rng_rf J (J + 5) h)
  intro mm
  induction mm with
  | zero =>
    intro t tv tt sv f1 wy1 h143 hmm ht hz hsv hw1 f144 f145 f146 f147 f148 f149 k150
    exact absurd hmm (Nat.not_lt_zero _)
  | succ mm ih151 =>
    intro t tv tt sv f1 wy1 h143 hmm ht hz hsv hw1 f144 f145 f146 f147 f148 f149 k150
    rcases ht with ⟨rfl, rfl⟩ | ⟨s, bs_, rfl, rfl, hss⟩
    · refine aw_iload_n 0 dX3_sumWays_4 rfl rfl ?_
      refine aw_if_lt 46 dX3_sumWays_5 (by decide) (fun c5 => ?_) (fun c5 => absurd (by decide) c5)
      refine aw_iload_n 1 dX3_sumWays_46 rfl rfl ?_
      subst hQF
      exact aw_iret rfl dX3_sumWays_47 (by decide) (by decide) ⟨by rw [hsv, (zI_z hz).2], _, f144, f145, f146, f147, f148, f149, k150, wX_z hw1 (zI_z hz).1⟩
    · refine aw_iload_n 0 dX3_sumWays_4 rfl rfl ?_
      refine aw_if_lt 46 dX3_sumWays_5 (by decide) (fun c5 => absurd c5 (by simp only [i_lt, (nI_toInt (n := s) (by omega)), (show (0 : Int32).toInt = 0 from rfl)] <;> omega)) (fun c5 => ?_)
      refine aw_ldc (1000000) kX3_99 dX3_sumWays_8 ?_
      refine aw_iload_n 1 dX3_sumWays_10 rfl rfl ?_
      refine aw_aload_n 3 dX3_sumWays_11 rfl rfl ?_
      refine aw_get fX3_21 dX3_sumWays_12 f144 rfl ?_
      refine aw_iload_n 0 dX3_sumWays_15 rfl rfl ?_
      refine aw_iald s (rfl) (by omega) (by decide) dX3_sumWays_16 f148 ?_
      refine aw_toe (nI (min 1000000 (f1 s))) (hw1 s bs_) ?_
      refine aw_iadd dX3_sumWays_17 ?_
      refine aw_toe (nI (sv + (min 1000000 (f1 s)))) (nv_add (rfl) (rfl)) ?_
      refine aw_mmin lX3_100 dX3_sumWays_18 (Nat.le_of_ble_eq_true rfl) (by decide) (by decide) ?_
      refine aw_toe (nI (min 1000000 (sv + min 1000000 (f1 s)))) (nv_min rfl rfl (by omega) (by omega)) ?_
      refine aw_istore_n [(2, .int (nI (min 1000000 (sv + min 1000000 (f1 s))))), (3, .int (nI s)), (1, .int (nI (rc ro))), (0, .ref (G.1 + J))] dX3_sumWays_21 rfl (by decide) rfl ?_
      refine aw_aload_n 3 dX3_sumWays_22 rfl rfl ?_
      refine aw_get fX3_21 dX3_sumWays_23 f144 rfl ?_
      refine aw_iload_n 1 dX3_sumWays_26 rfl rfl ?_
      refine aw_iconst (0) dX3_sumWays_27 (by decide) ?_
      refine aw_iast s (rfl) (by omega) (by decide) dX3_sumWays_28 f148 ?_
      refine aw_iload_n 1 dX3_sumWays_29 rfl rfl ?_
      refine aw_if_ne 37 dX3_sumWays_30 (by decide) (fun c30 => ?_) (fun c30 => ?_)
      · have d30 := mt (nv_eq (a := s) (b := 0) (rfl) (rfl) (by omega) (by omega)).mpr c30
        refine aw_iload_n 1 dX3_sumWays_37 rfl rfl ?_
        refine aw_iconst (1) dX3_sumWays_38 (by decide) ?_
        refine aw_isub dX3_sumWays_39 ?_
        refine aw_toe (nI (s - 1)) (nv_sub (rfl) (rfl) (by omega)) ?_
        refine aw_iload_n 2 dX3_sumWays_40 rfl rfl ?_
        refine aw_iand dX3_sumWays_41 ?_
        refine aw_toe (nI ((s - 1) &&& (rc ro))) (nv_and (rfl) (rfl)) ?_
        refine aw_istore_n [(3, .int (nI ((s - 1) &&& (rc ro)))), (2, .int (nI (min 1000000 (sv + min 1000000 (f1 s))))), (1, .int (nI (rc ro))), (0, .ref (G.1 + J))] dX3_sumWays_42 rfl (by decide) rfl ?_
        refine aw_goto 4 dX3_sumWays_43 (by decide) ?_
        refine aw_lv [(3, .int (nI ((s - 1) &&& (rc ro)))), (2, .int (nI (min 1000000 (sv + min 1000000 (f1 s))))), (1, .int (nI (rc ro))), (0, .ref (G.1 + J))] [0, 1, 2, 3] rfl ?_
        have bq : (s - 1) &&& (rc ro) ≤ (s - 1) := Nat.and_le_left
        exact ih151 (((s - 1) &&& (rc ro)) + 1) (nI ((s - 1) &&& (rc ro))) (tt + f1 s) (min 1000000 (sv + min 1000000 (f1 s))) (un f1 s 0) (upd wy1 s 0) _ (by omega) (Or.inr ⟨_, by omega, rfl, rfl, sub_in _ _⟩) (zI_s (yI_nx hR hco (Nat.le_refl _) hss (Or.inr ⟨by omega, rfl⟩)) bs_ hz) (by rw [hsv]; exact mn_2 tt (f1 s)) (wX_u hw1 (by decide)) (gn (by omega) (f144)) (gn (by omega) (f145)) (gn (by omega) (f146)) (gn (by omega) (f147)) (gs f148) (gn (by omega) (f149)) (rng_set (k150) (by omega) (by omega))
      · have d30 := (nv_eq (a := s) (b := 0) (rfl) (rfl) (by omega) (by omega)).mp c30
        refine aw_iconst (-1) dX3_sumWays_33 (by decide) ?_
        refine aw_goto 42 dX3_sumWays_34 (by decide) ?_
        refine aw_istore_n [(3, .int (-1)), (2, .int (nI (min 1000000 (sv + min 1000000 (f1 s))))), (1, .int (nI (rc ro))), (0, .ref (G.1 + J))] dX3_sumWays_42 rfl (by decide) rfl ?_
        refine aw_goto 4 dX3_sumWays_43 (by decide) ?_
        refine aw_lv [(3, .int (-1)), (2, .int (nI (min 1000000 (sv + min 1000000 (f1 s))))), (1, .int (nI (rc ro))), (0, .ref (G.1 + J))] [0, 1, 2, 3] rfl ?_
        exact ih151 0 (-1) (tt + f1 s) (min 1000000 (sv + min 1000000 (f1 s))) (un f1 s 0) (upd wy1 s 0) _ (by omega) (Or.inl ⟨rfl, rfl⟩) (zI_s (yI_nx hR hco (Nat.le_refl _) hss (Or.inl ⟨by omega, rfl⟩)) bs_ hz) (by rw [hsv]; exact mn_2 tt (f1 s)) (wX_u hw1 (by decide)) (gn (by omega) (f144)) (gn (by omega) (f145)) (gn (by omega) (f146)) (gn (by omega) (f147)) (gs f148) (gn (by omega) (f149)) (rng_set (k150) (by omega) (by omega))
