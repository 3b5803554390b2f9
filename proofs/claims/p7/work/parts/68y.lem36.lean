def jn (x : Int32) : Nat := x.toInt.toNat
theorem jn_nI {a : Nat} (h : a < 2 ^ 31) : jn (nI a) = a := by unfold jn; rw [nI_toInt h]; simp
theorem nI_j {a b : Nat} (ha : a < 100000) (hb : b < 100000) : nI a = nI b ↔ a = b := nv_eq rfl rfl (by omega) (by omega)
/-- the best joinings of rows from i on, s taken; lk: likenesses, 0 where barred; T: what the rest brings -/
def jM (lk : Nat → Nat → Nat) (T : Nat → Nat) (i s : Nat) : Nat → Nat
  | 0 => T s
  | k + 1 => if lk i k = 0 ∨ s.testBit k = true then jM lk T i s k else max (jM lk T i s k) (lk i k + T (s ||| 2 ^ k))
def jS (lk : Nat → Nat → Nat) (m : Nat) : Nat → Nat → Nat → Nat
  | 0, _, _ => 0
  | r + 1, i, s => jM lk (jS lk m r (i + 1)) i s m
/-- the first choice that keeps the best -/
def jF (lk : Nat → Nat → Nat) (T : Nat → Nat) (i s g : Nat) : Nat → Int32
  | 0 => -9
  | k + 1 => if jF lk T i s g k = -9 then (if lk i k = 0 ∨ s.testBit k = true then -9 else if lk i k + T (s ||| 2 ^ k) = g then nI k else -9) else jF lk T i s g k
def jTk (lk : Nat → Nat → Nat) (m n : Nat) : Nat → Nat
  | 0 => 0
  | l + 1 => if jF lk (jS lk m (n - l - 1) (l + 1)) l (jTk lk m n l) (jS lk m (n - l) l (jTk lk m n l)) m = -9 then jTk lk m n l else jTk lk m n l ||| 2 ^ jn (jF lk (jS lk m (n - l - 1) (l + 1)) l (jTk lk m n l) (jS lk m (n - l) l (jTk lk m n l)) m)
def jP (lk : Nat → Nat → Nat) (m n l : Nat) : Int32 := jF lk (jS lk m (n - l - 1) (l + 1)) l (jTk lk m n l) (jS lk m (n - l) l (jTk lk m n l)) m
section JJ
variable {lk : Nat → Nat → Nat} {T : Nat → Nat} {m n i s g : Nat}
theorem jT_s (l : Nat) : jTk lk m n (l + 1) = if jP lk m n l = -9 then jTk lk m n l else jTk lk m n l ||| 2 ^ jn (jP lk m n l) := rfl
theorem nI_9 {a : Nat} (ha : a < 100000) : ¬ nI a = -9 := by
  intro e
  have h := congrArg Int32.toInt e
  rw [nI_toInt (by omega), show (-9 : Int32).toInt = -9 from rfl] at h
  omega
theorem jM_le {B : Nat} (hT : ∀ s, T s ≤ B) (hl : ∀ i k, lk i k ≤ 300) : ∀ k, jM lk T i s k ≤ B + 300 := by
  intro k
  induction k with
  | zero => have := hT s; simp only [jM]; omega
  | succ k ih =>
    simp only [jM]
    have a := hT (s ||| 2 ^ k)
    have b := hl i k
    split <;> omega
theorem jS_le (hl : ∀ i k, lk i k ≤ 300) : ∀ r i s, jS lk m r i s ≤ 300 * r := by
  intro r
  induction r with
  | zero => intro i s; exact Nat.le_refl _
  | succ r ih =>
    intro i s
    have := jM_le (i := i) (s := s) (ih (i + 1)) hl m
    simp only [jS]
    omega
theorem jM_c {T' : Nat → Nat} (h0 : T s = T' s) (h1 : ∀ k, ¬ (lk i k = 0 ∨ s.testBit k = true) → T (s ||| 2 ^ k) = T' (s ||| 2 ^ k)) : ∀ k, jM lk T i s k = jM lk T' i s k := by
  intro k
  induction k with
  | zero => exact h0
  | succ k ih =>
    simp only [jM]
    by_cases c : lk i k = 0 ∨ s.testBit k = true
    · rw [if_pos c, if_pos c, ih]
    · rw [if_neg c, if_neg c, ih, h1 k c]
theorem jM_0 : ∀ k, T s ≤ jM lk T i s k := by
  intro k
  induction k with
  | zero => exact Nat.le_refl _
  | succ k ih => simp only [jM]; split <;> omega
theorem jM_ge {j : Nat} (ha : ¬ (lk i j = 0 ∨ s.testBit j = true)) : ∀ k, j < k → lk i j + T (s ||| 2 ^ j) ≤ jM lk T i s k := by
  intro k
  induction k with
  | zero => intro h; exact absurd h (Nat.not_lt_zero _)
  | succ k ih =>
    intro h
    simp only [jM]
    by_cases e : j = k
    · subst e; rw [if_neg ha]; omega
    · have := ih (by omega)
      split <;> omega
theorem jM_at : ∀ k, jM lk T i s k = T s ∨ ∃ j, j < k ∧ ¬ (lk i j = 0 ∨ s.testBit j = true) ∧ lk i j + T (s ||| 2 ^ j) = jM lk T i s k := by
  intro k
  induction k with
  | zero => exact Or.inl rfl
  | succ k ih =>
    simp only [jM]
    by_cases c : lk i k = 0 ∨ s.testBit k = true
    · rw [if_pos c]
      rcases ih with h | ⟨j, h1, h2⟩
      · exact Or.inl h
      · exact Or.inr ⟨j, by omega, h2⟩
    · rw [if_neg c]
      by_cases d : jM lk T i s k ≤ lk i k + T (s ||| 2 ^ k)
      · exact Or.inr ⟨k, by omega, c, by omega⟩
      · rcases ih with h | ⟨j, h1, h2, h3⟩
        · exact Or.inl (by omega)
        · exact Or.inr ⟨j, by omega, h2, by omega⟩
theorem jF_q : ∀ k, k ≤ 1000 → (jF lk T i s g k = -9 ∧ ∀ j, j < k → ¬ (lk i j = 0 ∨ s.testBit j = true) → lk i j + T (s ||| 2 ^ j) ≠ g) ∨ ∃ q, q < k ∧ jF lk T i s g k = nI q ∧ ¬ (lk i q = 0 ∨ s.testBit q = true) ∧ lk i q + T (s ||| 2 ^ q) = g := by
  intro k
  induction k with
  | zero => intro _; exact Or.inl ⟨rfl, fun j h => absurd h (Nat.not_lt_zero _)⟩
  | succ k ih =>
    intro hk
    simp only [jF]
    rcases ih (by omega) with ⟨h, hn⟩ | ⟨q, h1, h2, h3⟩
    · rw [if_pos h]
      have nx : (¬ (lk i k = 0 ∨ s.testBit k = true) → lk i k + T (s ||| 2 ^ k) ≠ g) → ∀ j, j < k + 1 → ¬ (lk i j = 0 ∨ s.testBit j = true) → lk i j + T (s ||| 2 ^ j) ≠ g := by
        intro w j hj
        by_cases e : j = k
        · subst e; exact w
        · exact hn j (by omega)
      by_cases c : lk i k = 0 ∨ s.testBit k = true
      · rw [if_pos c]; exact Or.inl ⟨rfl, nx (fun w => absurd c w)⟩
      · rw [if_neg c]
        by_cases d : lk i k + T (s ||| 2 ^ k) = g
        · rw [if_pos d]; exact Or.inr ⟨k, by omega, rfl, c, d⟩
        · rw [if_neg d]; exact Or.inl ⟨rfl, nx (fun _ => d)⟩
    · rw [if_neg (by rw [h2]; exact nI_9 (by omega))]
      exact Or.inr ⟨q, by omega, h2, h3⟩
theorem jF_st {k : Nat} (h : ¬ jF lk T i s g k = -9) : ∀ d, jF lk T i s g (k + d) = jF lk T i s g k := by
  intro d
  induction d with
  | zero => rfl
  | succ d ih => rw [← Nat.add_assoc]; simp only [jF]; rw [if_neg (by rw [ih]; exact h), ih]
theorem jF_le {k : Nat} (h : ¬ jF lk T i s g k = -9) (hk : k ≤ m) : jF lk T i s g m = jF lk T i s g k := by
  have q := jF_st h (m - k)
  rw [show k + (m - k) = m by omega] at q
  exact q
/-- a step of the search for the first -/
theorem jF_n {k : Nat} (h : jF lk T i s g k = -9) (c : (lk i k = 0 ∨ s.testBit k = true) ∨ lk i k + T (s ||| 2 ^ k) ≠ g) : jF lk T i s g (k + 1) = -9 := by
  simp only [jF]
  rw [if_pos h]
  by_cases a : lk i k = 0 ∨ s.testBit k = true
  · rw [if_pos a]
  · rw [if_neg a, if_neg (c.resolve_left a)]
theorem jF_y {k : Nat} (h : jF lk T i s g k = -9) (a : ¬ (lk i k = 0 ∨ s.testBit k = true)) (c : lk i k + T (s ||| 2 ^ k) = g) : jF lk T i s g (k + 1) = nI k := by
  simp only [jF]
  rw [if_pos h, if_neg a, if_pos c]
end JJ
/-- subsets, downwards -/
theorem and_2 (a b : Nat) : a &&& b = 2 * (a / 2 &&& b / 2) + (a % 2 &&& b % 2) := by
  have h1 : (a &&& b) / 2 ^ 1 = a / 2 ^ 1 &&& b / 2 ^ 1 := Nat.and_div_two_pow
  have h2 : (a &&& b) % 2 ^ 1 = (a % 2 ^ 1) &&& (b % 2 ^ 1) := Nat.and_mod_two_pow
  rw [show (2 : Nat) ^ 1 = 2 from rfl] at h1 h2
  omega
theorem and_b : ∀ a, a < 2 → ∀ b, b < 2 → a &&& b = a * b := by decide
theorem sub_nx : ∀ (t w s : Nat), s &&& w = s → t &&& w = t → s < t → s ≤ (t - 1) &&& w := by
  intro t
  induction t using Nat.strongRecOn with
  | ind t ih =>
    intro w s hs ht hlt
    rw [and_2 s w] at hs
    rw [and_2 t w] at ht
    have b1 := and_b (s % 2) (by omega) (w % 2) (by omega)
    have b2 := and_b (t % 2) (by omega) (w % 2) (by omega)
    have q1 : s / 2 &&& w / 2 ≤ s / 2 := Nat.and_le_left
    have q2 : t / 2 &&& w / 2 ≤ t / 2 := Nat.and_le_left
    have m1 : s % 2 &&& w % 2 ≤ s % 2 := Nat.and_le_left
    have m2 : t % 2 &&& w % 2 ≤ t % 2 := Nat.and_le_left
    have hs1 : s / 2 &&& w / 2 = s / 2 := by omega
    have hs2 : s % 2 &&& w % 2 = s % 2 := by omega
    have ht1 : t / 2 &&& w / 2 = t / 2 := by omega
    rw [and_2 (t - 1) w]
    rcases Nat.mod_two_eq_zero_or_one t with z | z
    · have e1 : (t - 1) / 2 = t / 2 - 1 := by omega
      have e2 : (t - 1) % 2 = 1 := by omega
      have b3 := and_b 1 (by omega) (w % 2) (by omega)
      rw [e1, e2, b3]
      have hw : s % 2 ≤ 1 * (w % 2) := by
        rw [b1] at hs2
        rcases Nat.mod_two_eq_zero_or_one s with y | y
        · omega
        · rcases Nat.mod_two_eq_zero_or_one w with x | x
          · rw [y, x] at hs2; omega
          · omega
      have := ih (t / 2) (by omega) (w / 2) (s / 2) hs1 ht1 (by omega)
      omega
    · have e1 : (t - 1) / 2 = t / 2 := by omega
      have e2 : (t - 1) % 2 = 0 := by omega
      rw [e1, e2, ht1, Nat.zero_and]
      omega
theorem sub_in (t w : Nat) : ((t - 1) &&& w) &&& w = (t - 1) &&& w := by rw [Nat.and_assoc, Nat.and_self]
/-- a subset with one more -/
theorem bit_sub {s w : Nat} : s &&& w = s ↔ ∀ j, s.testBit j = true → w.testBit j = true := by
  constructor
  · intro h j hj
    rw [← h, Nat.testBit_and] at hj
    simp only [Bool.and_eq_true] at hj
    exact hj.2
  · intro h
    apply Nat.eq_of_testBit_eq
    intro j
    rw [Nat.testBit_and]
    cases q : s.testBit j with
    | false => rfl
    | true => rw [h j q]; rfl
theorem pop_or1 {s k : Nat} (hs : s < 1024) (hk : k < 10) (hb : ¬ s.testBit k = true) : popN (s ||| 2 ^ k) = popN s + 1 := by
  unfold popN
  have key : ∀ n, k < n → ((List.range n).filter (fun i => (s ||| 2 ^ k).testBit i)).length = ((List.range n).filter (fun i => s.testBit i)).length + 1 := by
    have low : ∀ n, n ≤ k → ((List.range n).filter (fun i => (s ||| 2 ^ k).testBit i)).length = ((List.range n).filter (fun i => s.testBit i)).length := by
      intro n
      induction n with
      | zero => intro _; rfl
      | succ n ih =>
        intro h
        have e : (s ||| 2 ^ k).testBit n = s.testBit n := by rw [Nat.testBit_or, Nat.testBit_two_pow]; simp; omega
        rw [List.range_succ, List.filter_append, List.filter_append, List.length_append, List.length_append, ih (by omega)]
        congr 1
        simp only [List.filter_cons, List.filter_nil, e]
    intro n
    induction n with
    | zero => intro h; exact absurd h (Nat.not_lt_zero _)
    | succ n ih =>
      intro h
      rw [List.range_succ, List.filter_append, List.filter_append, List.length_append, List.length_append]
      by_cases e : k = n
      · subst e
        rw [low k (Nat.le_refl _)]
        have a : (s ||| 2 ^ k).testBit k = true := by rw [Nat.testBit_or, Nat.testBit_two_pow_self]; simp
        have b : s.testBit k = false := by cases q : s.testBit k with
          | false => rfl
          | true => exact absurd q hb
        simp only [List.filter_cons, List.filter_nil, a, b, if_true, Bool.false_eq_true, if_false, List.length_cons, List.length_nil]
      · rw [ih (by omega)]
        have a : (s ||| 2 ^ k).testBit n = s.testBit n := by rw [Nat.testBit_or, Nat.testBit_two_pow]; simp; omega
        simp only [List.filter_cons, List.filter_nil, a]
        omega
  exact key 12 (by omega)
/-- the class's arrays: what it reads -/
def jL (lk : Nat → Nat → Nat) (n m : Nat) (L : Nat → Int32) : Prop := ∀ i, i < n → ∀ k, k < m → L (i * 10 + k) = nI (lk i k)
def jR (lk : Nat → Nat → Nat) (n m : Nat) (rc : Nat → Nat) : Prop := rc 0 = 0 ∧ (∀ i, i < n → ∀ k, k < m → lk i k ≠ 0 → (rc (i + 1)).testBit k = true) ∧ (∀ i, i < n → ∀ k, (rc i).testBit k = true → (rc (i + 1)).testBit k = true)
def jB (lk : Nat → Nat → Nat) (n m : Nat) (rc : Nat → Nat) (l0 : Nat) (bs : Nat → Int32) : Prop := ∀ l, l0 ≤ l → l ≤ n → ∀ s, s &&& rc l = s → popN s ≤ l → bs (l * 1024 + s) = nI (jS lk m (n - l) l s)
section JC
variable {lk : Nat → Nat → Nat} {T : Nat → Nat} {n m i s : Nat} {L bs : Nat → Int32} {rc : Nat → Nat}
theorem vj_e {k : Nat} (hL : jL lk n m L) (hl : ∀ i k, lk i k ≤ 300) (hi : i < n) (hk : k < m) (h1 : ¬ (lk i k = 0 ∨ s.testBit k = true) → bs ((i + 1) * 1024 + (s ||| 2 ^ k)) = nI (T (s ||| 2 ^ k))) : vjF L bs i s k = if lk i k = 0 ∨ s.testBit k = true then -1 else nI (lk i k + T (s ||| 2 ^ k)) := by
  unfold vjF
  have e := hL i hi k hk
  have b := hl i k
  have z : nI (lk i k) = 0 ↔ lk i k = 0 := nI_j (b := 0) (by omega) (by omega)
  rw [e]
  by_cases c : lk i k = 0 ∨ s.testBit k = true
  · rw [if_pos c, if_pos (by rw [z]; exact c)]
  · rw [if_neg c, if_neg (by rw [z]; exact c), h1 c, nI_add]
theorem wj_e (hL : jL lk n m L) (hl : ∀ i k, lk i k ≤ 300) (hi : i < n) (hT : ∀ s, T s ≤ 3000) (h0 : bs ((i + 1) * 1024 + s) = nI (T s)) (h1 : ∀ k, k < m → ¬ (lk i k = 0 ∨ s.testBit k = true) → bs ((i + 1) * 1024 + (s ||| 2 ^ k)) = nI (T (s ||| 2 ^ k))) : ∀ k, k ≤ m → wjF L bs i s k = nI (jM lk T i s k) := by
  intro k
  induction k with
  | zero => intro _; exact h0
  | succ k ih =>
    intro hk
    have b1 := jM_le (i := i) (s := s) hT hl k
    have b2 := hl i k
    have b3 := hT (s ||| 2 ^ k)
    simp only [wjF, jM]
    rw [ih (by omega), vj_e (T := T) hL hl hi (by omega) (h1 k (by omega))]
    by_cases c : lk i k = 0 ∨ s.testBit k = true
    · rw [if_pos c, if_pos c, if_neg]
      intro w
      rw [i_lt, nI_toInt (by omega), show (-1 : Int32).toInt = -1 from rfl] at w
      omega
    · rw [if_neg c, if_neg c]
      exact nv_max rfl rfl (by omega) (by omega)
/-- where the state and what follows it are in reach -/
theorem jB_0 (hR : jR lk n m rc) (hB : jB lk n m rc (i + 1) bs) (hi : i < n) (hs : s &&& rc i = s) (hp : popN s ≤ i) : bs ((i + 1) * 1024 + s) = nI (jS lk m (n - (i + 1)) (i + 1) s) :=
  hB (i + 1) (Nat.le_refl _) hi s (bit_sub.mpr (fun j hj => hR.2.2 i hi j (bit_sub.mp hs j hj))) (by omega)
theorem jB_1 {k : Nat} (hR : jR lk n m rc) (hB : jB lk n m rc (i + 1) bs) (hi : i < n) (hm : m ≤ 10) (h10 : s < 1024) (hs : s &&& rc i = s) (hp : popN s ≤ i) (hk : k < m) (c : ¬ (lk i k = 0 ∨ s.testBit k = true)) : bs ((i + 1) * 1024 + (s ||| 2 ^ k)) = nI (jS lk m (n - (i + 1)) (i + 1) (s ||| 2 ^ k)) := by
  apply hB (i + 1) (Nat.le_refl _) hi
  · rw [bit_sub]
    intro j hj
    rw [Nat.testBit_or, Bool.or_eq_true] at hj
    rcases hj with hj | hj
    · exact hR.2.2 i hi j (bit_sub.mp hs j hj)
    · rw [Nat.testBit_two_pow, decide_eq_true_eq] at hj
      rw [← hj]
      exact hR.2.1 i hi k hk (fun w => c (Or.inl w))
  · rw [pop_or1 h10 (by omega) (fun w => c (Or.inr w))]; omega
theorem wj_S (hL : jL lk n m L) (hl : ∀ i k, lk i k ≤ 300) (hR : jR lk n m rc) (hB : jB lk n m rc (i + 1) bs) (hi : i < n) (hn : n ≤ 10) (hm : m ≤ 10) (h10 : s < 1024) (hs : s &&& rc i = s) (hp : popN s ≤ i) : wjF L bs i s m = nI (jS lk m (n - i) i s) := by
  rw [wj_e (T := jS lk m (n - (i + 1)) (i + 1)) hL hl hi (fun s => by have := jS_le (m := m) hl (n - (i + 1)) (i + 1) s; omega) (jB_0 hR hB hi hs hp) (fun k hk c => jB_1 hR hB hi hm h10 hs hp hk c) m (Nat.le_refl _)]
  rw [show n - i = (n - (i + 1)) + 1 by omega]
  rfl
/-- a level of states -/
def jI (lk : Nat → Nat → Nat) (n m : Nat) (rc : Nat → Nat) (i t : Nat) (bs : Nat → Int32) : Prop := ∀ s, s &&& rc i = s → t ≤ s → popN s ≤ i → bs (i * 1024 + s) = nI (jS lk m (n - i) i s)
theorem jI_0 : jI lk n m rc i (rc i + 1) bs := fun s hs ht _ => by
  have : s &&& rc i ≤ rc i := Nat.and_le_right
  omega
theorem jI_z (h : jI lk n m rc i 0 bs) (hB : jB lk n m rc (i + 1) bs) : jB lk n m rc i bs := by
  intro l h1 h2 s hs hp
  by_cases e : l = i
  · subst e; exact h s hs (Nat.zero_le _) hp
  · exact hB l (by omega) h2 s hs hp
/-- behind the state s: the next one is t - 1 -/
theorem jI_n {t : Nat} (h : jI lk n m rc i (s + 1) bs) (hs : s &&& rc i = s) (hv : popN s ≤ i → bs (i * 1024 + s) = nI (jS lk m (n - i) i s)) (ht : (s = 0 ∧ t = 0) ∨ (0 < s ∧ t = ((s - 1) &&& rc i) + 1)) : jI lk n m rc i t bs := by
  intro x hx h1 hp
  rcases Nat.lt_trichotomy x s with q | q | q
  · rcases ht with ⟨z, _⟩ | ⟨z, e⟩
    · omega
    · have := sub_nx s (rc i) x hx hs q
      omega
  · subst q; exact hv hp
  · exact h x hx (by omega) hp
theorem jI_w {v : Int32} (h : jI lk n m rc i (s + 1) bs) : jI lk n m rc i (s + 1) (upd bs (i * 1024 + s) v) := by
  intro x hx h1 hp
  simp only [upd, if_neg (by omega : ¬ i * 1024 + x = i * 1024 + s)]
  exact h x hx h1 hp
theorem jB_w {v : Int32} (h10 : s < 1024) (hr : ∀ j, j < 11 → rc j < 1024) (hn : n ≤ 10) (h : jB lk n m rc (i + 1) bs) : jB lk n m rc (i + 1) (upd bs (i * 1024 + s) v) := by
  intro l h1 h2 x hx hp
  have b := hr l (by omega)
  have : x &&& rc l ≤ rc l := Nat.and_le_right
  simp only [upd, if_neg (by omega : ¬ l * 1024 + x = i * 1024 + s)]
  exact h l h1 h2 x hx hp
theorem jB_t : jB lk n m rc (n + 1) bs := fun l h1 h2 => by omega
/-- the way of the first joining stays in reach -/
theorem jT_ok (hl : ∀ i k, lk i k ≤ 300) (hR : jR lk n m rc) (hm : m ≤ 10) : ∀ l, l ≤ n → jTk lk m n l < 1024 ∧ jTk lk m n l &&& rc l = jTk lk m n l ∧ popN (jTk lk m n l) ≤ l := by
  intro l
  induction l with
  | zero => intro _; exact ⟨by simp [jTk], by simp [jTk], by simp only [jTk]; rw [pop_0]; exact Nat.le_refl _⟩
  | succ l ih =>
    intro h
    obtain ⟨h1, h2, h3⟩ := ih (by omega)
    rw [jT_s]
    have up : ∀ j, (jTk lk m n l).testBit j = true → (rc (l + 1)).testBit j = true := fun j hj => hR.2.2 l (by omega) j (bit_sub.mp h2 j hj)
    rcases jF_q (lk := lk) (T := jS lk m (n - l - 1) (l + 1)) (i := l) (s := jTk lk m n l) (g := jS lk m (n - l) l (jTk lk m n l)) m (by omega) with ⟨e, _⟩ | ⟨q, q1, q2, q3, q4⟩
    · have e2 : jP lk m n l = -9 := e
      rw [if_pos e2]
      exact ⟨h1, bit_sub.mpr up, by omega⟩
    · have e2 : jP lk m n l = nI q := q2
      rw [if_neg (by rw [e2]; exact nI_9 (by omega)), e2, jn_nI (by omega)]
      refine ⟨or_k h1 (by omega), bit_sub.mpr (fun j hj => ?_), ?_⟩
      · rw [Nat.testBit_or, Bool.or_eq_true] at hj
        rcases hj with hj | hj
        · exact up j hj
        · rw [Nat.testBit_two_pow, decide_eq_true_eq] at hj
          rw [← hj]
          exact hR.2.1 l (by omega) q q1 (fun w => q3 (Or.inl w))
      · rw [pop_or1 h1 (by omega) (fun w => q3 (Or.inr w))]; omega
end JC
section RL
variable {lk : Nat → Nat → Nat} {n m i k : Nat} {L : Nat → Int32} {rc : Nat → Nat} {o : Nat} {v : Int32}
theorem rl_1 (h : ∀ j, j < i → ∀ q, q < m → L (j * 10 + q) = nI (lk j q)) (hm : m ≤ 10) (hk : k < m) : ∀ j, j < i → ∀ q, q < m → upd L (i * 10 + k) v (j * 10 + q) = nI (lk j q) := by
  intro j hj q hq
  simp only [upd, if_neg (by omega : ¬ j * 10 + q = i * 10 + k)]
  exact h j hj q hq
theorem rl_2 (h : ∀ q, q < k → L (i * 10 + q) = nI (lk i q)) (hv : v = nI (lk i k)) : ∀ q, q < k + 1 → upd L (i * 10 + k) v (i * 10 + q) = nI (lk i q) := by
  intro q hq
  by_cases e : q = k
  · subst e; simp only [upd, if_pos]; exact hv
  · simp only [upd, if_neg (by omega : ¬ i * 10 + q = i * 10 + k)]
    exact h q (by omega)
theorem rl_3 (h : ∀ j, j < i → ∀ q, q < m → L (j * 10 + q) = nI (lk j q)) (h2 : ∀ q, q < k → L (i * 10 + q) = nI (lk i q)) (e : k = m) : ∀ j, j < i + 1 → ∀ q, q < m → L (j * 10 + q) = nI (lk j q) := by
  subst e
  intro j hj
  by_cases c : j = i
  · subst c; exact h2
  · exact h j (by omega)
theorem ro_1 (h : ∀ q, q < k → lk i q ≠ 0 → o.testBit q = true) : ∀ q, q < k + 1 → lk i q ≠ 0 → (o ||| 2 ^ k).testBit q = true := by
  intro q hq hn
  rw [Nat.testBit_or]
  by_cases e : q = k
  · subst e; rw [Nat.testBit_two_pow_self]; simp
  · rw [h q (by omega) hn]; rfl
theorem ro_0 (h : ∀ q, q < k → lk i q ≠ 0 → o.testBit q = true) (z : lk i k = 0) : ∀ q, q < k + 1 → lk i q ≠ 0 → o.testBit q = true := by
  intro q hq hn
  by_cases e : q = k
  · subst e; exact absurd z hn
  · exact h q (by omega) hn
theorem rr_0' {w : Nat} (h : rc 0 = 0) : un rc (i + 1) w 0 = 0 := by rw [un_n (by omega)]; exact h
theorem rr_2 (h : ∀ j, j < i → ∀ q, q < m → lk j q ≠ 0 → (rc (j + 1)).testBit q = true) (ho : ∀ q, q < k → lk i q ≠ 0 → o.testBit q = true) (e : k = m) : ∀ j, j < i + 1 → ∀ q, q < m → lk j q ≠ 0 → (un rc (i + 1) (rc i ||| o) (j + 1)).testBit q = true := by
  subst e
  intro j hj q hq hn
  by_cases c : j = i
  · subst c; rw [un_s, Nat.testBit_or, ho q hq hn]; simp
  · rw [un_n (by omega)]; exact h j (by omega) q hq hn
theorem rr_3 (h : ∀ j, j < i → ∀ q, (rc j).testBit q = true → (rc (j + 1)).testBit q = true) : ∀ j, j < i + 1 → ∀ q, (un rc (i + 1) (rc i ||| o) j).testBit q = true → (un rc (i + 1) (rc i ||| o) (j + 1)).testBit q = true := by
  intro j hj q
  rw [un_n (by omega : j ≠ i + 1)]
  by_cases c : j = i
  · subst c; rw [un_s, Nat.testBit_or]; intro w; rw [w]; rfl
  · rw [un_n (by omega)]; exact h j (by omega) q
theorem lk_p {x : Nat} (hx : x ≤ 300) (h : ¬ (0 : Int32) < nI x) : x = 0 := by
  rw [i_lt, nI_toInt (by omega), show (0 : Int32).toInt = 0 from rfl] at h
  omega
end RL
section FT
variable {lk : Nat → Nat → Nat} {n m i s k : Nat} {L bs : Nat → Int32} {rc : Nat → Nat}
/-- the first choice, by the class's arrays -/
theorem ft_e (hL : jL lk n m L) (hl : ∀ i k, lk i k ≤ 300) (hR : jR lk n m rc) (hB : jB lk n m rc 0 bs) (hi : i < n) (hn : n ≤ 10) (hm : m ≤ 10) (h10 : s < 1024) (hs : s &&& rc i = s) (hp : popN s ≤ i) (hk : k < m) : vjF L bs i s k = bs (i * 1024 + s) ↔ (¬ (lk i k = 0 ∨ s.testBit k = true) ∧ lk i k + jS lk m (n - i - 1) (i + 1) (s ||| 2 ^ k) = jS lk m (n - i) i s) := by
  have hB1 : jB lk n m rc (i + 1) bs := fun l h1 h2 => hB l (Nat.zero_le _) h2
  have b1 := jS_le (m := m) hl (n - (i + 1)) (i + 1) (s ||| 2 ^ k)
  have b2 := jS_le (m := m) hl (n - i) i s
  have b3 := hl i k
  rw [hB i (Nat.zero_le _) (by omega) s hs hp, vj_e (T := jS lk m (n - (i + 1)) (i + 1)) hL hl hi hk (fun c => jB_1 hR hB1 hi hm h10 hs hp hk c), show n - i - 1 = n - (i + 1) by omega]
  by_cases c : lk i k = 0 ∨ s.testBit k = true
  · rw [if_pos c]
    constructor
    · intro e
      have q := congrArg Int32.toInt e
      rw [nI_toInt (by omega), show (-1 : Int32).toInt = -1 from rfl] at q
      omega
    · intro q; exact absurd c q.1
  · rw [if_neg c, nI_j (by omega) (by omega)]
    exact ⟨fun e => ⟨c, e⟩, fun e => e.2⟩
theorem jB_00 (hB : jB lk n m rc 0 bs) : bs 0 = nI (jS lk m n 0 0) := hB 0 (Nat.le_refl _) (Nat.zero_le _) 0 (Nat.zero_and _) (by rw [pop_0]; exact Nat.le_refl _)
end FT
section JQ
variable {lk : Nat → Nat → Nat} {n m i s k : Nat} {v : Int32} {pt : Nat → Int32}
theorem jP_1 (hs : s = jTk lk m n i) (hk : k = m) (hv : v = jF lk (jS lk m (n - i - 1) (i + 1)) i s (jS lk m (n - i) i s) k) : jP lk m n i = v := by
  subst hs; subst hk; exact hv.symm
theorem jP_2 (hs : s = jTk lk m n i) (hk : k ≤ m) (h9 : ¬ v = -9) (hv : v = jF lk (jS lk m (n - i - 1) (i + 1)) i s (jS lk m (n - i) i s) k) : jP lk m n i = v := by
  subst hs
  rw [hv] at h9
  rw [hv]
  exact jF_le h9 hk
theorem jP_lt {l q : Nat} (hm : m ≤ 1000) (hq : q < 1000) (h : jP lk m n l = nI q) : q < m := by
  unfold jP at h
  rcases jF_q (lk := lk) (T := jS lk m (n - l - 1) (l + 1)) (i := l) (s := jTk lk m n l) (g := jS lk m (n - l) l (jTk lk m n l)) m hm with ⟨e, _⟩ | ⟨r, r1, r2, _⟩
  · rw [e] at h; exact absurd h.symm (nI_9 (by omega))
  · rw [r2] at h; have := (nI_j (by omega) (by omega)).mp h; omega
theorem pt_up (h : ∀ j, j < i → pt j = jP lk m n j) (hv : v = jP lk m n i) : ∀ j, j < i + 1 → upd pt i v j = jP lk m n j := by
  intro j hj
  by_cases e : j = i
  · subst e; simp only [upd, if_pos]; exact hv
  · simp only [upd, if_neg e]; exact h j (by omega)
theorem ft_n {A X Y : Prop} (h : A ↔ (¬ X ∧ Y)) (hA : ¬ A) : X ∨ ¬ Y := by
  by_cases x : X
  · exact Or.inl x
  · exact Or.inr (fun y => hA (h.mpr ⟨x, y⟩))
end JQ
