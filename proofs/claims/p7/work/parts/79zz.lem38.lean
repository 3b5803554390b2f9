section FI
variable {lk : Nat → Nat → Nat} {T : Nat → Nat} {n m i s k : Nat} {su : Nat → Int32} {v : Int32}
theorem jM_k (c : lk i k = 0 ∨ s.testBit k = true) : jM lk T i s (k + 1) = jM lk T i s k := by simp only [jM]; rw [if_pos c]
theorem jM_s (c : ¬ (lk i k = 0 ∨ s.testBit k = true)) : jM lk T i s (k + 1) = max (jM lk T i s k) (lk i k + T (s ||| 2 ^ k)) := by simp only [jM]; rw [if_neg c]
def fR (lk : Nat → Nat → Nat) (n m x : Nat) (su : Nat → Int32) : Prop := ∀ l, x ≤ l → l ≤ n → ∀ t, t < 2 ^ m → su (l * 1024 + t) = nI (jS lk m (n - l) l t)
theorem fR_0 (h : ∀ t, t < 2 ^ m → su (n * 1024 + t) = 0) : fR lk n m n su := by
  intro l h1 h2 t ht
  have e : l = n := by omega
  subst e
  rw [h t ht, Nat.sub_self]
  rfl
theorem fi_0 (h : ∀ t, t < s → su (n * 1024 + t) = 0) : ∀ t, t < s + 1 → upd su (n * 1024 + s) 0 (n * 1024 + t) = 0 := by
  intro t ht
  by_cases e : t = s
  · subst e; simp [upd]
  · simp only [upd, if_neg (by omega : ¬ n * 1024 + t = n * 1024 + s)]; exact h t (by omega)
theorem fi_1 (hm : 2 ^ m ≤ 1024) (hs : s < 2 ^ m) (h : fR lk n m (i + 1) su) : fR lk n m (i + 1) (upd su (i * 1024 + s) v) := by
  intro l h1 h2 t ht
  simp only [upd, if_neg (by omega : ¬ l * 1024 + t = i * 1024 + s)]
  exact h l h1 h2 t ht
theorem fi_2 (h : ∀ t, t < s → su (i * 1024 + t) = nI (jS lk m (n - i) i t)) (hi : i < n) (hv : v = nI (jM lk (jS lk m (n - (i + 1)) (i + 1)) i s k)) (hk : k = m) : ∀ t, t < s + 1 → upd su (i * 1024 + s) v (i * 1024 + t) = nI (jS lk m (n - i) i t) := by
  subst hk
  intro t ht
  by_cases e : t = s
  · subst e
    simp only [upd, if_pos]
    rw [hv, show n - i = (n - (i + 1)) + 1 by omega]
    rfl
  · simp only [upd, if_neg (by omega : ¬ i * 1024 + t = i * 1024 + s)]; exact h t (by omega)
theorem fi_3 (h : fR lk n m (i + 1) su) (h2 : ∀ t, t < s → su (i * 1024 + t) = nI (jS lk m (n - i) i t)) (hs : 2 ^ m ≤ s) : fR lk n m i su := by
  intro l h3 h4 t ht
  by_cases e : l = i
  · subst e; exact h2 t (by omega)
  · exact h l (by omega) h4 t ht
def fW (lk : Nat → Nat → Nat) (n m x : Nat) (wz : Nat → Int32) : Prop := ∀ l, x ≤ l → l ≤ n → ∀ t, t < 2 ^ m → wz (l * 1024 + t) = nI (min 1000000 (jC lk m (n - l) l t))
theorem fW_0 (h : ∀ t, t < 2 ^ m → su (n * 1024 + t) = 1) : fW lk n m n su := by
  intro l h1 h2 t ht
  have e : l = n := by omega
  subst e
  rw [h t ht, Nat.sub_self]
  exact (by decide : (1 : Int32) = nI (min 1000000 1))
theorem fv_0 (h : ∀ t, t < s → su (n * 1024 + t) = v) : ∀ t, t < s + 1 → upd su (n * 1024 + s) v (n * 1024 + t) = v := by
  intro t ht
  by_cases e : t = s
  · subst e; simp [upd]
  · simp only [upd, if_neg (by omega : ¬ n * 1024 + t = n * 1024 + s)]; exact h t (by omega)
theorem fw_1 (hm : 2 ^ m ≤ 1024) (hs : s < 2 ^ m) (h : fW lk n m (i + 1) su) : fW lk n m (i + 1) (upd su (i * 1024 + s) v) := by
  intro l h1 h2 t ht
  simp only [upd, if_neg (by omega : ¬ l * 1024 + t = i * 1024 + s)]
  exact h l h1 h2 t ht
theorem fw_2 (h : ∀ t, t < s → su (i * 1024 + t) = nI (min 1000000 (jC lk m (n - i) i t))) (hi : i < n) (hv : v = nI (min 1000000 (jW lk (jS lk m (n - (i + 1)) (i + 1)) (jC lk m (n - (i + 1)) (i + 1)) i s (jM lk (jS lk m (n - (i + 1)) (i + 1)) i s k) k))) (hk : k = m) : ∀ t, t < s + 1 → upd su (i * 1024 + s) v (i * 1024 + t) = nI (min 1000000 (jC lk m (n - i) i t)) := by
  subst hk
  intro t ht
  by_cases e : t = s
  · subst e
    simp only [upd, if_pos]
    rw [hv, show n - i = (n - (i + 1)) + 1 by omega]
    rfl
  · simp only [upd, if_neg (by omega : ¬ i * 1024 + t = i * 1024 + s)]; exact h t (by omega)
theorem fw_3 (h : fW lk n m (i + 1) su) (h2 : ∀ t, t < s → su (i * 1024 + t) = nI (min 1000000 (jC lk m (n - i) i t))) (hs : 2 ^ m ≤ s) : fW lk n m i su := by
  intro l h3 h4 t ht
  by_cases e : l = i
  · subst e; exact h2 t (by omega)
  · exact h l (by omega) h4 t ht
theorem fW_00 (h : fW lk n m 0 su) : su 0 = nI (min 1000000 (jC lk m n 0 0)) := h 0 (Nat.le_refl _) (Nat.zero_le _) 0 (Nat.two_pow_pos m)
theorem fR_00 (h : fR lk n m 0 su) : su 0 = nI (jS lk m n 0 0) := h 0 (Nat.le_refl _) (Nat.zero_le _) 0 (Nat.two_pow_pos m)
theorem jT_m (hm : m ≤ 1000) : ∀ l, jTk lk m n l < 2 ^ m := by
  intro l
  induction l with
  | zero => exact Nat.two_pow_pos m
  | succ l ih =>
    rw [jT_s]
    rcases jF_q (lk := lk) (T := jS lk m (n - l - 1) (l + 1)) (i := l) (s := jTk lk m n l) (g := jS lk m (n - l) l (jTk lk m n l)) m hm with ⟨e, _⟩ | ⟨q, q1, q2, _⟩
    · have e2 : jP lk m n l = -9 := e
      rw [if_pos e2]; exact ih
    · have e2 : jP lk m n l = nI q := q2
      rw [if_neg (by rw [e2]; exact nI_9 (by omega)), e2, jn_nI (by omega)]
      exact Nat.or_lt_two_pow ih (Nat.pow_lt_pow_right (by decide) q1)
theorem or_2m (hs : s < 2 ^ m) (hk : k < m) : s ||| 2 ^ k < 2 ^ m := Nat.or_lt_two_pow hs (Nat.pow_lt_pow_right (by decide) hk)
end FI
theorem jL_z {lk : Nat → Nat → Nat} {n m i q : Nat} {L : Nat → Int32} (h : jL lk n m L) (hm : m ≤ 10) (hq : q < 10) : jL (lz lk i q) n m (upd L (i * 10 + q) 0) := by
  intro x hx y hy
  unfold lz
  by_cases e : x = i ∧ y = q
  · rw [if_pos e, e.1, e.2]; simp [upd]; rfl
  · rw [if_neg e]
    simp only [upd, if_neg (by omega : ¬ x * 10 + y = i * 10 + q)]
    exact h x hx y hy
section JQ2
variable {lk : Nat → Nat → Nat} {n m i s k : Nat} {jd : Nat → Int32}
theorem jd_n (h : jd i = jF lk (jS lk m (n - i - 1) (i + 1)) i s (jS lk m (n - i) i s) k) (h9 : jd i = -9) (c : (lk i k = 0 ∨ s.testBit k = true) ∨ lk i k + jS lk m (n - i - 1) (i + 1) (s ||| 2 ^ k) ≠ jS lk m (n - i) i s) : jd i = jF lk (jS lk m (n - i - 1) (i + 1)) i s (jS lk m (n - i) i s) (k + 1) := by
  rw [h9, jF_n (by rw [← h]; exact h9) c]
theorem jd_y (h : jd i = jF lk (jS lk m (n - i - 1) (i + 1)) i s (jS lk m (n - i) i s) k) (h9 : jd i = -9) (a : ¬ (lk i k = 0 ∨ s.testBit k = true)) (c : lk i k + jS lk m (n - i - 1) (i + 1) (s ||| 2 ^ k) = jS lk m (n - i) i s) : upd jd i (nI k) i = jF lk (jS lk m (n - i - 1) (i + 1)) i s (jS lk m (n - i) i s) (k + 1) := by
  rw [jF_y (by rw [← h]; exact h9) a c]
  simp [upd]
theorem jd_0 {g : Nat} {T : Nat → Nat} : upd jd i (-9) i = jF lk T i s g 0 := by simp [upd, jF]
theorem pd_u {v : Int32} (h : ∀ j, j < i → jd j = jP lk m n j) : ∀ j, j < i → upd jd i v j = jP lk m n j := by
  intro j hj
  simp only [upd, if_neg (by omega : ¬ j = i)]
  exact h j hj
theorem pd_s (h : ∀ j, j < i → jd j = jP lk m n j) (hv : jP lk m n i = jd i) : ∀ j, j < i + 1 → jd j = jP lk m n j := by
  intro j hj
  by_cases e : j = i
  · subst e; exact hv.symm
  · exact h j (by omega)
theorem pB_9 {f : Nat → Int32} {i : Nat} (h : pB f) (hi : i < 10) (h0 : (f i).toInt < 0) : f i = -9 := by
  rcases h i hi with e | ⟨q, hq, e⟩
  · exact e
  · rw [e, nI_toInt (by omega)] at h0; omega
end JQ2
