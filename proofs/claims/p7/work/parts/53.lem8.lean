/-- order with the places behind a moved up by one, up to n -/
def shF (od : Nat → Nat) (a n : Nat) : Nat → Nat := fun j => if a < j ∧ j ≤ n then od (j - 1) else od j
theorem shF_n (od : Nat → Nat) (n : Nat) : shF od n n = od := by funext j; simp [shF]; omega
theorem shF_s {od : Nat → Nat} {a n : Nat} (h : a < n) : un (shF od (a + 1) n) (a + 1) (od a) = shF od a n := by
  funext j
  by_cases h1 : j = a + 1
  · subst h1; rw [un_s]; simp [shF, show a + 1 ≤ n by omega]
  · rw [un_n h1]
    by_cases h2 : a + 1 < j ∧ j ≤ n
    · simp only [shF, if_pos h2, if_pos (show a < j ∧ j ≤ n by omega)]
    · simp only [shF, if_neg h2, if_neg (show ¬ (a < j ∧ j ≤ n) by omega)]
theorem shF_at {od : Nat → Nat} {a n j : Nat} (h : j ≤ a) : shF od a n j = od j := by simp [shF]; omega
/-- the numbers of the first n records by days, then by numbers -/
def srt (dy od : Nat → Nat) (n : Nat) : Prop := (∀ i, i < n → od i < n) ∧ (∀ i j, i < j → j < n → dy (od i) < dy (od j) ∨ (dy (od i) = dy (od j) ∧ od i < od j)) ∧ ∀ q, q < n → ∃ i, i < n ∧ od i = q
theorem srt_0 (dy od : Nat → Nat) : srt dy od 0 := ⟨fun i h => absurd h (by omega), fun i j _ h => absurd h (by omega), fun q h => absurd h (by omega)⟩
/-- a new record goes behind all that aren't later -/
theorem srt_add {dy od : Nat → Nat} {n a v : Nat} (h : srt dy od n) (ha : a ≤ n) (h1 : 0 < a → dy (od (a - 1)) ≤ v) (h2 : ∀ j, a ≤ j → j < n → v < dy (od j)) : srt (un dy n v) (un (shF od a n) a n) (n + 1) := by
  have hA : ∀ j, j < a → un (shF od a n) a n j = od j := fun j hj => by rw [un_n (by omega), shF_at (by omega)]
  have hB : ∀ j, a < j → j ≤ n → un (shF od a n) a n j = od (j - 1) := fun j hj hn => by rw [un_n (by omega)]; simp [shF, hj, hn]
  have hC : un (shF od a n) a n a = n := un_s
  have hle : ∀ j, j < a → dy (od j) ≤ v := by
    intro j hj
    rcases Nat.lt_or_ge j (a - 1) with q | q
    · have := h.2.1 j (a - 1) q (by omega)
      have := h1 (by omega)
      omega
    · have e : j = a - 1 := by omega
      rw [e]; exact h1 (by omega)
  have hd : ∀ q, q < n → un dy n v q = dy q := fun q hq => un_n (by omega)
  refine ⟨?_, ?_, ?_⟩
  · intro i hi
    rcases Nat.lt_trichotomy i a with q | q | q
    · rw [hA i q]; have := h.1 i (by omega); omega
    · rw [q, hC]; omega
    · rw [hB i q (by omega)]; have := h.1 (i - 1) (by omega); omega
  · intro i j hij hj
    rcases Nat.lt_trichotomy j a with q | q | q
    · rw [hA i (by omega), hA j q, hd _ (h.1 i (by omega)), hd _ (h.1 j (by omega))]
      exact h.2.1 i j hij (by omega)
    · rw [hA i (by omega), q, hC, hd _ (h.1 i (by omega)), un_s]
      have b1 := hle i (by omega)
      have b2 := h.1 i (by omega)
      omega
    · rw [hB j q (by omega), hd _ (h.1 (j - 1) (by omega))]
      rcases Nat.lt_trichotomy i a with p | p | p
      · rw [hA i p, hd _ (h.1 i (by omega))]
        have b1 := hle i p
        have b2 := h2 (j - 1) (by omega) (by omega)
        omega
      · rw [p, hC, un_s]
        have b2 := h2 (j - 1) (by omega) (by omega)
        omega
      · rw [hB i p (by omega), hd _ (h.1 (i - 1) (by omega))]
        exact h.2.1 (i - 1) (j - 1) (by omega) (by omega)
  · intro q hq
    by_cases e : q = n
    · exact ⟨a, by omega, by rw [hC, e]⟩
    · obtain ⟨i, hi, ei⟩ := h.2.2 q (by omega)
      by_cases p : i < a
      · exact ⟨i, by omega, by rw [hA i p]; exact ei⟩
      · exact ⟨i + 1, by omega, by rw [hB (i + 1) (by omega) (by omega)]; simpa using ei⟩
