/-- a beast is a fake, both ways of looking -/
theorem fkF_1 {kd fo : Nat → Nat} {b x : Nat} : ∀ a, (fkF kd fo b a).1.testBit x = true ↔ ∃ p, p < a ∧ b.testBit p = true ∧ kd p = x := by
  intro a
  induction a with
  | zero => simp [fkF]
  | succ a ih =>
    by_cases h : b.testBit a = true
    · simp only [fkF, if_pos h, Nat.testBit_or, Bool.or_eq_true, ih, Nat.testBit_two_pow, decide_eq_true_eq]
      constructor
      · rintro (⟨p, h1, h2, h3⟩ | e)
        · exact ⟨p, by omega, h2, h3⟩
        · exact ⟨a, by omega, h, e⟩
      · rintro ⟨p, h1, h2, h3⟩
        by_cases e : p = a
        · subst e; exact Or.inr h3
        · exact Or.inl ⟨p, by omega, h2, h3⟩
    · simp only [fkF, if_neg h, ih]
      constructor
      · rintro ⟨p, h1, h2, h3⟩; exact ⟨p, by omega, h2, h3⟩
      · rintro ⟨p, h1, h2, h3⟩
        by_cases e : p = a
        · subst e; exact absurd h2 h
        · exact ⟨p, by omega, h2, h3⟩
theorem fkF_2 {kd fo : Nat → Nat} {b x : Nat} : ∀ a, (fkF kd fo b a).2.testBit x = true ↔ ∃ p, p < a ∧ b.testBit p = true ∧ (fo (kd p)).testBit x = true := by
  intro a
  induction a with
  | zero => simp [fkF]
  | succ a ih =>
    by_cases h : b.testBit a = true
    · simp only [fkF, if_pos h, Nat.testBit_or, Bool.or_eq_true, ih]
      constructor
      · rintro (⟨p, h1, h2, h3⟩ | e)
        · exact ⟨p, by omega, h2, h3⟩
        · exact ⟨a, by omega, h, e⟩
      · rintro ⟨p, h1, h2, h3⟩
        by_cases e : p = a
        · subst e; exact Or.inr h3
        · exact Or.inl ⟨p, by omega, h2, h3⟩
    · simp only [fkF, if_neg h, ih]
      constructor
      · rintro ⟨p, h1, h2, h3⟩; exact ⟨p, by omega, h2, h3⟩
      · rintro ⟨p, h1, h2, h3⟩
        by_cases e : p = a
        · subst e; exact absurd h2 h
        · exact ⟨p, by omega, h2, h3⟩
theorem fkI_i {kd fo : Nat → Nat} {b p : Nat} : ∀ q, fkI kd fo b p q = true ↔ ∃ r, r < q ∧ b.testBit p = true ∧ b.testBit r = true ∧ (fo (kd p)).testBit (kd r) = true := by
  intro q
  induction q with
  | zero => simp [fkI]
  | succ q ih =>
    simp only [fkI, Bool.or_eq_true, ih, decide_eq_true_eq]
    constructor
    · rintro (⟨r, h1, h2⟩ | h)
      · exact ⟨r, by omega, h2⟩
      · exact ⟨q, by omega, h⟩
    · rintro ⟨r, h1, h2⟩
      by_cases e : r = q
      · subst e; exact Or.inr h2
      · exact Or.inl ⟨r, by omega, h2⟩
theorem fkO_i {kd fo : Nat → Nat} {b : Nat} : ∀ a, fkO kd fo b a = true ↔ ∃ p r, p < a ∧ r < p ∧ b.testBit p = true ∧ b.testBit r = true ∧ (fo (kd p)).testBit (kd r) = true := by
  intro a
  induction a with
  | zero => simp [fkO]
  | succ a ih =>
    simp only [fkO, Bool.or_eq_true, ih, fkI_i]
    constructor
    · rintro (⟨p, r, h1, h2⟩ | ⟨r, h1, h2⟩)
      · exact ⟨p, r, by omega, h2⟩
      · exact ⟨a, r, by omega, h1, h2⟩
    · rintro ⟨p, r, h1, h2, h3⟩
      by_cases e : p = a
      · subst e; exact Or.inr ⟨r, h2, h3⟩
      · exact Or.inl ⟨p, r, by omega, h2, h3⟩
theorem and_ne {A B : Nat} : A &&& B ≠ 0 ↔ ∃ x, A.testBit x = true ∧ B.testBit x = true := by
  constructor
  · intro h
    apply Classical.byContradiction
    intro hn
    apply h
    apply Nat.eq_of_testBit_eq
    intro i
    rw [Nat.testBit_and, Nat.zero_testBit]
    cases hA : A.testBit i with
    | false => rfl
    | true =>
      cases hB : B.testBit i with
      | false => rfl
      | true => exact absurd ⟨i, hA, hB⟩ hn
  · rintro ⟨x, a, c⟩ e
    have h := congrArg (fun z => z.testBit x) e
    simp [Nat.testBit_and, a, c] at h
theorem fk_eq {kd fo : Nat → Nat} {b : Nat} (bkd : ∀ j, j < 10 → kd j < 6) (hsy : ∀ x, x < 6 → ∀ y, y < 6 → (fo x).testBit y = (fo y).testBit x) (hir : ∀ x, x < 6 → (fo x).testBit x = false) : (fkF kd fo b 10).1 &&& (fkF kd fo b 10).2 ≠ 0 ↔ fkO kd fo b 10 = true := by
  rw [and_ne, fkO_i]
  constructor
  · rintro ⟨x, h1, h2⟩
    obtain ⟨p, p1, p2, rfl⟩ := (fkF_1 10).mp h1
    obtain ⟨q, q1, q2, q3⟩ := (fkF_2 10).mp h2
    rcases Nat.lt_trichotomy p q with e | e | e
    · exact ⟨q, p, q1, e, q2, p2, q3⟩
    · subst e; rw [hir _ (bkd p p1)] at q3; exact absurd q3 (by decide)
    · exact ⟨p, q, p1, e, p2, q2, by rw [hsy _ (bkd p p1) _ (bkd q q1)]; exact q3⟩
  · rintro ⟨p, q, p1, e, p2, q2, h⟩
    exact ⟨kd q, (fkF_1 10).mpr ⟨q, by omega, q2, rfl⟩, (fkF_2 10).mpr ⟨p, p1, p2, h⟩⟩
set_option maxRecDepth 100000 in
theorem pop_pc : ∀ n, n < 1024 → pcF 20 n = popN n := by decide +kernel
theorem t1023 (i : Nat) : (1023 : Nat).testBit i = decide (i < 10) := by rw [show (1023 : Nat) = 2 ^ 10 - 1 from rfl, Nat.testBit_two_pow_sub_one]
theorem sub_1023 {s b : Nat} (hs : s < 1024) : s &&& b = s ↔ s &&& (1023 ^^^ b) = 0 := by
  constructor
  · intro h
    apply Nat.eq_of_testBit_eq
    intro i
    have q := congrArg (fun z => z.testBit i) h
    simp only [Nat.testBit_and, Nat.testBit_xor, t1023, Nat.zero_testBit] at *
    by_cases hi : i < 10
    · cases h1 : s.testBit i <;> cases h2 : b.testBit i <;> simp_all
    · have h10 : (2 : Nat) ^ 10 ≤ 2 ^ i := Nat.pow_le_pow_right (by decide) (by omega)
      rw [Nat.testBit_lt_two_pow (Nat.lt_of_lt_of_le hs h10)]; rfl
  · intro h
    apply Nat.eq_of_testBit_eq
    intro i
    have q := congrArg (fun z => z.testBit i) h
    simp only [Nat.testBit_and, Nat.testBit_xor, t1023, Nat.zero_testBit] at *
    by_cases hi : i < 10
    · cases h1 : s.testBit i <;> cases h2 : b.testBit i <;> simp_all
    · have h10 : (2 : Nat) ^ 10 ≤ 2 ^ i := Nat.pow_le_pow_right (by decide) (by omega)
      rw [Nat.testBit_lt_two_pow (Nat.lt_of_lt_of_le hs h10)]; rfl
theorem and_1023 {b : Nat} (hb : b < 1024) : b &&& (1023 ^^^ 0) = b := by
  rw [Nat.xor_zero, show (1023 : Nat) = 2 ^ 10 - 1 from rfl, Nat.and_two_pow_sub_one_eq_mod, Nat.mod_eq_of_lt hb]
theorem lm_pc {kd fo : Nat → Nat} {b : Nat} : ∀ s, pcF 20 (lmF kd fo b s) ≤ pcF 20 b := by
  intro s
  induction s with
  | zero => exact Nat.le_refl _
  | succ s ih =>
    simp only [lmF]
    split
    · rename_i h; omega
    · exact ih
theorem lm_top {kd fo : Nat → Nat} {b : Nat} : ∀ d, b + d ≤ 1024 → lmF kd fo b (b + d) = lmF kd fo b b := by
  intro d
  induction d with
  | zero => intro _; rfl
  | succ d ih =>
    intro h
    rw [← Nat.add_assoc, lmF, if_neg, ih (by omega)]
    rintro ⟨h1, h2, _⟩
    have h3 := (sub_1023 (b := b) (by omega : b + d < 1024)).mpr h1
    have h4 : (b + d) &&& b ≤ b := Nat.and_le_right
    have h5 : b + d = b := by omega
    have h6 := lm_pc (kd := kd) (fo := fo) (b := b) (b + d)
    rw [h5] at h2 h6
    omega
theorem lw_lm {kd fo : Nat → Nat} {b : Nat} (hb : b < 1024) (bkd : ∀ j, j < 10 → kd j < 6) (hsy : ∀ x, x < 6 → ∀ y, y < 6 → (fo x).testBit y = (fo y).testBit x) (hir : ∀ x, x < 6 → (fo x).testBit x = false) : ∀ s, s ≤ 1024 → lwF kd fo b s = lmF kd fo b s := by
  intro s
  induction s with
  | zero => intro _; rw [lwF, lmF]
  | succ s ih =>
    intro h
    have hq := ih (by omega)
    have h1 := lmF_lt (kd := kd) (fo := fo) hb s (by omega)
    have c : (s &&& b = s ∧ popN s < popN (lwF kd fo b s) ∧ (fkF kd fo (b &&& (1023 ^^^ s)) 10).1 &&& (fkF kd fo (b &&& (1023 ^^^ s)) 10).2 = 0) ↔ (s &&& (1023 ^^^ b) = 0 ∧ pcF 20 s < pcF 20 (lmF kd fo b s) ∧ ¬ fkO kd fo (b &&& (1023 ^^^ s)) 10 = true) := by
      rw [hq, sub_1023 (by omega), pop_pc s (by omega), pop_pc _ h1, ← fk_eq bkd hsy hir]
      simp only [ne_eq, Decidable.not_not]
    rw [lwF, lmF]
    by_cases hc : (s &&& (1023 ^^^ b) = 0 ∧ pcF 20 s < pcF 20 (lmF kd fo b s) ∧ ¬ fkO kd fo (b &&& (1023 ^^^ s)) 10 = true)
    · rw [if_pos hc, if_pos (c.mpr hc)]
    · rw [if_neg hc, if_neg (fun q => hc (c.mp q)), hq]
theorem lw_0 {kd fo : Nat → Nat} {b : Nat} (hb : b < 1024) (h0 : (fkF kd fo b 10).1 &&& (fkF kd fo b 10).2 = 0) : ∀ s, lwF kd fo b (s + 1) = 0 := by
  intro s
  induction s with
  | zero =>
    rw [lwF]
    by_cases e : b = 0
    · subst e; split <;> simp [lwF]
    · rw [if_pos]
      refine ⟨Nat.zero_and b, ?_, ?_⟩
      · rw [lwF, pop_0]; exact pop_pos (by omega) e
      · rw [and_1023 hb]; exact h0
  | succ s ih =>
    rw [lwF, if_neg, ih]
    rintro ⟨_, h2, _⟩
    rw [ih, pop_0] at h2
    exact absurd h2 (Nat.not_lt_zero _)
theorem least_eq {kd fo : Nat → Nat} {b : Nat} (hb : b < 1024) (bkd : ∀ j, j < 10 → kd j < 6) (hsy : ∀ x, x < 6 → ∀ y, y < 6 → (fo x).testBit y = (fo y).testBit x) (hir : ∀ x, x < 6 → (fo x).testBit x = false) : nI (lwF kd fo b b) = (if fkO kd fo b 10 = true then nI (lmF kd fo b 1024) else 0) := by
  have c := fk_eq (b := b) bkd hsy hir
  by_cases h : fkO kd fo b 10 = true
  · rw [if_pos h, lw_lm hb bkd hsy hir b (by omega)]
    have q := lm_top (kd := kd) (fo := fo) (b := b) (1024 - b) (by omega)
    rw [show b + (1024 - b) = 1024 by omega] at q
    rw [q]
  · rw [if_neg h]
    have h0 : (fkF kd fo b 10).1 &&& (fkF kd fo b 10).2 = 0 := Classical.byContradiction (fun q => h (c.mp q))
    cases b with
    | zero => rw [lwF]; rfl
    | succ b => rw [lw_0 hb h0 b]; rfl
theorem fake_e {kd fo : Nat → Nat} {b : Nat} (bkd : ∀ j, j < 10 → kd j < 6) (hsy : ∀ x, x < 6 → ∀ y, y < 6 → (fo x).testBit y = (fo y).testBit x) (hir : ∀ x, x < 6 → (fo x).testBit x = false) : (if (fkF kd fo b 10).1 &&& (fkF kd fo b 10).2 ≠ 0 then (1 : Int32) else 0) = if fkO kd fo b 10 = true then 1 else 0 := by
  have c := fk_eq (b := b) bkd hsy hir
  by_cases h : fkO kd fo b 10 = true
  · rw [if_pos h, if_pos (c.mpr h)]
  · rw [if_neg h, if_neg (fun q => h (c.mp q))]
theorem least_E {kd fo : Nat → Nat} {b : Int32} (bkd : ∀ j, j < 10 → kd j < 6) (hsy : ∀ x, x < 6 → ∀ y, y < 6 → (fo x).testBit y = (fo y).testBit x) (hir : ∀ x, x < 6 → (fo x).testBit x = false) : (if (0 ≤ b.toInt ∧ b.toInt < 1024) then nI (lwF kd fo (tn b) (tn b)) else -1) = (if (0 ≤ b.toInt ∧ b.toInt < 1024) then (if fkO kd fo (tn b) 10 = true then nI (lmF kd fo (tn b) 1024) else 0) else -1) := by
  by_cases q : 0 ≤ b.toInt ∧ b.toInt < 1024
  · rw [if_pos q, if_pos q, least_eq (by unfold tn; omega) bkd hsy hir]
  · rw [if_neg q, if_neg q]
