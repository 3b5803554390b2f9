theorem means_b {m : Nat → Nat} {w o : Int32} (h : ∀ j, j < 20 → m j ≤ j) : ∀ j, j < 20 → (spMeans m w o).2 j ≤ j := by
  intro j hj
  unfold spMeans
  split
  · split
    · exact h j hj
    · by_cases e : j = tn w
      · rw [e]; simp only [un_s]; unfold tn; omega
      · simp only [un_n e]; exact h j hj
  · exact h j hj
theorem year_b {ye : Nat → Nat} {c y : Int32} (h : ∀ j, j < 4 → ye j < 1901) : ∀ j, j < 4 → (spYear ye c y).2 j < 1901 := by
  intro j hj
  unfold spYear
  split
  · split
    · exact h j hj
    · split
      · exact h j hj
      · exact un_lt h (by unfold tn; omega) j hj
  · exact h j hj
theorem ent_1 {fi : Nat → Nat} {c w s r u : Int32} (h : 0 ≤ (spEntryC fi c w s r u).toInt) : fi (tn c) + 1 < 11 := by
  unfold spEntryC at h
  split at h
  · split at h
    · exact absurd h (by decide)
    · split at h
      · exact absurd h (by decide)
      · omega
  · exact absurd h (by decide)
theorem set_b {sp fa : Nat} {q v : Int32} (h1 : sp ≤ 50) (h2 : fa ≤ 9) : (spSet sp fa q v).2.1 ≤ 50 ∧ (spSet sp fa q v).2.2 ≤ 9 := by
  unfold spSet
  (repeat' split) <;> first | exact ⟨h1, h2⟩ | exact ⟨by simp only [tn]; omega, h2⟩ | exact ⟨h1, by simp only [tn]; omega⟩
theorem sight_1 {n : Nat} {t p d k : Int32} (h : 0 ≤ (spSight n t p d k).toInt) : n < 60 ∧ tn t < 12 ∧ tn p < 8 ∧ tn d ≤ 80000 ∧ tn k ≤ 80000 := by
  unfold spSight at h
  split at h
  · exact absurd h (by decide)
  · split at h
    · rename_i q
      have z := dyF_neg (d := d) (k := k) q
      omega
    · split at h
      · exact absurd h (by decide)
      · rename_i a b e
        have z := dyF_0 (d := d) (k := k) (Classical.byContradiction b)
        unfold tn
        omega
theorem move_1 {n : Nat} {t p d s k : Int32} (h : 0 ≤ (spMove n t p d s k).toInt) : n < 60 ∧ tn t < 12 ∧ tn p < 8 ∧ tn d ≤ 80000 ∧ tn s < 5 ∧ tn k ≤ 80000 := by
  unfold spMove at h
  split at h
  · exact absurd h (by decide)
  · split at h
    · exact absurd h (by decide)
    · split at h
      · rename_i q
        have z := dyF_neg (d := d) (k := k) q
        omega
      · split at h
        · exact absurd h (by decide)
        · rename_i a a2 b e
          have z := dyF_0 (d := d) (k := k) (Classical.byContradiction b)
          unfold tn
          omega
theorem back_1 {n : Nat} {kn go : Nat → Nat} {q k : Int32} (h : 0 ≤ (spBack n kn go q k).toInt) : tn k ≤ 80001 := by
  unfold spBack at h
  split at h
  · exact absurd h (by decide)
  · split at h
    · exact absurd h (by decide)
    · split at h
      · exact absurd h (by decide)
      · split at h
        · exact absurd h (by decide)
        · unfold tn; omega
theorem part_b {kd : Nat → Nat} {p v : Int32} (h : ∀ j, j < 10 → kd j < 6) : ∀ j, j < 10 → (spPart kd p v).2 j < 6 := by
  intro j hj
  unfold spPart
  split
  · split
    · exact h j hj
    · split
      · exact h j hj
      · exact un_lt h (by unfold tn; omega) j hj
  · exact h j hj
theorem vis_y {n : Nat} {s x y t : Int32} (h : 0 ≤ (spVis n s x y t).toInt) : (if s.toInt < 2 then tn y else tn x) < 12 := by
  have q := vis_1 h
  split
  · exact (q.2.2.2.1 (by assumption)).1
  · exact q.2.2.1
theorem clash_b {fo : Nat → Nat} {a b : Int32} {on : Bool} (h : ∀ j, j < 6 → fo j < 64) : ∀ j, j < 6 → (spClashF fo a b on).2 j < 64 := by
  intro j hj
  unfold spClashF
  split
  · exact h j hj
  · split
    · exact h j hj
    · split
      · exact h j hj
      · split
        · exact h j hj
        · have ha : tn a < 6 := by unfold tn; omega
          have hb : tn b < 6 := by unfold tn; omega
          have h1 : ∀ j, j < 6 → un fo (tn a) (fo (tn a) ^^^ 2 ^ tn b) j < 64 := un_lt h (Nat.xor_lt_two_pow (n := 6) (h _ ha) (pow6 _ hb))
          exact un_lt h1 (Nat.xor_lt_two_pow (n := 6) (h1 _ hb) (pow6 _ ha)) j hj
theorem sy_up {fo : Nat → Nat} {a b : Nat} (hab : a ≠ b) (hs : ∀ x, x < 6 → ∀ y, y < 6 → (fo x).testBit y = (fo y).testBit x) : ∀ x, x < 6 → ∀ y, y < 6 → (un (un fo a (fo a ^^^ 2 ^ b)) b (un fo a (fo a ^^^ 2 ^ b) b ^^^ 2 ^ a) x).testBit y = (un (un fo a (fo a ^^^ 2 ^ b)) b (un fo a (fo a ^^^ 2 ^ b) b ^^^ 2 ^ a) y).testBit x := by
  have e0 : un fo a (fo a ^^^ 2 ^ b) b = fo b := un_n (Ne.symm hab)
  have g : ∀ x y, (un (un fo a (fo a ^^^ 2 ^ b)) b (fo b ^^^ 2 ^ a) x).testBit y = if (x = a ∧ y = b) ∨ (x = b ∧ y = a) then !(fo x).testBit y else (fo x).testBit y := by
    intro x y
    by_cases h1 : x = b
    · rw [h1, un_s, tb_x]
      by_cases h2 : y = a
      · rw [if_pos h2, if_pos (Or.inr ⟨rfl, h2⟩)]
      · rw [if_neg h2, if_neg (by omega)]
    · rw [un_n h1]
      by_cases h2 : x = a
      · rw [h2, un_s, tb_x]
        by_cases h3 : y = b
        · rw [if_pos h3, if_pos (Or.inl ⟨rfl, h3⟩)]
        · rw [if_neg h3, if_neg (by omega)]
      · rw [un_n h2, if_neg (by omega)]
  intro x hx y hy
  rw [e0, g x y, g y x, hs x hx y hy]
  by_cases q : (x = a ∧ y = b) ∨ (x = b ∧ y = a)
  · rw [if_pos q, if_pos (by omega)]
  · rw [if_neg q, if_neg (by omega)]
theorem clash_s {fo : Nat → Nat} {a b : Int32} {on : Bool} (hs : ∀ x, x < 6 → ∀ y, y < 6 → (fo x).testBit y = (fo y).testBit x) : ∀ x, x < 6 → ∀ y, y < 6 → ((spClashF fo a b on).2 x).testBit y = ((spClashF fo a b on).2 y).testBit x := by
  unfold spClashF
  split
  · exact hs
  · split
    · exact hs
    · split
      · exact hs
      · split
        · exact hs
        · exact sy_up (by unfold tn; omega) hs
theorem ir_up {fo : Nat → Nat} {a b : Nat} (hab : a ≠ b) (hi : ∀ x, x < 6 → (fo x).testBit x = false) : ∀ x, x < 6 → (un (un fo a (fo a ^^^ 2 ^ b)) b (un fo a (fo a ^^^ 2 ^ b) b ^^^ 2 ^ a) x).testBit x = false := by
  have e0 : un fo a (fo a ^^^ 2 ^ b) b = fo b := un_n (Ne.symm hab)
  intro x hx
  rw [e0]
  by_cases h1 : x = b
  · rw [h1, un_s, tb_x, if_neg (Ne.symm hab)]
    exact hi b (h1 ▸ hx)
  · rw [un_n h1]
    by_cases h2 : x = a
    · rw [h2, un_s, tb_x, if_neg hab]
      exact hi a (h2 ▸ hx)
    · rw [un_n h2]
      exact hi x hx
theorem clash_i {fo : Nat → Nat} {a b : Int32} {on : Bool} (hi : ∀ x, x < 6 → (fo x).testBit x = false) : ∀ x, x < 6 → ((spClashF fo a b on).2 x).testBit x = false := by
  unfold spClashF
  split
  · exact hi
  · split
    · exact hi
    · split
      · exact hi
      · split
        · exact hi
        · exact ir_up (by unfold tn; omega) hi
theorem subL {L : Nat} (h : L ≤ 3072) : (nI L - 6).toInt = (L : Int) - 6 := by
  rcases Nat.lt_or_ge L 6 with q | q
  · rcases (by omega : L = 0 ∨ L = 1 ∨ L = 2 ∨ L = 3 ∨ L = 4 ∨ L = 5) with e | e | e | e | e | e <;> subst e <;> decide
  · rw [show nI L - 6 = nI (L - 6) from nv_sub rfl rfl q, nI_toInt (by omega)]; omega
theorem vis_x {n : Nat} {so xx yy : Nat → Nat} {s x y t : Int32} (h : ∀ j, j < n → 2 ≤ so j → yy j = xx j) :
    ∀ j, j < spN (0 ≤ (spVis n s x y t).toInt) n (n + 1) → 2 ≤ spUn (0 ≤ (spVis n s x y t).toInt) so n (tn s) j → spUn (0 ≤ (spVis n s x y t).toInt) yy n (if s.toInt < 2 then tn y else tn x) j = spUn (0 ≤ (spVis n s x y t).toInt) xx n (tn x) j := by
  intro j
  by_cases q : 0 ≤ (spVis n s x y t).toInt
  · rw [spN_y q, spUn_y q, spUn_y q, spUn_y q]
    intro hj hs
    by_cases e : j = n
    · subst e
      rw [un_s] at hs
      rw [un_s, un_s, if_neg (by unfold tn at hs; omega)]
    · rw [un_n e] at hs
      rw [un_n e, un_n e]
      exact h j (by omega) hs
  · rw [spN_n q, spUn_n q, spUn_n q, spUn_n q]
    exact h j
theorem ent_z {fi : Nat → Nat} {Z : Nat → Int32} {c w s r u : Int32} (h : ∀ j, j < 40 → ∃ z, z ≤ 200 ∧ Z j = nI z) : ∀ j, j < 40 → ∃ z, z ≤ 200 ∧ spUp fi c (0 ≤ (spEntryC fi c w s r u).toInt) Z s j = nI z := by
  intro j hj
  unfold spUp
  split
  · rename_i q
    by_cases e : j = tn c * 10 + fi (tn c)
    · simp only [upd, if_pos e]
      unfold spEntryC at q
      split at q
      · split at q
        · exact absurd q (by decide)
        · split at q
          · exact absurd q (by decide)
          · obtain ⟨z, bz, ez⟩ := i_nat (x := s) (N := 201) (by omega) (by omega)
            exact ⟨z, by omega, ez⟩
      · exact absurd q (by decide)
    · simp only [upd, if_neg e]; exact h j hj
  · exact h j hj
