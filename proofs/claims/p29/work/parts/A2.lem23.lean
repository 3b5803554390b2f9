theorem spUn_b {ok : Prop} [Decidable ok] {f : Nat → Nat} {i v N : Nat} {P : Nat → Prop} (h : ∀ j, j < N → P (f j)) (hv : ok → P v) : ∀ j, j < N → P (spUn ok f i v j) := by
  intro j hj
  by_cases q : ok
  · rw [spUn_y q]
    by_cases e : j = i
    · rw [e, un_s]; exact hv q
    · rw [un_n e]; exact h j hj
  · rw [spUn_n q]; exact h j hj
theorem spN_b {ok : Prop} [Decidable ok] {n B : Nat} (h : n ≤ B) (hv : ok → n < B) : spN ok n (n + 1) ≤ B := by
  by_cases q : ok
  · rw [spN_y q]; exact hv q
  · rw [spN_n q]; exact h
theorem bar_1 {fi : Nat → Nat} {nb : Nat} {told : Prop} [Decidable told] {a i b k : Int32} (hfi : ∀ j, j < 4 → fi j < 11) (h : spBarA fi nb told a i b k = 1) : nb < 30 ∧ tn a * 10 + tn i < 40 ∧ tn b * 10 + tn k < 40 := by
  unfold spBarA at h
  split at h
  · rename_i q
    have ha := hfi (tn a) (by unfold tn; omega)
    have hb := hfi (tn b) (by unfold tn; omega)
    split at h
    · exact absurd h (by decide)
    · split at h
      · exact absurd h (by decide)
      · refine ⟨by omega, ?_, ?_⟩ <;> (unfold tn at *; omega)
  · exact absurd h (by decide)
theorem vis_1 {n : Nat} {s x y t : Int32} (h : 0 ≤ (spVis n s x y t).toInt) : n < 40 ∧ tn s < 4 ∧ tn x < 12 ∧ (s.toInt < 2 → tn y < 12 ∧ y = nI (tn y)) ∧ tn t ≤ 9 := by
  unfold spVis at h
  split at h
  · exact absurd h (by decide)
  · split at h
    · exact absurd h (by decide)
    · split at h
      · exact absurd h (by decide)
      · split at h
        · exact absurd h (by decide)
        · rename_i q1 q2 q3 q4
          refine ⟨by omega, by unfold tn; omega, by unfold tn; omega, fun q => ?_, by unfold tn; omega⟩
          obtain ⟨z, bz, ez⟩ := i_nat (x := y) (N := 12) (by omega) (by omega)
          rw [ez, tn_nI (by omega)]
          exact ⟨bz, rfl⟩
theorem vis_yM {n : Nat} {so yy : Nat → Nat} {yM : Nat → Int32} {s x y t : Int32} (hyM : ∀ j, j < n → so j < 2 → yM j = nI (yy j)) :
    ∀ j, j < spN (0 ≤ (spVis n s x y t).toInt) n (n + 1) → spUn (0 ≤ (spVis n s x y t).toInt) so n (tn s) j < 2 → spUi (0 ≤ (spVis n s x y t).toInt) yM n y j = nI (spUn (0 ≤ (spVis n s x y t).toInt) yy n (if s.toInt < 2 then tn y else tn x) j) := by
  intro j
  by_cases q : 0 ≤ (spVis n s x y t).toInt
  · rw [spN_y q, spUn_y q, spUi_y q, spUn_y q]
    intro hj hs
    by_cases e : j = n
    · subst e
      rw [un_s] at hs
      have h9 := vis_1 q
      have h8 : s.toInt < 2 := by
        by_cases q1 : s.toInt < 0
        · exfalso; unfold spVis at q; rw [if_pos (by omega)] at q; exact absurd q (by decide)
        · unfold tn at hs; omega
      rw [if_pos h8, un_s]
      simp only [upd, if_pos]
      exact (h9.2.2.2.1 h8).2
    · rw [un_n e] at hs
      rw [un_n e]
      simp only [upd, if_neg e]
      exact hyM j (by omega) hs
  · rw [spN_n q, spUn_n q, spUi_n q, spUn_n q]
    exact hyM j
theorem spUn_lt {ok : Prop} [Decidable ok] {f : Nat → Nat} {i v N B : Nat} (h : ∀ j, j < N → f j < B) (hv : ok → v < B) : ∀ j, j < N → spUn ok f i v j < B := spUn_b (P := fun z => z < B) h hv
theorem spUn_le {ok : Prop} [Decidable ok] {f : Nat → Nat} {i v N B : Nat} (h : ∀ j, j < N → f j ≤ B) (hv : ok → v ≤ B) : ∀ j, j < N → spUn ok f i v j ≤ B := spUn_b (P := fun z => z ≤ B) h hv
