/-- where a thing was: the record of the latest day, of these the one of the greatest number -/
abbrev whC (th dy kn go : Nat → Nat) (t d k p : Nat) : Prop := dy p ≤ d ∧ th p = t ∧ kn p ≤ k ∧ k < go p
def whI (th dy kn go : Nat → Nat) (t d k n q : Nat) : Prop := whC th dy kn go t d k q ∧ ∀ p, p < n → whC th dy kn go t d k p → dy p < dy q ∨ (dy p = dy q ∧ p ≤ q)
def whP (th ot dy kn go : Nat → Nat) (t d k n : Nat) (r : Int32) : Prop := (r = -9 ∧ ∀ p, p < n → ¬ whC th dy kn go t d k p) ∨ ∃ q, q < n ∧ whI th dy kn go t d k n q ∧ r = nI (ot q)
theorem whP_u {th ot dy kn go : Nat → Nat} {t d k n : Nat} {r r' : Int32} (h : whP th ot dy kn go t d k n r) (h' : whP th ot dy kn go t d k n r') : r = r' := by
  rcases h with ⟨e, h⟩ | ⟨q, b, ⟨c, h⟩, e⟩
  · rcases h' with ⟨e', h'⟩ | ⟨q', b', ⟨c', h'⟩, e'⟩
    · rw [e, e']
    · exact absurd c' (h q' b')
  · rcases h' with ⟨e', h'⟩ | ⟨q', b', ⟨c', h'⟩, e'⟩
    · exact absurd c (h' q b)
    · have a1 := h q' b' c'
      have a2 := h' q b c
      have a3 : q = q' := by omega
      subst a3
      rw [e, e']
section WH
variable {th ot dy kn go od : Nat → Nat} {t d k n i q : Nat}
theorem lpF_i : ∀ a, (lpF th ot dy kn go od t d k a = -9 ∧ ∀ i, i < a → ¬ whC th dy kn go t d k (od i)) ∨ ∃ i, i < a ∧ whC th dy kn go t d k (od i) ∧ (∀ j, j < a → whC th dy kn go t d k (od j) → j ≤ i) ∧ lpF th ot dy kn go od t d k a = nI (ot (od i)) := by
  intro a
  induction a with
  | zero => exact Or.inl ⟨rfl, fun i h => absurd h (Nat.not_lt_zero _)⟩
  | succ a ih =>
    rw [lpF_s]
    by_cases c : whC th dy kn go t d k (od a)
    · exact Or.inr ⟨a, by omega, c, fun j hj _ => by omega, if_pos c⟩
    · rw [if_neg c]
      rcases ih with ⟨e, h⟩ | ⟨i, b, ci, h, e⟩
      · refine Or.inl ⟨e, fun i hi => ?_⟩
        rcases Nat.lt_or_ge i a with q | q
        · exact h i q
        · rw [show i = a by omega]; exact c
      · refine Or.inr ⟨i, by omega, ci, fun j hj cj => ?_, e⟩
        rcases Nat.lt_or_ge j a with q | q
        · exact h j q cj
        · rw [show j = a by omega] at cj; exact absurd cj c
theorem lp_P (hod : srt dy od n) : whP th ot dy kn go t d k n (lpF th ot dy kn go od t d k n) := by
  obtain ⟨h1, h2, h3⟩ := hod
  rcases lpF_i (th := th) (ot := ot) (dy := dy) (kn := kn) (go := go) (od := od) (t := t) (d := d) (k := k) n with ⟨e, h⟩ | ⟨i, b, c, h, e⟩
  · refine Or.inl ⟨e, fun p hp cp => ?_⟩
    obtain ⟨i, bi, rfl⟩ := h3 p hp
    exact h i bi cp
  · refine Or.inr ⟨od i, h1 i b, ⟨c, fun p hp cp => ?_⟩, e⟩
    obtain ⟨j, bj, rfl⟩ := h3 p hp
    have q := h j bj cp
    rcases Nat.lt_or_ge j i with w | w
    · have := h2 j i w b; omega
    · rw [show j = i by omega]; exact Or.inr ⟨rfl, Nat.le_refl _⟩
theorem wh_n (h : ∀ p, p < i → ¬ whC th dy kn go t d k p) (c : ¬ whC th dy kn go t d k i) : ∀ p, p < i + 1 → ¬ whC th dy kn go t d k p := by
  intro p hp
  rcases Nat.lt_or_ge p i with w | w
  · exact h p w
  · rw [show p = i by omega]; exact c
theorem wh_i (h : ∀ p, p < i → ¬ whC th dy kn go t d k p) (c : whC th dy kn go t d k i) : whI th dy kn go t d k (i + 1) i := by
  refine ⟨c, fun p hp cp => ?_⟩
  rcases Nat.lt_or_ge p i with w | w
  · exact absurd cp (h p w)
  · rw [show p = i by omega]; exact Or.inr ⟨rfl, Nat.le_refl _⟩
theorem wh_s (h : whI th dy kn go t d k i q) (c : ¬ whC th dy kn go t d k i) : whI th dy kn go t d k (i + 1) q := by
  refine ⟨h.1, fun p hp cp => ?_⟩
  rcases Nat.lt_or_ge p i with w | w
  · exact h.2 p w cp
  · rw [show p = i by omega] at cp; exact absurd cp c
theorem wh_l (h : whI th dy kn go t d k i q) (c : dy i < dy q) : whI th dy kn go t d k (i + 1) q := by
  refine ⟨h.1, fun p hp cp => ?_⟩
  rcases Nat.lt_or_ge p i with w | w
  · exact h.2 p w cp
  · rw [show p = i by omega]; exact Or.inl c
theorem wh_g (h : whI th dy kn go t d k i q) (c : whC th dy kn go t d k i) (g : ¬ dy i < dy q) : whI th dy kn go t d k (i + 1) i := by
  refine ⟨c, fun p hp cp => ?_⟩
  rcases Nat.lt_or_ge p i with w | w
  · have := h.2 p w cp; omega
  · rw [show p = i by omega]; exact Or.inr ⟨rfl, Nat.le_refl _⟩
theorem wh_1 (h : ∀ p, p < i → ¬ whC th dy kn go t d k p) (e : i = n) : whP th ot dy kn go t d k n (-9) := by
  subst e; exact Or.inl ⟨rfl, h⟩
theorem wh_2 (h : whI th dy kn go t d k i q) (b : q < i) (e : i = n) : whP th ot dy kn go t d k n (nI (ot q)) := by
  subst e; exact Or.inr ⟨q, b, h, rfl⟩
end WH
def whU (th ot dy kn go : Nat → Nat) (n : Nat) (t d k r : Int32) : Prop := if 0 ≤ t.toInt ∧ t.toInt < 12 then (if dyF d k = 0 then whP th ot dy kn go (tn t) (tn d) (tn k) n r else r = dyF d k) else r = -1
theorem whU_u {th ot dy kn go : Nat → Nat} {n : Nat} {t d k r r' : Int32} (h : whU th ot dy kn go n t d k r) (h' : whU th ot dy kn go n t d k r') : r = r' := by
  unfold whU at h h'
  split at h
  · rename_i c
    rw [if_pos c] at h'
    split at h
    · rename_i c1
      rw [if_pos c1] at h'
      exact whP_u h h'
    · rename_i c1
      rw [if_neg c1] at h'
      rw [h, h']
  · rename_i c
    rw [if_neg c] at h'
    rw [h, h']
theorem lp_U {th ot dy kn go od : Nat → Nat} {n : Nat} {t d k r : Int32} (hod : srt dy od n) (e : r = (if (0 ≤ t.toInt ∧ t.toInt < 12) then (if dyF d k = 0 then lpF th ot dy kn go od (tn t) (tn d) (tn k) n else dyF d k) else -1)) : whU th ot dy kn go n t d k r := by
  unfold whU
  subst e
  split
  · split
    · exact lp_P hod
    · rfl
  · rfl
/-- how many numbers below N are of a kind -/
noncomputable def cnt (f : Nat → Prop) : Nat → Nat
  | 0 => 0
  | N + 1 => cnt f N + @ite Nat (f N) (Classical.propDecidable _) 1 0
theorem cnt_b {f g : Nat → Prop} : ∀ N, (∀ D, D < N → (f D ↔ g D)) → cnt f N = cnt g N := by
  intro N
  induction N with
  | zero => intro _; rfl
  | succ N ih =>
    intro h
    rw [cnt, cnt, ih (fun D hD => h D (by omega))]
    have q := h N (by omega)
    by_cases c : f N
    · rw [if_pos c, if_pos (q.mp c)]
    · rw [if_neg c, if_neg (fun w => c (q.mpr w))]
theorem cnt_e {f g : Nat → Prop} {N : Nat} (h : ∀ D, f D ↔ g D) : cnt f N = cnt g N := cnt_b N (fun D _ => h D)
theorem cnt_up {f g : Nat → Prop} {D0 : Nat} (h : ∀ D, D ≠ D0 → (f D ↔ g D)) (hf : ¬ f D0) (hg : g D0) : ∀ N, D0 < N → cnt g N = cnt f N + 1 := by
  intro N
  induction N with
  | zero => intro q; exact absurd q (Nat.not_lt_zero _)
  | succ N ih =>
    intro q
    rw [cnt, cnt]
    by_cases e : N = D0
    · subst e
      rw [if_pos hg, if_neg hf, cnt_b N (fun D hD => h D (by omega))]
    · rw [ih (by omega)]
      have w := h N e
      by_cases c : f N
      · rw [if_pos c, if_pos (w.mp c)]
      · rw [if_neg c, if_neg (fun z => c (w.mpr z))]
theorem cnt_0 {f : Nat → Prop} (h : ∀ D, ¬ f D) : ∀ N, cnt f N = 0 := by
  intro N
  induction N with
  | zero => rfl
  | succ N ih => rw [cnt, ih, if_neg (h N)]
/-- days on which sights quarrel -/
abbrev qC (th kn go : Nat → Nat) (t k p : Nat) : Prop := th p = t ∧ kn p ≤ k ∧ k < go p
def qD (th ot dy kn go : Nat → Nat) (t k n D : Nat) : Prop := ∃ p q, p < n ∧ q < n ∧ qC th kn go t k p ∧ qC th kn go t k q ∧ dy p = D ∧ dy q = D ∧ ot p ≠ ot q
noncomputable def qnS (th ot dy kn go : Nat → Nat) (t k n : Nat) : Nat := cnt (qD th ot dy kn go t k n) 80001
/-- the same along the order -/
def qE (th ot dy kn go od : Nat → Nat) (t k a D : Nat) : Prop := ∃ i j, i < a ∧ j < a ∧ qC th kn go t k (od i) ∧ qC th kn go t k (od j) ∧ dy (od i) = D ∧ dy (od j) = D ∧ ot (od i) ≠ ot (od j)
theorem nI_8 {a b : Nat} (ha : a < 100000) (hb : b < 100000) : nI a = nI b ↔ a = b := nv_eq rfl rfl (by omega) (by omega)
theorem nI_ng {a : Nat} (ha : a < 100000) : ¬ nI a = -1 := by
  intro e
  have h := congrArg Int32.toInt e
  rw [nI_toInt (by omega), show (-1 : Int32).toInt = -1 from rfl] at h
  omega
section QU
variable {th ot dy kn go od : Nat → Nat} {t k n : Nat}
theorem qE_n {a D : Nat} (c : ¬ qC th kn go t k (od a)) : qE th ot dy kn go od t k a D ↔ qE th ot dy kn go od t k (a + 1) D := by
  constructor
  · rintro ⟨i, j, h1, h2, h3⟩; exact ⟨i, j, by omega, by omega, h3⟩
  · rintro ⟨i, j, h1, h2, h3, h4, h5⟩
    have e1 : i ≠ a := fun e => c (e ▸ h3)
    have e2 : j ≠ a := fun e => c (e ▸ h4)
    exact ⟨i, j, by omega, by omega, h3, h4, h5⟩
theorem qE_a {a D : Nat} (h : ∀ i, i < a → qC th kn go t k (od i) → dy (od i) = dy (od a) → ot (od i) = ot (od a)) : qE th ot dy kn go od t k a D ↔ qE th ot dy kn go od t k (a + 1) D := by
  constructor
  · rintro ⟨i, j, h1, h2, h3⟩; exact ⟨i, j, by omega, by omega, h3⟩
  · rintro ⟨i, j, h1, h2, h3, h4, h5, h6, h7⟩
    by_cases e1 : i = a
    · by_cases e2 : j = a
      · rw [e1, e2] at h7; exact absurd rfl h7
      · rw [e1] at h5 h7; exact absurd (h j (by omega) h4 (by rw [h5, h6])).symm h7
    · by_cases e2 : j = a
      · rw [e2] at h6 h7; exact absurd (h i (by omega) h3 (by rw [h5, h6])) h7
      · exact ⟨i, j, by omega, by omega, h3, h4, h5, h6, h7⟩
theorem qE_o {a D : Nat} (h : D ≠ dy (od a)) : qE th ot dy kn go od t k a D ↔ qE th ot dy kn go od t k (a + 1) D := by
  constructor
  · rintro ⟨i, j, h1, h2, h3⟩; exact ⟨i, j, by omega, by omega, h3⟩
  · rintro ⟨i, j, h1, h2, h3, h4, h5, h6, h7⟩
    have e1 : i ≠ a := fun e => by rw [e] at h5; exact h h5.symm
    have e2 : j ≠ a := fun e => by rw [e] at h6; exact h h6.symm
    exact ⟨i, j, by omega, by omega, h3, h4, h5, h6, h7⟩
theorem qdF_i (hod : srt dy od n) (bdy : ∀ j, j < n → dy j ≤ 80000) (bot : ∀ j, j < n → ot j < 8) : ∀ a, a ≤ n → (qdF th ot dy kn go od t k a).1 = cnt (qE th ot dy kn go od t k a) 80001 ∧
    (((∀ i, i < a → ¬ qC th kn go t k (od i)) ∧ (qdF th ot dy kn go od t k a).2.1 = -1) ∨
     ∃ f, f < a ∧ qC th kn go t k (od f) ∧ (qdF th ot dy kn go od t k a).2.1 = nI (dy (od f)) ∧ (qdF th ot dy kn go od t k a).2.2.1 = nI (ot (od f)) ∧ (∀ i, i < a → qC th kn go t k (od i) → dy (od i) ≤ dy (od f)) ∧
       (((qdF th ot dy kn go od t k a).2.2.2 = 0 ∧ ∀ i, i < a → qC th kn go t k (od i) → dy (od i) = dy (od f) → ot (od i) = ot (od f)) ∨
        ((qdF th ot dy kn go od t k a).2.2.2 = 1 ∧ ∃ i, i < a ∧ qC th kn go t k (od i) ∧ dy (od i) = dy (od f) ∧ ot (od i) ≠ ot (od f)))) := by
  intro a
  obtain ⟨h1, h2, h3⟩ := hod
  induction a with
  | zero =>
    intro _
    refine ⟨?_, Or.inl ⟨fun i h => absurd h (Nat.not_lt_zero _), rfl⟩⟩
    rw [cnt_0 (fun D => by rintro ⟨i, j, h, _⟩; exact absurd h (Nat.not_lt_zero _))]; rfl
  | succ a ih =>
    intro ha
    obtain ⟨ih1, ih2⟩ := ih (by omega)
    have ba := h1 a (by omega)
    have bd := bdy _ ba
    have bo := bot _ ba
    by_cases c : qC th kn go t k (od a)
    · rcases ih2 with ⟨g1, g2⟩ | ⟨f, g1, g2, g3, g4, g5, g6⟩
      · have e : qdF th ot dy kn go od t k (a + 1) = ((qdF th ot dy kn go od t k a).1, nI (dy (od a)), nI (ot (od a)), 0) := by
          simp only [qdF]; rw [if_pos c, if_neg (by rw [g2]; exact nI_ng (by omega))]
        rw [e]
        refine ⟨?_, Or.inr ⟨a, by omega, c, rfl, rfl, ?_, Or.inl ⟨rfl, ?_⟩⟩⟩
        · show (qdF th ot dy kn go od t k a).1 = _
          rw [ih1]; exact cnt_e (fun D => qE_a (fun i hi ci => absurd ci (g1 i hi)))
        · intro i hi ci
          by_cases w : i = a
          · rw [w]; exact Nat.le_refl _
          · exact absurd ci (g1 i (by omega))
        · intro i hi ci _
          by_cases w : i = a
          · rw [w]
          · exact absurd ci (g1 i (by omega))
      · have bf := h1 f (by omega)
        have bdf := bdy _ bf
        have bof := bot _ bf
        have s1 := h2 f a g1 (by omega)
        by_cases ed : dy (od a) = dy (od f)
        · by_cases eo : ot (od a) = ot (od f)
          · have e : qdF th ot dy kn go od t k (a + 1) = qdF th ot dy kn go od t k a := by
              simp only [qdF]; rw [if_pos c, if_pos (by rw [g3, ed]), if_pos (by rw [g4, eo])]
            rw [e]
            refine ⟨?_, Or.inr ⟨f, by omega, g2, g3, g4, ?_, ?_⟩⟩
            · rw [ih1]
              apply cnt_e
              intro D
              constructor
              · rintro ⟨i, j, h1, h2, h3⟩; exact ⟨i, j, by omega, by omega, h3⟩
              · rintro ⟨i, j, q1, q2, q3, q4, q5, q6, q7⟩
                by_cases e1 : i = a
                · by_cases e2 : j = a
                  · rw [e1, e2] at q7; exact absurd rfl q7
                  · rw [e1] at q5 q7; exact ⟨f, j, g1, by omega, g2, q4, by rw [← ed]; exact q5, q6, by rw [← eo]; exact q7⟩
                · by_cases e2 : j = a
                  · rw [e2] at q6 q7; exact ⟨i, f, by omega, g1, q3, g2, q5, by rw [← ed]; exact q6, by rw [← eo]; exact q7⟩
                  · exact ⟨i, j, by omega, by omega, q3, q4, q5, q6, q7⟩
            · intro i hi ci
              by_cases w : i = a
              · rw [w]; omega
              · exact g5 i (by omega) ci
            · rcases g6 with ⟨z, g6⟩ | ⟨z, i, b1, b2⟩
              · refine Or.inl ⟨z, fun i hi ci di => ?_⟩
                by_cases w : i = a
                · rw [w]; exact eo
                · exact g6 i (by omega) ci di
              · exact Or.inr ⟨z, i, by omega, b2⟩
          · have eo' : ¬ nI (ot (od a)) = (qdF th ot dy kn go od t k a).2.2.1 := by rw [g4]; exact fun q => eo ((nI_8 (by omega) (by omega)).mp q)
            rcases g6 with ⟨z, g6⟩ | ⟨z, i, b1, b2, b3, b4⟩
            · have e : qdF th ot dy kn go od t k (a + 1) = ((qdF th ot dy kn go od t k a).1 + 1, (qdF th ot dy kn go od t k a).2.1, (qdF th ot dy kn go od t k a).2.2.1, 1) := by
                simp only [qdF]; rw [if_pos c, if_pos (by rw [g3, ed]), if_neg eo', if_pos z]
              rw [e]
              refine ⟨?_, Or.inr ⟨f, by omega, g2, g3, g4, ?_, Or.inr ⟨rfl, a, by omega, c, ed, eo⟩⟩⟩
              · show (qdF th ot dy kn go od t k a).1 + 1 = _
                rw [ih1]
                refine (cnt_up (D0 := dy (od a)) (fun D hD => qE_o hD) ?_ ?_ 80001 (by omega)).symm
                · rintro ⟨i, j, q1, q2, q3, q4, q5, q6, q7⟩
                  exact q7 (by rw [g6 i q1 q3 (by omega), g6 j q2 q4 (by omega)])
                · exact ⟨f, a, by omega, by omega, g2, c, ed.symm, rfl, fun w => eo w.symm⟩
              · intro i hi ci
                by_cases w : i = a
                · rw [w]; omega
                · exact g5 i (by omega) ci
            · have e : qdF th ot dy kn go od t k (a + 1) = qdF th ot dy kn go od t k a := by
                simp only [qdF]; rw [if_pos c, if_pos (by rw [g3, ed]), if_neg eo', if_neg (by rw [z]; decide)]
              rw [e]
              refine ⟨?_, Or.inr ⟨f, by omega, g2, g3, g4, ?_, Or.inr ⟨z, i, by omega, b2, b3, b4⟩⟩⟩
              · rw [ih1]
                apply cnt_e
                intro D
                by_cases hD : D = dy (od a)
                · subst hD
                  exact ⟨fun _ => ⟨f, a, by omega, by omega, g2, c, ed.symm, rfl, fun w => eo w.symm⟩, fun _ => ⟨i, f, b1, g1, b2, g2, by omega, by omega, b4⟩⟩
                · exact qE_o hD
              · intro j hj cj
                by_cases w : j = a
                · rw [w]; omega
                · exact g5 j (by omega) cj
        · have e : qdF th ot dy kn go od t k (a + 1) = ((qdF th ot dy kn go od t k a).1, nI (dy (od a)), nI (ot (od a)), 0) := by
            simp only [qdF]; rw [if_pos c, if_neg (by rw [g3]; exact fun q => ed ((nI_8 (by omega) (by omega)).mp q))]
          rw [e]
          have lt : ∀ i, i < a → qC th kn go t k (od i) → dy (od i) < dy (od a) := fun i hi ci => by have := g5 i hi ci; omega
          refine ⟨?_, Or.inr ⟨a, by omega, c, rfl, rfl, ?_, Or.inl ⟨rfl, ?_⟩⟩⟩
          · show (qdF th ot dy kn go od t k a).1 = _
            rw [ih1]; exact cnt_e (fun D => qE_a (fun i hi ci di => by have := lt i hi ci; omega))
          · intro i hi ci
            by_cases w : i = a
            · rw [w]; exact Nat.le_refl _
            · have := lt i (by omega) ci; omega
          · intro i hi ci di
            by_cases w : i = a
            · rw [w]
            · have := lt i (by omega) ci; omega
    · have e : qdF th ot dy kn go od t k (a + 1) = qdF th ot dy kn go od t k a := by
        simp only [qdF]; rw [if_neg c]
      rw [e]
      refine ⟨?_, ?_⟩
      · rw [ih1]; exact cnt_e (fun D => qE_n c)
      · have ne : ∀ i, i < a + 1 → qC th kn go t k (od i) → i < a := fun i hi ci => by
          have : i ≠ a := fun w => c (w ▸ ci)
          omega
        rcases ih2 with ⟨g1, g2⟩ | ⟨f, g1, g2, g3, g4, g5, g6⟩
        · exact Or.inl ⟨fun i hi ci => g1 i (ne i hi ci) ci, g2⟩
        · refine Or.inr ⟨f, by omega, g2, g3, g4, fun i hi ci => g5 i (ne i hi ci) ci, ?_⟩
          rcases g6 with ⟨z, g6⟩ | ⟨z, i, b1, b2⟩
          · exact Or.inl ⟨z, fun i hi ci => g6 i (ne i hi ci) ci⟩
          · exact Or.inr ⟨z, i, by omega, b2⟩
theorem qd_S (hod : srt dy od n) (bdy : ∀ j, j < n → dy j ≤ 80000) (bot : ∀ j, j < n → ot j < 8) : (qdF th ot dy kn go od t k n).1 = qnS th ot dy kn go t k n := by
  rw [(qdF_i hod bdy bot n (Nat.le_refl _)).1]
  obtain ⟨h1, h2, h3⟩ := hod
  apply cnt_e
  intro D
  constructor
  · rintro ⟨i, j, q1, q2, q3⟩; exact ⟨od i, od j, h1 i q1, h1 j q2, q3⟩
  · rintro ⟨p, q, q1, q2, q3⟩
    obtain ⟨i, b1, rfl⟩ := h3 p q1
    obtain ⟨j, b2, rfl⟩ := h3 q q2
    exact ⟨i, j, b1, b2, q3⟩
end QU
/-- the reference's count, a record at a time -/
def fqF (th dy kn go : Nat → Nat) (t k i : Nat) : Nat → Bool
  | 0 => true
  | j + 1 => fqF th dy kn go t k i j && decide (qC th kn go t k j → dy j = dy i → i ≤ j)
def dqF (th ot dy kn go : Nat → Nat) (t k i : Nat) : Nat → Bool
  | 0 => false
  | j + 1 => dqF th ot dy kn go t k i j || decide (qC th kn go t k j ∧ dy j = dy i ∧ ot j ≠ ot i)
noncomputable def qnF (th ot dy kn go : Nat → Nat) (t k n i : Nat) : Nat := cnt (fun D => qD th ot dy kn go t k n D ∧ ∃ p, p < i ∧ qC th kn go t k p ∧ dy p = D) 80001
section QM
variable {th ot dy kn go : Nat → Nat} {t k n i j : Nat}
theorem fq_k (h : ¬ (qC th kn go t k j ∧ dy j = dy i)) : fqF th dy kn go t k i (j + 1) = fqF th dy kn go t k i j := by
  simp only [fqF]
  rw [decide_eq_true (fun a b => absurd ⟨a, b⟩ h), Bool.and_true]
theorem fq_1 (h : fqF th dy kn go t k i j = true) (h2 : ¬ j < i) : (1 : Int32) = if fqF th dy kn go t k i (j + 1) = true then 1 else 0 := by
  rw [if_pos]
  simp only [fqF, h, Bool.true_and]
  exact decide_eq_true (fun _ _ => by omega)
theorem fq_0 (hc : qC th kn go t k j) (hd : dy j = dy i) (h : ¬ fqF th dy kn go t k i j = true ∨ j < i) : (0 : Int32) = if fqF th dy kn go t k i (j + 1) = true then 1 else 0 := by
  rw [if_neg]
  intro q
  simp only [fqF, Bool.and_eq_true, decide_eq_true_eq] at q
  rcases h with h | h
  · exact h q.1
  · have := q.2 hc hd; omega
theorem dq_k (h : ¬ (qC th kn go t k j ∧ dy j = dy i)) : dqF th ot dy kn go t k i (j + 1) = dqF th ot dy kn go t k i j := by
  simp only [dqF]
  rw [decide_eq_false (fun a => h ⟨a.1, a.2.1⟩), Bool.or_false]
theorem dq_1 (h : dqF th ot dy kn go t k i j = true ∨ (qC th kn go t k j ∧ dy j = dy i ∧ ot j ≠ ot i)) : (1 : Int32) = if dqF th ot dy kn go t k i (j + 1) = true then 1 else 0 := by
  rw [if_pos]
  simp only [dqF, Bool.or_eq_true, decide_eq_true_eq]
  exact h
theorem dq_0 (h : ¬ dqF th ot dy kn go t k i j = true) (h2 : ot j = ot i) : (0 : Int32) = if dqF th ot dy kn go t k i (j + 1) = true then 1 else 0 := by
  rw [if_neg]
  simp only [dqF, Bool.or_eq_true, decide_eq_true_eq]
  rintro (q | q)
  · exact h q
  · exact q.2.2 h2
theorem fq_i : ∀ j, fqF th dy kn go t k i j = true ↔ ∀ p, p < j → qC th kn go t k p → dy p = dy i → i ≤ p := by
  intro j
  induction j with
  | zero => exact ⟨fun _ p h => absurd h (Nat.not_lt_zero _), fun _ => rfl⟩
  | succ j ih =>
    simp only [fqF, Bool.and_eq_true, decide_eq_true_eq, ih]
    constructor
    · rintro ⟨h1, h2⟩ p hp
      by_cases e : p = j
      · subst e; exact h2
      · exact h1 p (by omega)
    · intro h
      exact ⟨fun p hp => h p (by omega), h j (by omega)⟩
theorem dq_i : ∀ j, dqF th ot dy kn go t k i j = true ↔ ∃ p, p < j ∧ qC th kn go t k p ∧ dy p = dy i ∧ ot p ≠ ot i := by
  intro j
  induction j with
  | zero => simp [dqF]
  | succ j ih =>
    simp only [dqF, Bool.or_eq_true, decide_eq_true_eq, ih]
    constructor
    · rintro (⟨p, h1, h2⟩ | h)
      · exact ⟨p, by omega, h2⟩
      · exact ⟨j, by omega, h⟩
    · rintro ⟨p, h1, h2⟩
      by_cases e : p = j
      · subst e; exact Or.inr h2
      · exact Or.inl ⟨p, by omega, h2⟩
theorem qn_0 : qnF th ot dy kn go t k n 0 = 0 := cnt_0 (fun D => by rintro ⟨_, p, h, _⟩; exact absurd h (Nat.not_lt_zero _)) _
theorem qn_n (h : ¬ qC th kn go t k i) : qnF th ot dy kn go t k n (i + 1) = qnF th ot dy kn go t k n i := by
  apply cnt_e
  intro D
  constructor
  · rintro ⟨a, p, h1, h2, h3⟩
    have : p ≠ i := fun e => h (e ▸ h2)
    exact ⟨a, p, by omega, h2, h3⟩
  · rintro ⟨a, p, h1, h2⟩; exact ⟨a, p, by omega, h2⟩
theorem qn_y (bdy : dy i ≤ 80000) (c : qC th kn go t k i) (hi : i < n) (hf : fqF th dy kn go t k i n = true) (hd : dqF th ot dy kn go t k i n = true) : qnF th ot dy kn go t k n (i + 1) = qnF th ot dy kn go t k n i + 1 := by
  have hf := (fq_i n).mp hf
  obtain ⟨q, q1, q2, q3, q4⟩ := (dq_i n).mp hd
  refine cnt_up (D0 := dy i) (fun D hD => ?_) ?_ ?_ 80001 (by omega)
  · constructor
    · rintro ⟨a, p, h1, h2⟩; exact ⟨a, p, by omega, h2⟩
    · rintro ⟨a, p, h1, h2, h3⟩
      have : p ≠ i := fun e => by rw [e] at h3; exact hD h3.symm
      exact ⟨a, p, by omega, h2, h3⟩
  · rintro ⟨a, p, h1, h2, h3⟩
    have := hf p (by omega) h2 h3
    omega
  · exact ⟨⟨q, i, q1, hi, q2, c, q3, rfl, q4⟩, i, by omega, c, rfl⟩
theorem qn_m (c : qC th kn go t k i) (hi : i < n) (h : ¬ fqF th dy kn go t k i n = true ∨ ¬ dqF th ot dy kn go t k i n = true) : qnF th ot dy kn go t k n (i + 1) = qnF th ot dy kn go t k n i := by
  apply cnt_e
  intro D
  constructor
  · rintro ⟨a, p, h1, h2, h3⟩
    by_cases e : p = i
    · subst e
      rcases h with h | h
      · have h4 : ∃ r, r < p ∧ qC th kn go t k r ∧ dy r = dy p := by
          apply Classical.byContradiction
          intro w
          apply h
          rw [fq_i]
          intro r hr cr dr
          apply Classical.byContradiction
          intro z
          exact w ⟨r, by omega, cr, dr⟩
        obtain ⟨r, r1, r2, r3⟩ := h4
        exact ⟨a, r, r1, r2, by omega⟩
      · exfalso
        obtain ⟨x, y, x1, y1, x2, y2, x3, y3, ne⟩ := a
        by_cases ex : ot x = ot p
        · exact h ((dq_i n).mpr ⟨y, y1, y2, by omega, fun z => ne (ex.trans z.symm)⟩)
        · exact h ((dq_i n).mpr ⟨x, x1, x2, by omega, ex⟩)
    · exact ⟨a, p, by omega, h2, h3⟩
  · rintro ⟨a, p, h1, h2⟩; exact ⟨a, p, by omega, h2⟩
theorem qn_e (e : i = n) : qnF th ot dy kn go t k n i = qnS th ot dy kn go t k n := by
  subst e
  apply cnt_e
  intro D
  constructor
  · exact fun h => h.1
  · intro h
    obtain ⟨x, y, x1, y1, x2, y2, x3, y3, ne⟩ := h
    exact ⟨⟨x, y, x1, y1, x2, y2, x3, y3, ne⟩, x, x1, x2, x3⟩
end QM
