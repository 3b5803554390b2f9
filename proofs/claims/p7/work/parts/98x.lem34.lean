/-- the bits of the bars -/
def tB (Ba : Nat → Int64) (x y : Nat) : Bool := (Ba x).toBitVec.getLsbD y
theorem sm40 : ∀ g, g < 40 → (((nI g).toInt64 &&& 63).toBitVec.smod 64) = BitVec.ofNat 64 g := by decide +kernel
theorem sh40 : ∀ g, g < 40 → ((1 : Int64) <<< ((nI g).toInt64 &&& 63)).toBitVec = BitVec.twoPow 64 g := by decide +kernel
theorem cmp0 (x : Int64) : lg_cmp x 0 = 0 ↔ x = 0 := by
  unfold lg_cmp
  constructor
  · intro h
    split at h
    · exact absurd h (by decide)
    · split at h
      · assumption
      · exact absurd h (by decide)
  · intro h
    rw [h, if_neg (by decide), if_pos rfl]
theorem and1_64 (v : BitVec 64) : v &&& 1#64 = 0#64 ↔ v.getLsbD 0 = false := by
  constructor
  · intro h
    have q := congrArg (fun z : BitVec 64 => z.getLsbD 0) h
    simpa using q
  · intro h
    apply BitVec.eq_of_getLsbD_eq
    intro i hi
    rw [BitVec.getLsbD_and, BitVec.getLsbD_zero, BitVec.getLsbD_one]
    by_cases e : i = 0
    · subst e; rw [h]; rfl
    · simp [e]
theorem bar_t {Ba : Nat → Int64} {x y : Nat} (hy : y < 40) : ¬ barF Ba x (nI y) = 0 ↔ tB Ba x y = true := by
  have e1 : ((Ba x >>> ((nI y).toInt64 &&& 63)) &&& 1) = 0 ↔ tB Ba x y = false := by
    rw [← Int64.toBitVec_inj]
    show ((Ba x).toBitVec.sshiftRight' (((nI y).toInt64 &&& 63).toBitVec.smod 64)) &&& 1#64 = 0#64 ↔ _
    rw [sm40 y hy, and1_64]
    unfold tB
    show ((Ba x).toBitVec.sshiftRight (BitVec.ofNat 64 y).toNat).getLsbD 0 = false ↔ _
    rw [BitVec.getLsbD_sshiftRight, BitVec.toNat_ofNat, Nat.mod_eq_of_lt (by omega : y < 2 ^ 64), if_pos (by omega)]
    simp
  unfold barF
  by_cases h : tB Ba x y = true
  · rw [if_neg (by rw [cmp0, e1, h]; decide)]
    exact ⟨fun _ => h, fun _ => by decide⟩
  · have h2 : tB Ba x y = false := by cases q : tB Ba x y with
      | false => rfl
      | true => exact absurd q h
    rw [if_pos (by rw [cmp0, e1]; exact h2)]
    exact ⟨fun q => absurd rfl q, fun q => absurd q h⟩
theorem or_40 {A : Int64} {f y : Nat} (hf : f < 40) (hy : y < 40) : (A ||| (1 : Int64) <<< ((nI f).toInt64 &&& 63)).toBitVec.getLsbD y = (A.toBitVec.getLsbD y || decide (f = y)) := by
  show (A.toBitVec ||| ((1 : Int64) <<< ((nI f).toInt64 &&& 63)).toBitVec).getLsbD y = _
  rw [sh40 f hf, BitVec.getLsbD_or, BitVec.getLsbD_twoPow]
  congr 1
  by_cases e : f = y
  · subst e; simp; omega
  · simp [e]
theorem tB_up {Ba : Nat → Int64} {e f x y : Nat} (he : e < 40) (hf : f < 40) (hef : e ≠ f) (hy : y < 40) : tB (baU Ba e f) x y = true ↔ tB Ba x y = true ∨ ((x = e ∧ y = f) ∨ (x = f ∧ y = e)) := by
  unfold tB baU vp_updL
  by_cases h1 : x = f
  · subst h1
    rw [if_pos rfl, if_neg (Ne.symm hef), or_40 he hy]
    simp only [Bool.or_eq_true, decide_eq_true_eq]
    constructor
    · rintro (q | q)
      · exact Or.inl q
      · exact Or.inr (Or.inr ⟨trivial, q.symm⟩)
    · rintro (q | ⟨q, _⟩ | ⟨_, q⟩)
      · exact Or.inl q
      · exact absurd q.symm hef
      · exact Or.inr q.symm
  · rw [if_neg h1]
    by_cases h2 : x = e
    · subst h2
      rw [if_pos rfl, or_40 hf hy]
      simp only [Bool.or_eq_true, decide_eq_true_eq]
      constructor
      · rintro (q | q)
        · exact Or.inl q
        · exact Or.inr (Or.inl ⟨trivial, q.symm⟩)
      · rintro (q | ⟨_, q⟩ | ⟨q, _⟩)
        · exact Or.inl q
        · exact Or.inr q.symm
        · exact absurd q hef
    · rw [if_neg h2]
      constructor
      · exact Or.inl
      · rintro (q | ⟨q, _⟩ | ⟨q, _⟩)
        · exact q
        · exact absurd q h2
        · exact absurd q h1
theorem brF_i {b1 b2 : Nat → Nat} {x y : Nat} : ∀ n, brF b1 b2 x y n = true ↔ ∃ k, k < n ∧ ((b1 k = x ∧ b2 k = y) ∨ (b1 k = y ∧ b2 k = x)) := by
  intro n
  induction n with
  | zero => simp [brF]
  | succ n ih =>
    simp only [brF, Bool.or_eq_true, decide_eq_true_eq, ih]
    constructor
    · rintro (⟨k, h1, h2⟩ | h)
      · exact ⟨k, by omega, h2⟩
      · exact ⟨n, by omega, h⟩
    · rintro ⟨k, h1, h2⟩
      by_cases e : k = n
      · subst e; exact Or.inr h2
      · exact Or.inl ⟨k, by omega, h2⟩
theorem brF_up {b1 b2 : Nat → Nat} {e f x y n : Nat} : brF (un b1 n e) (un b2 n f) x y (n + 1) = true ↔ brF b1 b2 x y n = true ∨ ((x = e ∧ y = f) ∨ (x = f ∧ y = e)) := by
  rw [brF_i, brF_i]
  constructor
  · rintro ⟨k, h1, h2⟩
    by_cases q : k = n
    · subst q
      rw [un_s, un_s] at h2
      rcases h2 with ⟨a, b⟩ | ⟨a, b⟩
      · exact Or.inr (Or.inl ⟨a.symm, b.symm⟩)
      · exact Or.inr (Or.inr ⟨b.symm, a.symm⟩)
    · rw [un_n q, un_n q] at h2
      exact Or.inl ⟨k, by omega, h2⟩
  · rintro (⟨k, h1, h2⟩ | h)
    · refine ⟨k, by omega, ?_⟩
      rw [un_n (by omega), un_n (by omega)]
      exact h2
    · refine ⟨n, by omega, ?_⟩
      rw [un_s, un_s]
      rcases h with ⟨a, b⟩ | ⟨a, b⟩
      · exact Or.inl ⟨a.symm, b.symm⟩
      · exact Or.inr ⟨b.symm, a.symm⟩
/-- both sides' bars are the same -/
def bRel (Ba : Nat → Int64) (b1 b2 : Nat → Nat) (nb : Nat) : Prop := ∀ x, x < 40 → ∀ y, y < 40 → (tB Ba x y = true ↔ brF b1 b2 x y nb = true)
theorem bRel_0 {b1 b2 : Nat → Nat} : bRel (fun _ => 0) b1 b2 0 := fun x _ y _ => by
  constructor
  · intro h
    unfold tB at h
    rw [show ((0 : Int64)).toBitVec = 0#64 from rfl, BitVec.getLsbD_zero] at h
    exact absurd h (by decide)
  · intro h; exact absurd h (by simp [brF])
theorem spB_c {fi : Nat → Nat} {nb : Nat} {p q : Prop} [Decidable p] [Decidable q] {a i b k : Int32} (h : (((0 ≤ a.toInt ∧ a.toInt < 4) ∧ 0 ≤ i.toInt ∧ i.toInt < (fi (tn a) : Int)) ∧ ((0 ≤ b.toInt ∧ b.toInt < 4) ∧ 0 ≤ k.toInt ∧ k.toInt < (fi (tn b) : Int)) ∧ a.toInt ≠ b.toInt) → (p ↔ q)) : spBarA fi nb p a i b k = spBarA fi nb q a i b k := by
  unfold spBarA
  split
  · rename_i c
    have w := h c
    by_cases e : p
    · rw [if_pos e, if_pos (w.mp e)]
    · rw [if_neg e, if_neg (fun z => e (w.mpr z))]
  · rfl
section BR
variable {Ba : Nat → Int64} {fi b1 b2 : Nat → Nat} {nb : Nat} {a i b k : Int32}
theorem bar_x (hfi : ∀ j, j < 4 → fi j < 11) (h : ((0 ≤ a.toInt ∧ a.toInt < 4) ∧ 0 ≤ i.toInt ∧ i.toInt < (fi (tn a) : Int)) ∧ ((0 ≤ b.toInt ∧ b.toInt < 4) ∧ 0 ≤ k.toInt ∧ k.toInt < (fi (tn b) : Int)) ∧ a.toInt ≠ b.toInt) : tn a * 10 + tn i < 40 ∧ tn b * 10 + tn k < 40 ∧ tn a * 10 + tn i ≠ tn b * 10 + tn k := by
  have ha := hfi (tn a) (by unfold tn; omega)
  have hb := hfi (tn b) (by unfold tn; omega)
  unfold tn at *
  omega
theorem bar_c (hfi : ∀ j, j < 4 → fi j < 11) (hB : bRel Ba b1 b2 nb) : spBarA fi nb (¬ barF Ba (tn a * 10 + tn i) (nI (tn b * 10 + tn k)) = 0) a i b k = spBarA fi nb (brF b1 b2 (tn a * 10 + tn i) (tn b * 10 + tn k) nb = true) a i b k := by
  apply spB_c
  intro h
  obtain ⟨h1, h2, _⟩ := bar_x hfi h
  rw [bar_t h2]
  exact hB _ h1 _ h2
theorem bar_v {p : Prop} [Decidable p] (h : spBarA fi nb p a i b k = 1) : ((0 ≤ a.toInt ∧ a.toInt < 4) ∧ 0 ≤ i.toInt ∧ i.toInt < (fi (tn a) : Int)) ∧ ((0 ≤ b.toInt ∧ b.toInt < 4) ∧ 0 ≤ k.toInt ∧ k.toInt < (fi (tn b) : Int)) ∧ a.toInt ≠ b.toInt := by
  unfold spBarA at h
  split at h
  · assumption
  · exact absurd h (by decide)
theorem bRel_up {p : Prop} [Decidable p] (hfi : ∀ j, j < 4 → fi j < 11) (hB : bRel Ba b1 b2 nb) : bRel (spBa (spBarA fi nb p a i b k = 1) Ba (tn a * 10 + tn i) (tn b * 10 + tn k)) (spUn (spBarA fi nb p a i b k = 1) b1 nb (tn a * 10 + tn i)) (spUn (spBarA fi nb p a i b k = 1) b2 nb (tn b * 10 + tn k)) (spN (spBarA fi nb p a i b k = 1) nb (nb + 1)) := by
  by_cases q : spBarA fi nb p a i b k = 1
  · obtain ⟨h1, h2, h3⟩ := bar_x hfi (bar_v q)
    rw [spUn_y q, spUn_y q, spN_y q, show spBa (spBarA fi nb p a i b k = 1) Ba (tn a * 10 + tn i) (tn b * 10 + tn k) = baU Ba (tn a * 10 + tn i) (tn b * 10 + tn k) from if_pos q]
    intro x hx y hy
    rw [tB_up h1 h2 h3 hy, brF_up, hB x hx y hy]
  · rw [spUn_n q, spUn_n q, spN_n q, spBa_n q]
    exact hB
end BR
/-- the class's likeness is the likeness -/
theorem snF_r {se : Nat → Nat} {m : Nat → Nat} (hr : ∀ j, j < 20 → se j = root m j) {x : Int32} : ∀ k, k ≤ 20 → snF se x k = snF (root m) x k := by
  intro k
  induction k with
  | zero => intro _; rfl
  | succ k ih =>
    intro h
    simp only [snF]
    rw [ih (by omega), hr k (by omega)]
section LC
variable {m ye fi se b1 b2 : Nat → Nat} {W Sn Z Ro Co : Nat → Int32} {Ba : Nat → Int64} {nb sp fa : Nat}
theorem yv {x y c : Nat} (hx : x < 1901) (hy : y < 1901) (hfa : c ≤ 9) (h : y ≤ x) : (nI x - nI y) * nI c + 5 = nI ((max x y - min x y) * c + 5) := by
  rw [pk_sub h, pk_mul, show (5 : Int32) = nI 5 from rfl, nI_add]
  congr 2
  rw [show max x y - min x y = x - y by omega]
theorem fade_e {a i b k : Nat} (hye : ∀ j, j < 4 → ye j < 1901) (hfa : fa ≤ 9) (ha : a < 4) (hb : b < 4) (hi : i < 10) (hk : k < 10) : fadeC ye Co fa (a * 10 + i) (b * 10 + k) = 0 ↔ (flF ye Co a b (a * 10 + i) (b * 10 + k) < 0 ∨ nI (ynF ye fa a b) < flF ye Co a b (a * 10 + i) (b * 10 + k)) := by
  have h1 := hye a ha
  have h2 := hye b hb
  have e1 : (a * 10 + i) / 10 = a := by omega
  have e2 : (b * 10 + k) / 10 = b := by omega
  have c : (if nI (ye a) = nI (ye b) then ¬ nI b ≤ nI a else ¬ nI (ye b) ≤ nI (ye a)) ↔ (if ye a = ye b then a < b else ye a < ye b) := by
    have g1 := nv_eq (a := ye a) (b := ye b) rfl rfl (by omega) (by omega)
    have g2 := nv_le (a := b) (b := a) rfl rfl (by omega) (by omega)
    have g3 := nv_le (a := ye b) (b := ye a) rfl rfl (by omega) (by omega)
    by_cases q : ye a = ye b
    · rw [if_pos (g1.mpr q), if_pos q, g2]; omega
    · rw [if_neg (fun w => q (g1.mp w)), if_neg q, g3]; omega
  unfold fadeC flF ynF
  rw [e1, e2]
  by_cases w : (if ye a = ye b then a < b else ye a < ye b)
  · have w2 : ye a ≤ ye b := by
      by_cases q : ye a = ye b
      · omega
      · rw [if_neg q] at w; omega
    have y := yv (c := fa) h2 h1 hfa w2
    rw [Nat.max_comm, Nat.min_comm] at y
    rw [if_pos (c.mpr w), if_pos w, y]
    by_cases u : Co (a * 10 + i) - Co (b * 10 + k) < 0
    · rw [if_pos u]; exact ⟨fun _ => Or.inl u, fun _ => rfl⟩
    · rw [if_neg u]
      by_cases v : nI ((max (ye a) (ye b) - min (ye a) (ye b)) * fa + 5) < Co (a * 10 + i) - Co (b * 10 + k)
      · rw [if_pos v]; exact ⟨fun _ => Or.inr v, fun _ => rfl⟩
      · rw [if_neg v]; exact ⟨fun q => absurd q (by decide), fun q => (q.elim u v).elim⟩
  · have w2 : ye b ≤ ye a := by
      by_cases q : ye a = ye b
      · omega
      · rw [if_neg q] at w; omega
    have y := yv (c := fa) h1 h2 hfa w2
    rw [if_neg (fun q => w (c.mp q)), if_neg w, y]
    by_cases u : Co (b * 10 + k) - Co (a * 10 + i) < 0
    · rw [if_pos u]; exact ⟨fun _ => Or.inl u, fun _ => rfl⟩
    · rw [if_neg u]
      by_cases v : nI ((max (ye a) (ye b) - min (ye a) (ye b)) * fa + 5) < Co (b * 10 + k) - Co (a * 10 + i)
      · rw [if_pos v]; exact ⟨fun _ => Or.inr v, fun _ => rfl⟩
      · rw [if_neg v]; exact ⟨fun q => absurd q (by decide), fun q => (q.elim u v).elim⟩
theorem lkC_e {a i b k : Nat} (hr : ∀ j, j < 20 → se j = root m j) (hS : ∀ j, j < 40 → Sn j = snF se (W j) 20) (hB : bRel Ba b1 b2 nb) (hye : ∀ j, j < 4 → ye j < 1901) (hfa : fa ≤ 9) (ha : a < 4) (hb : b < 4) (hi : i < 10) (hk : k < 10) : likeC ye Sn Z Ro Co Ba sp fa (a * 10 + i) (b * 10 + k) = lkS ye (fun j => snF (root m) (W j) 20) Z Ro Co (brF b1 b2 (a * 10 + i) (b * 10 + k) nb = true) sp fa a i b k := by
  have s1 : Sn (a * 10 + i) = snF (root m) (W (a * 10 + i)) 20 := by rw [hS _ (by omega), snF_r hr 20 (Nat.le_refl _)]
  have s2 : Sn (b * 10 + k) = snF (root m) (W (b * 10 + k)) 20 := by rw [hS _ (by omega), snF_r hr 20 (Nat.le_refl _)]
  have fe := fade_e (Co := Co) (i := i) (k := k) hye hfa ha hb hi hk
  have be : ¬ barF Ba (a * 10 + i) (nI (b * 10 + k)) = 0 ↔ brF b1 b2 (a * 10 + i) (b * 10 + k) nb = true := by
    rw [bar_t (by omega)]; exact hB _ (by omega) _ (by omega)
  unfold likeC lkS
  show _ = if nI sp < apF Z (a * 10 + i) (b * 10 + k) ∨ snF (root m) (W (a * 10 + i)) 20 &&& snF (root m) (W (b * 10 + k)) 20 = 0 ∨ brF b1 b2 (a * 10 + i) (b * 10 + k) nb = true ∨ flF ye Co a b (a * 10 + i) (b * 10 + k) < 0 ∨ nI (ynF ye fa a b) < flF ye Co a b (a * 10 + i) (b * 10 + k) then 0 else _
  rw [← s1, ← s2]
  by_cases q1 : nI sp < apF Z (a * 10 + i) (b * 10 + k)
  · rw [if_pos q1, if_pos (Or.inl q1)]
  · rw [if_neg q1]
    by_cases q2 : Sn (a * 10 + i) &&& Sn (b * 10 + k) = 0
    · rw [if_pos q2, if_pos (Or.inr (Or.inl q2))]
    · rw [if_neg q2]
      by_cases q3 : barF Ba (a * 10 + i) (nI (b * 10 + k)) = 0
      · rw [if_pos q3]
        by_cases q4 : fadeC ye Co fa (a * 10 + i) (b * 10 + k) = 0
        · rw [if_pos q4, if_pos (Or.inr (Or.inr (Or.inr (fe.mp q4))))]
        · have no : ¬ (nI sp < apF Z (a * 10 + i) (b * 10 + k) ∨ Sn (a * 10 + i) &&& Sn (b * 10 + k) = 0 ∨ brF b1 b2 (a * 10 + i) (b * 10 + k) nb = true ∨ flF ye Co a b (a * 10 + i) (b * 10 + k) < 0 ∨ nI (ynF ye fa a b) < flF ye Co a b (a * 10 + i) (b * 10 + k)) := by
            rintro (w | w | w | w)
            · exact q1 w
            · exact q2 w
            · exact (be.mpr w) q3
            · exact q4 (fe.mpr w)
          rw [if_neg q4, if_neg no]
          have p : lpS (fun j => snF (root m) (W j) 20) Z Ro (a * 10 + i) (b * 10 + k) = (if Ro (a * 10 + i) = Ro (b * 10 + k) then 10 * bcF (Sn (a * 10 + i) &&& Sn (b * 10 + k)) - 2 * bcF (Sn (a * 10 + i) ^^^ Sn (b * 10 + k)) - apF Z (a * 10 + i) (b * 10 + k) + 7 else 10 * bcF (Sn (a * 10 + i) &&& Sn (b * 10 + k)) - 2 * bcF (Sn (a * 10 + i) ^^^ Sn (b * 10 + k)) - apF Z (a * 10 + i) (b * 10 + k)) := by
            unfold lpS
            show 10 * bcF (snF (root m) (W (a * 10 + i)) 20 &&& snF (root m) (W (b * 10 + k)) 20) - 2 * bcF (snF (root m) (W (a * 10 + i)) 20 ^^^ snF (root m) (W (b * 10 + k)) 20) - apF Z (a * 10 + i) (b * 10 + k) + _ = _
            rw [← s1, ← s2]
            by_cases r : Ro (a * 10 + i) = Ro (b * 10 + k)
            · rw [if_pos r, if_pos r]
            · rw [if_neg r, if_neg r, Int32.add_zero]
          rw [p]
      · rw [if_neg q3, if_pos (Or.inr (Or.inr (Or.inl (be.mp q3))))]
theorem like_E {a i b k : Int32} (hr : ∀ j, j < 20 → se j = root m j) (hS : ∀ j, j < 40 → Sn j = snF se (W j) 20) (hB : bRel Ba b1 b2 nb) (hye : ∀ j, j < 4 → ye j < 1901) (hfa : fa ≤ 9) (hfi : ∀ j, j < 4 → fi j < 11) : (if (((0 ≤ a.toInt ∧ a.toInt < 4) ∧ 0 ≤ i.toInt ∧ i.toInt < (fi (tn a) : Int)) ∧ ((0 ≤ b.toInt ∧ b.toInt < 4) ∧ 0 ≤ k.toInt ∧ k.toInt < (fi (tn b) : Int)) ∧ a.toInt ≠ b.toInt) then likeC ye Sn Z Ro Co Ba sp fa (tn a * 10 + tn i) (tn b * 10 + tn k) else -1) = (if (((0 ≤ a.toInt ∧ a.toInt < 4) ∧ 0 ≤ i.toInt ∧ i.toInt < (fi (tn a) : Int)) ∧ ((0 ≤ b.toInt ∧ b.toInt < 4) ∧ 0 ≤ k.toInt ∧ k.toInt < (fi (tn b) : Int)) ∧ a.toInt ≠ b.toInt) then lkS ye (fun j => snF (root m) (W j) 20) Z Ro Co (brF b1 b2 (tn a * 10 + tn i) (tn b * 10 + tn k) nb = true) sp fa (tn a) (tn i) (tn b) (tn k) else -1) := by
  by_cases c : (((0 ≤ a.toInt ∧ a.toInt < 4) ∧ 0 ≤ i.toInt ∧ i.toInt < (fi (tn a) : Int)) ∧ ((0 ≤ b.toInt ∧ b.toInt < 4) ∧ 0 ≤ k.toInt ∧ k.toInt < (fi (tn b) : Int)) ∧ a.toInt ≠ b.toInt)
  · have ha : tn a < 4 := by unfold tn; omega
    have hb : tn b < 4 := by unfold tn; omega
    have h1 := hfi _ ha
    have h2 := hfi _ hb
    have hi : tn i < 10 := by unfold tn at *; omega
    have hk : tn k < 10 := by unfold tn at *; omega
    rw [if_pos c, if_pos c, lkC_e hr hS hB hye hfa ha hb hi hk]
  · rw [if_neg c, if_neg c]
end LC
