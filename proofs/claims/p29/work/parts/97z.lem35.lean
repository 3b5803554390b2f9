/-- the things of a shelf, both ways of reading them -/
theorem thL_m {st : Nat} : ∀ d a, (thL st a).length ≤ (thL st (a + d)).length
  | 0, _ => Nat.le_refl _
  | d + 1, a => by
    have h := thL_m (st := st) d a
    rw [← Nat.add_assoc]
    cases q : st.testBit (a + d) with
    | true => rw [thL_t q, List.length_append]; omega
    | false => rw [thL_f q]; exact h
theorem rt_rd {st : Nat} {tg0 : Nat → Int32} {po0 tgM : Nat → Nat} (hp : popN st ≤ 8) : ∀ a, a ≤ 12 → (rtF st tg0 po0 a).1 = (rdF st tgM a).1 ∧ (∀ j, j < (rdF st tgM a).1 → (rtF st tg0 po0 a).2.1 j = nI ((rdF st tgM a).2 j) ∧ (rtF st tg0 po0 a).2.2 ((rdF st tgM a).2 j) = j ∧ (rdF st tgM a).2 j < a ∧ st.testBit ((rdF st tgM a).2 j) = true) ∧ (∀ t, t < a → st.testBit t = true → (rtF st tg0 po0 a).2.2 t < (rdF st tgM a).1 ∧ (rdF st tgM a).2 ((rtF st tg0 po0 a).2.2 t) = t) := by
  intro a
  induction a with
  | zero => intro _; exact ⟨rfl, fun j h => absurd h (Nat.not_lt_zero _), fun t h => absurd h (Nat.not_lt_zero _)⟩
  | succ a ih =>
    intro ha
    obtain ⟨h1, h2, h3⟩ := ih (by omega)
    cases q : st.testBit a with
    | false =>
      have e1 : rtF st tg0 po0 (a + 1) = rtF st tg0 po0 a := by rw [rtF_s, if_neg (by rw [q]; exact fun w => absurd w.1 (by decide))]
      have e2 : rdF st tgM (a + 1) = rdF st tgM a := by simp only [rdF]; rw [if_neg (by rw [q]; decide)]
      rw [e1, e2]
      refine ⟨h1, fun j hj => ?_, fun t ht bt => ?_⟩
      · obtain ⟨a1, a2, a3, a4⟩ := h2 j hj
        exact ⟨a1, a2, by omega, a4⟩
      · have : t ≠ a := fun e => by rw [e, q] at bt; exact absurd bt (by decide)
        exact h3 t (by omega) bt
    | true =>
      have l1 := rdF_len (st := st) (tg := tgM) (a + 1)
      have l2 := thL_m (st := st) (12 - (a + 1)) (a + 1)
      rw [show a + 1 + (12 - (a + 1)) = 12 by omega, ← popL] at l2
      have e2 : rdF st tgM (a + 1) = ((rdF st tgM a).1 + 1, un (rdF st tgM a).2 (rdF st tgM a).1 a) := by simp only [rdF]; rw [if_pos q]
      have l3 : (rdF st tgM a).1 + 1 ≤ 8 := by rw [e2] at l1; dsimp only at l1; omega
      have e1 : rtF st tg0 po0 (a + 1) = ((rtF st tg0 po0 a).1 + 1, upd (rtF st tg0 po0 a).2.1 (rtF st tg0 po0 a).1 (nI a), un (rtF st tg0 po0 a).2.2 a (rtF st tg0 po0 a).1) := by rw [rtF_s, if_pos ⟨q, by omega⟩]
      rw [e1, e2, h1]
      dsimp only
      refine ⟨rfl, fun j hj => ?_, fun t ht bt => ?_⟩
      · by_cases e : j = (rdF st tgM a).1
        · rw [e, un_s, un_s]
          exact ⟨by simp [upd], rfl, by omega, q⟩
        · obtain ⟨a1, a2, a3, a4⟩ := h2 j (by omega)
          rw [un_n e, un_n (by omega : (rdF st tgM a).2 j ≠ a)]
          exact ⟨by simp only [upd, if_neg e]; exact a1, a2, by omega, a4⟩
      · by_cases e : t = a
        · rw [e, un_s, un_s]; exact ⟨by omega, rfl⟩
        · obtain ⟨b1, b2⟩ := h3 t (by omega) bt
          rw [un_n e, un_n (by omega : (rtF st tg0 po0 a).2.2 t ≠ (rdF st tgM a).1)]
          exact ⟨by omega, b2⟩
def shX (st sz : Nat) (tg po : Nat → Nat) : Prop := sz ≤ 8 ∧ (∀ j, j < sz → po (tg j) = j ∧ tg j < 12 ∧ st.testBit (tg j) = true) ∧ (∀ t, t < 12 → st.testBit t = true → po t < sz ∧ tg (po t) = t)
theorem sd_i {tg : Nat → Nat} {p t : Nat} : ∀ n, sdF tg p t n = true ↔ ∃ j, j < n ∧ p.testBit j = true ∧ tg j = t := by
  intro n
  induction n with
  | zero => simp [sdF]
  | succ n ih =>
    simp only [sdF, Bool.or_eq_true, decide_eq_true_eq, ih]
    constructor
    · rintro (⟨j, h1, h2⟩ | h)
      · exact ⟨j, by omega, h2⟩
      · exact ⟨n, by omega, h⟩
    · rintro ⟨j, h1, h2⟩
      by_cases e : j = n
      · subst e; exact Or.inr h2
      · exact Or.inl ⟨j, by omega, h2⟩
/-- sums of trusts -/
theorem ac3 (a b c : Int32) : a + b + c = a + c + b := by rw [Int32.add_assoc, Int32.add_comm b c, ← Int32.add_assoc]
theorem up_v {f : Nat → Int32} {o j : Nat} {t : Int32} : upd f o (f o + t) j = f j + (if o = j then t else 0) := by
  by_cases e : o = j
  · subst e; rw [if_pos rfl]; simp [upd]
  · rw [if_neg e, Int32.add_zero]; simp only [upd, if_neg (Ne.symm e)]
theorem it_a {c : Prop} [Decidable c] {X Y : Int32} : (if c then X + Y else 0) = (if c then X else 0) + (if c then Y else 0) := by
  by_cases h : c
  · rw [if_pos h, if_pos h, if_pos h]
  · rw [if_neg h, if_neg h, if_neg h, Int32.add_zero]
theorem it_n {c d : Prop} [Decidable c] [Decidable d] {t : Int32} : (if c then (if d then t else 0) else 0) = if c ∧ d then t else 0 := by
  by_cases h : c
  · by_cases g : d
    · rw [if_pos h, if_pos g, if_pos ⟨h, g⟩]
    · rw [if_pos h, if_neg g, if_neg (fun q => g q.2)]
  · rw [if_neg h, if_neg (fun q => h q.1)]
theorem it_c {c d : Prop} [Decidable c] [Decidable d] {t : Int32} (h : c ↔ d) : (if c then t else 0) = if d then t else 0 := by
  by_cases g : c
  · rw [if_pos g, if_pos (h.mp g)]
  · rw [if_neg g, if_neg (fun q => g (h.mpr q))]
section GL
variable {le re lf le' re' : Nat → Int32} {sz p nx o k : Nat} {t d : Int32}
theorem glF_l (hk : k < 8) (hn : nx < 8) : ∀ i, glF le re (upd lf (o * 8 + k) (lf (o * 8 + k) + t)) sz p nx i = glF le re lf sz p nx i + (if o < i ∧ p.testBit o = true ∧ k = nx then t else 0) := by
  intro i
  induction i with
  | zero => simp only [glF]; rw [if_neg (fun q => absurd q.1 (Nat.not_lt_zero _)), Int32.add_zero]
  | succ i ih =>
    simp only [glF]
    by_cases b : p.testBit i = true
    · rw [if_pos b, if_pos b, ih, up_v]
      by_cases e : o * 8 + k = i * 8 + nx
      · have e1 : o = i := by omega
        have e2 : k = nx := by omega
        rw [if_pos e, if_neg (by omega), if_pos ⟨by omega, by rw [e1]; exact b, e2⟩, Int32.add_zero, Int32.add_assoc]
      · rw [if_neg e, Int32.add_zero, ac3]
        congr 1
        apply it_c
        constructor
        · rintro ⟨q1, q2⟩; exact ⟨by omega, q2⟩
        · rintro ⟨q1, q2, q3⟩; exact ⟨by omega, q2, q3⟩
    · rw [if_neg b, if_neg b, ih]
      congr 1
      apply it_c
      constructor
      · rintro ⟨q1, q2⟩; exact ⟨by omega, q2⟩
      · rintro ⟨q1, q2, q3⟩
        have : o ≠ i := fun e => b (e ▸ q2)
        exact ⟨by omega, q2, q3⟩
theorem glF_g (h : gbF le' re' sz p nx = gbF le re sz p nx + d) : ∀ i, glF le' re' lf sz p nx i = glF le re lf sz p nx i + d := by
  intro i
  induction i with
  | zero => exact h
  | succ i ih =>
    simp only [glF]
    by_cases b : p.testBit i = true
    · rw [if_pos b, if_pos b, ih, ac3]
    · rw [if_neg b, if_neg b, ih]
theorem gbF_s : gbF le re sz p nx = (if p = 0 then le nx else 0) + (if p ||| 2 ^ nx = 2 ^ sz - 1 then re nx else 0) := by
  unfold gbF
  by_cases f : p ||| 2 ^ nx = 2 ^ sz - 1
  · rw [if_pos f, if_pos f]
  · rw [if_neg f, if_neg f, Int32.add_zero]
theorem gbF_2 : gbF (upd le o (le o + t)) re sz p nx = gbF le re sz p nx + (if p = 0 ∧ o = nx then t else 0) := by
  rw [gbF_s, gbF_s, up_v, it_a, ac3, it_n]
theorem gbF_3 : gbF le (upd re o (re o + t)) sz p nx = gbF le re sz p nx + (if p ||| 2 ^ nx = 2 ^ sz - 1 ∧ o = nx then t else 0) := by
  rw [gbF_s, gbF_s, up_v, it_a, ← Int32.add_assoc, it_n]
end GL
/-- what a thing brings, the class's way -/
def gV (T : trT) (sz p la nx : Nat) : Int32 := glF T.2.2.1 T.2.2.2 T.1 sz p nx sz + (if p = 0 then 0 else T.2.1 (la * 8 + nx))
def gC (s o k sz p la nx : Nat) : Prop := (s = 0 ∧ p.testBit o = true ∧ k = nx) ∨ (s = 1 ∧ p ≠ 0 ∧ ((o = nx ∧ k = la) ∨ (k = nx ∧ o = la))) ∨ (s = 2 ∧ p = 0 ∧ o = nx) ∨ (s = 3 ∧ p ||| 2 ^ nx = 2 ^ sz - 1 ∧ o = nx)
theorem gv_up {T : trT} {s o k sz p la nx : Nat} {t : Int32} (hs : s < 4) (ho : o < sz) (hk : k < sz) (hsz : sz ≤ 8) (hnx : nx < sz) (hla : la < sz) (hne : p ≠ 0 → la ≠ nx) : gV (atF s o k t T) sz p la nx = gV T sz p la nx + (@ite Int32 (gC s o k sz p la nx) (Classical.propDecidable _) t 0) := by
  have key : ∀ (c : Prop) (_ : Decidable c), (c ↔ gC s o k sz p la nx) → (if c then t else 0) = @ite Int32 (gC s o k sz p la nx) (Classical.propDecidable _) t 0 := by
    intro c _ h
    by_cases g : c
    · rw [if_pos g, if_pos (h.mp g)]
    · rw [if_neg g, if_neg (fun q => g (h.mpr q))]
  rcases (by omega : s = 0 ∨ s = 1 ∨ s = 2 ∨ s = 3) with e | e | e | e
  · rw [← key (o < sz ∧ p.testBit o = true ∧ k = nx) inferInstance (by
      unfold gC
      constructor
      · rintro ⟨_, q⟩; exact Or.inl ⟨e, q⟩
      · rintro (q | q | q | q)
        · exact ⟨ho, q.2⟩
        · exact absurd q.1 (by omega)
        · exact absurd q.1 (by omega)
        · exact absurd q.1 (by omega))]
    subst e
    show glF T.2.2.1 T.2.2.2 (upd T.1 (o * 8 + k) (T.1 (o * 8 + k) + t)) sz p nx sz + (if p = 0 then 0 else T.2.1 (la * 8 + nx)) = glF T.2.2.1 T.2.2.2 T.1 sz p nx sz + (if p = 0 then 0 else T.2.1 (la * 8 + nx)) + _
    rw [glF_l (by omega) (by omega), ac3]
  · rw [← key (p ≠ 0 ∧ ((o = nx ∧ k = la) ∨ (k = nx ∧ o = la))) inferInstance (by
      unfold gC
      constructor
      · intro q; exact Or.inr (Or.inl ⟨e, q⟩)
      · rintro (q | q | q | q)
        · exact absurd q.1 (by omega)
        · exact q.2
        · exact absurd q.1 (by omega)
        · exact absurd q.1 (by omega))]
    subst e
    show glF T.2.2.1 T.2.2.2 T.1 sz p nx sz + (if p = 0 then 0 else upd (upd T.2.1 (o * 8 + k) (T.2.1 (o * 8 + k) + t)) (k * 8 + o) (upd T.2.1 (o * 8 + k) (T.2.1 (o * 8 + k) + t) (k * 8 + o) + t) (la * 8 + nx)) = glF T.2.2.1 T.2.2.2 T.1 sz p nx sz + (if p = 0 then 0 else T.2.1 (la * 8 + nx)) + _
    by_cases hp : p = 0
    · rw [if_pos hp, if_pos hp, if_neg (fun q => q.1 hp), Int32.add_zero, Int32.add_zero]
    · have hn := hne hp
      rw [if_neg hp, if_neg hp, up_v, up_v]
      by_cases c1 : o * 8 + k = la * 8 + nx
      · rw [if_pos c1, if_neg (by omega), if_pos ⟨hp, Or.inr ⟨by omega, by omega⟩⟩, Int32.add_zero, Int32.add_assoc]
      · by_cases c2 : k * 8 + o = la * 8 + nx
        · rw [if_neg c1, if_pos c2, if_pos ⟨hp, Or.inl ⟨by omega, by omega⟩⟩, Int32.add_zero, Int32.add_assoc]
        · rw [if_neg c1, if_neg c2, if_neg (by rintro ⟨_, q | q⟩ <;> omega), Int32.add_zero, Int32.add_zero, Int32.add_zero]
  · rw [← key (p = 0 ∧ o = nx) inferInstance (by
      unfold gC
      constructor
      · intro q; exact Or.inr (Or.inr (Or.inl ⟨e, q⟩))
      · rintro (q | q | q | q)
        · exact absurd q.1 (by omega)
        · exact absurd q.1 (by omega)
        · exact q.2
        · exact absurd q.1 (by omega))]
    subst e
    show glF (upd T.2.2.1 o (T.2.2.1 o + t)) T.2.2.2 T.1 sz p nx sz + (if p = 0 then 0 else T.2.1 (la * 8 + nx)) = glF T.2.2.1 T.2.2.2 T.1 sz p nx sz + (if p = 0 then 0 else T.2.1 (la * 8 + nx)) + _
    rw [glF_g gbF_2, ac3]
  · rw [← key (p ||| 2 ^ nx = 2 ^ sz - 1 ∧ o = nx) inferInstance (by
      unfold gC
      constructor
      · intro q; exact Or.inr (Or.inr (Or.inr ⟨e, q⟩))
      · rintro (q | q | q | q)
        · exact absurd q.1 (by omega)
        · exact absurd q.1 (by omega)
        · exact absurd q.1 (by omega)
        · exact q.2)]
    subst e
    show glF T.2.2.1 (upd T.2.2.2 o (T.2.2.2 o + t)) T.1 sz p nx sz + (if p = 0 then 0 else T.2.1 (la * 8 + nx)) = glF T.2.2.1 T.2.2.2 T.1 sz p nx sz + (if p = 0 then 0 else T.2.1 (la * 8 + nx)) + _
    rw [glF_g gbF_3, ac3]
theorem gl_0 {le re lf : Nat → Int32} {sz p nx : Nat} (hn : nx < 8) (h0 : ∀ j, j < 8 → le j = 0 ∧ re j = 0) (hl : ∀ j, j < 64 → lf j = 0) : ∀ i, i ≤ 8 → glF le re lf sz p nx i = 0 := by
  intro i
  induction i with
  | zero =>
    intro _
    show gbF le re sz p nx = 0
    rw [gbF_s, (h0 nx hn).1, (h0 nx hn).2]
    (repeat' split) <;> rfl
  | succ i ih =>
    intro h
    simp only [glF]
    rw [ih (by omega), hl (i * 8 + nx) (by omega)]
    split <;> rfl
section SE
variable {st sz n : Nat} {so xx yy tr tg po : Nat → Nat} {T0 : trT}
theorem se_w {p L la nx : Nat} (X : shX st sz tg po) (bso : ∀ j, j < 40 → so j < 4) (bxx : ∀ j, j < 40 → xx j < 12) (byy : ∀ j, j < 40 → yy j < 12) (hyx : ∀ j, j < n → 2 ≤ so j → yy j = xx j) (hn : n ≤ 40) (h0 : ∀ j, j < 8 → T0.2.2.1 j = 0 ∧ T0.2.2.2 j = 0) (h1 : ∀ j, j < 64 → T0.1 j = 0 ∧ T0.2.1 j = 0)
    (hnx : nx < sz) (hb : ¬ p.testBit nx = true) (hla : la < sz) (hL : (p = 0 ∧ L = 0) ∨ (p ≠ 0 ∧ L = la + 1 ∧ p.testBit la = true)) : ∀ a, a ≤ n → gV (twF st so xx yy tr po T0 a).2 sz p la nx = nI (wnF st so xx yy tr tg sz p L nx a) := by
  obtain ⟨x1, x2, x3⟩ := X
  intro a
  induction a with
  | zero =>
    intro _
    show glF T0.2.2.1 T0.2.2.2 T0.1 sz p nx sz + (if p = 0 then 0 else T0.2.1 (la * 8 + nx)) = 0
    rw [gl_0 (by omega) h0 (fun j hj => (h1 j hj).1) sz x1, (h1 (la * 8 + nx) (by omega)).2]
    split <;> rfl
  | succ a ih =>
    intro ha
    have e := ih (by omega)
    have hne : p ≠ 0 → la ≠ nx := by
      intro hp ee
      rcases hL with q | q
      · exact hp q.1
      · rw [ee] at q; exact hb q.2.2
    rw [twF_s]
    simp only [wnF]
    by_cases on : st.testBit (xx a) = true ∧ st.testBit (yy a) = true
    · obtain ⟨ox, ex⟩ := x3 (xx a) (bxx a (by omega)) on.1
      obtain ⟨oy, ey⟩ := x3 (yy a) (byy a (by omega)) on.2
      rw [if_pos on]
      show gV (atF (so a) (po (xx a)) (po (yy a)) (nI (tr a)) (twF st so xx yy tr po T0 a).2) sz p la nx = _
      rw [gv_up (bso a (by omega)) ox oy x1 hnx hla hne, e, ← nI_add]
      congr 1
      have ix : xx a = tg nx ↔ po (xx a) = nx := ⟨fun q => by rw [q]; exact (x2 nx hnx).1, fun q => by rw [← q]; exact ex.symm⟩
      have iy : yy a = tg nx ↔ po (yy a) = nx := ⟨fun q => by rw [q]; exact (x2 nx hnx).1, fun q => by rw [← q]; exact ey.symm⟩
      have jx : xx a = tg la ↔ po (xx a) = la := ⟨fun q => by rw [q]; exact (x2 la hla).1, fun q => by rw [← q]; exact ex.symm⟩
      have jy : yy a = tg la ↔ po (yy a) = la := ⟨fun q => by rw [q]; exact (x2 la hla).1, fun q => by rw [← q]; exact ey.symm⟩
      have is : sdF tg p (xx a) sz = true ↔ p.testBit (po (xx a)) = true := by
        rw [sd_i]
        constructor
        · rintro ⟨j, q1, q2, q3⟩
          rw [← q3, (x2 j q1).1]; exact q2
        · intro q; exact ⟨po (xx a), ox, q, ex⟩
      have c : gC (so a) (po (xx a)) (po (yy a)) sz p la nx ↔ wnB st so xx yy tg sz p L nx a = true := by
        rw [wnB_i]
        unfold gC wnC
        constructor
        · intro q
          refine ⟨on.1, Or.inr on.2, ?_⟩
          rcases q with ⟨q1, q2, q3⟩ | ⟨q1, q2, q3⟩ | ⟨q1, q2, q3⟩ | ⟨q1, q2, q3⟩
          · exact Or.inl ⟨q1, iy.mpr q3, is.mpr q2⟩
          · rcases hL with w | ⟨_, w, _⟩
            · exact absurd w.1 q2
            · refine Or.inr (Or.inl ⟨q1, by omega, ?_⟩)
              rw [w, Nat.add_sub_cancel]
              rcases q3 with ⟨r1, r2⟩ | ⟨r1, r2⟩
              · exact Or.inl ⟨ix.mpr r1, jy.mpr r2⟩
              · exact Or.inr ⟨iy.mpr r1, jx.mpr r2⟩
          · exact Or.inr (Or.inr (Or.inl ⟨q1, ix.mpr q3, q2⟩))
          · exact Or.inr (Or.inr (Or.inr ⟨q1, ix.mpr q3, q2⟩))
        · rintro ⟨_, _, q⟩
          rcases q with ⟨q1, q2, q3⟩ | ⟨q1, q2, q3⟩ | ⟨q1, q2, q3⟩ | ⟨q1, q2, q3⟩
          · exact Or.inl ⟨q1, is.mp q3, iy.mp q2⟩
          · rcases hL with w | ⟨w0, w, _⟩
            · exfalso; omega
            · refine Or.inr (Or.inl ⟨q1, w0, ?_⟩)
              rw [w, Nat.add_sub_cancel] at q3
              rcases q3 with ⟨r1, r2⟩ | ⟨r1, r2⟩
              · exact Or.inl ⟨ix.mp r1, jy.mp r2⟩
              · exact Or.inr ⟨iy.mp r1, jx.mp r2⟩
          · exact Or.inr (Or.inr (Or.inl ⟨q1, q3, ix.mp q2⟩))
          · exact Or.inr (Or.inr (Or.inr ⟨q1, q3, ix.mp q2⟩))
      by_cases g : gC (so a) (po (xx a)) (po (yy a)) sz p la nx
      · rw [if_pos g, if_pos (c.mp g)]
      · rw [if_neg g, if_neg (fun q => g (c.mpr q))]; rfl
    · rw [if_neg on, if_neg, e]
      · rfl
      · intro q
        obtain ⟨q1, q2, _⟩ := wnB_i.mp q
        rcases q2 with w | w
        · exact on ⟨q1, by rw [hyx a (by omega) w]; exact q1⟩
        · exact on ⟨q1, w⟩
theorem to_e {po' : Nat → Nat} {T : trT} (hyx : ∀ j, j < n → 2 ≤ so j → yy j = xx j) : ∀ a, a ≤ n → (twF st so xx yy tr po' T a).1 = nI (toF st so xx yy tr a) := by
  intro a
  induction a with
  | zero => intro _; rfl
  | succ a ih =>
    intro ha
    rw [twF_s]
    simp only [toF]
    by_cases on : st.testBit (xx a) = true ∧ st.testBit (yy a) = true
    · rw [if_pos on, if_pos (by unfold toB; exact decide_eq_true ⟨on.1, Or.inr on.2⟩), ← nI_add, ← ih (by omega)]
    · rw [if_neg on, if_neg, ih (by omega)]
      · rfl
      · intro q
        unfold toB at q
        obtain ⟨q1, q2⟩ := of_decide_eq_true q
        rcases q2 with w | w
        · exact on ⟨q1, by rw [hyx a (by omega) w]; exact q1⟩
        · exact on ⟨q1, w⟩
theorem gaF_at {le re lf gn : Nat → Int32} {p : Nat} : ∀ a j, j < a → gaF le re lf sz p gn a j = glF le re lf sz p j sz := by
  intro a
  induction a with
  | zero => intro j h; exact absurd h (Nat.not_lt_zero _)
  | succ a ih =>
    intro j h
    simp only [gaF]
    by_cases e : j = a
    · subst e; simp [upd]
    · simp only [upd, if_neg e]; exact ih j (by omega)
end SE
/-- the states, both ways -/
def hVS (st sz n : Nat) (so xx yy tr tg : Nat → Nat) (T : trT) : Prop := ∀ p L la nx, p < 2 ^ sz → nx < sz → ¬ p.testBit nx = true → la < sz → ((p = 0 ∧ L = 0) ∨ (p ≠ 0 ∧ L = la + 1 ∧ p.testBit la = true)) → gV T sz p la nx = nI (wnF st so xx yy tr tg sz p L nx n)
def BSi (st sz n : Nat) (so xx yy tr tg : Nat → Nat) (w : Nat) (bs : Nat → Int32) : Prop := ∀ q, w < q → q < 2 ^ sz → ∀ la, la < sz → q.testBit la = true → bs (q * 8 + la) = nI (RS st so xx yy tr tg sz n q (la + 1))
section DP
variable {st sz n : Nat} {so xx yy tr tg : Nat → Nat} {T : trT} {bs gn : Nat → Int32} {p L la : Nat}
theorem va_e {nx : Nat} (hV : hVS st sz n so xx yy tr tg T) (hB : BSi st sz n so xx yy tr tg p bs) (hp : p < 2 ^ sz) (hnx : nx < sz) (hb : ¬ p.testBit nx = true) (hla : la < sz) (hL : (p = 0 ∧ L = 0) ∨ (p ≠ 0 ∧ L = la + 1 ∧ p.testBit la = true)) : vaF (gaF T.2.2.1 T.2.2.2 T.1 sz p gn sz) bs T.2.1 p la nx = nI (vS st so xx yy tr tg sz n p L nx) := by
  have e := hV p L la nx hp hnx hb hla hL
  have e2 := hB (p ||| 2 ^ nx) (or_gt hb) (or_ps hp hnx) nx hnx (by rw [Nat.testBit_or, Nat.testBit_two_pow_self]; simp)
  unfold vaF vS
  rw [gaF_at sz nx hnx, e2, ← nI_add, ← e]
  unfold gV
  by_cases h : p = 0
  · rw [if_pos h, if_pos h, Int32.add_zero]
  · rw [if_neg h, if_neg h, ac3]
theorem ws_e (hV : hVS st sz n so xx yy tr tg T) (hB : BSi st sz n so xx yy tr tg p bs) (hp : p < 2 ^ sz) (hla : la < sz) (hL : (p = 0 ∧ L = 0) ∨ (p ≠ 0 ∧ L = la + 1 ∧ p.testBit la = true)) (ht : ∀ j, j < 40 → tr j ≤ 9) (hn : n ≤ 40) : ∀ i, i ≤ sz → wsF (gaF T.2.2.1 T.2.2.2 T.1 sz p gn sz) bs T.2.1 p la i = nI (mxF (vS st so xx yy tr tg sz n p L) p i) := by
  intro i
  induction i with
  | zero => intro _; rfl
  | succ i ih =>
    intro hi
    simp only [wsF, mxF]
    by_cases b : p.testBit i = true
    · rw [if_pos b, if_pos b]; exact ih (by omega)
    · have b1 := mxF_le (p := p) (vS_le (st := st) (so := so) (xx := xx) (yy := yy) (tg := tg) (sh := sz) (p := p) (L := L) ht hn) i
      have b2 := vS_le (st := st) (so := so) (xx := xx) (yy := yy) (tg := tg) (sh := sz) (p := p) (L := L) ht hn i
      rw [if_neg b, if_neg b, ih (by omega), va_e hV hB hp (by omega) b hla hL]
      exact nv_max rfl rfl (by omega) (by omega)
theorem wl_e (hV : hVS st sz n so xx yy tr tg T) (hsz : sz ≤ 8) (hB : BSi st sz n so xx yy tr tg p bs) (hp : p < 2 ^ sz) (h0 : p ≠ 0) (ht : ∀ j, j < 40 → tr j ≤ 9) (hn : n ≤ 40) : ∀ i, i ≤ sz → BSi st sz n so xx yy tr tg p (wlF (gaF T.2.2.1 T.2.2.2 T.1 sz p gn sz) T.2.1 sz p bs i) ∧ ∀ la, la < i → p.testBit la = true → wlF (gaF T.2.2.1 T.2.2.2 T.1 sz p gn sz) T.2.1 sz p bs i (p * 8 + la) = nI (RS st so xx yy tr tg sz n p (la + 1)) := by
  intro i
  induction i with
  | zero => intro _; exact ⟨hB, fun la h => absurd h (Nat.not_lt_zero _)⟩
  | succ i ih =>
    intro hi
    obtain ⟨q1, q2⟩ := ih (by omega)
    simp only [wlF]
    by_cases b : p.testBit i = true
    · rw [if_pos b]
      have e := ws_e (gn := gn) (la := i) (L := i + 1) hV q1 hp (by omega) (Or.inr ⟨h0, rfl, b⟩) ht hn sz (Nat.le_refl _)
      rw [← RS_s hsz hp] at e
      refine ⟨fun q r1 r2 la r3 r4 => ?_, fun la r1 r2 => ?_⟩
      · simp only [upd, if_neg (by omega : ¬ q * 8 + la = p * 8 + i)]
        exact q1 q r1 r2 la r3 r4
      · by_cases c : la = i
        · subst c; simp only [upd, if_pos]; exact e
        · simp only [upd, if_neg (by omega : ¬ p * 8 + la = p * 8 + i)]
          exact q2 la (by omega) r2
    · rw [if_neg b]
      refine ⟨q1, fun la r1 r2 => ?_⟩
      have : la ≠ i := fun c => b (c ▸ r2)
      exact q2 la (by omega) r2
theorem wt_e (hV : hVS st sz n so xx yy tr tg T) (hsz : sz ≤ 8) (ht : ∀ j, j < 40 → tr j ≤ 9) (hn : n ≤ 40) : ∀ w (U : (Nat → Int32) × (Nat → Int32)), w < 2 ^ sz → BSi st sz n so xx yy tr tg w U.1 → BSi st sz n so xx yy tr tg 0 (wtF T.2.2.1 T.2.2.2 T.1 T.2.1 sz w U).1 := by
  intro w
  induction w with
  | zero => intro U _ h; exact h
  | succ w ih =>
    intro U hw hB
    simp only [wtF]
    apply ih _ (by omega)
    obtain ⟨q1, q2⟩ := wl_e (gn := U.2) hV hsz hB hw (by omega) ht hn sz (Nat.le_refl _)
    intro q r1 r2 la r3 r4
    by_cases e : q = w + 1
    · subst e; exact q2 la r3 r4
    · exact q1 q (by omega) r2 la r3 r4
theorem wz_v {w : Nat} {b : Nat → Int32} : ∀ i la, la < i → wzF w b i (w * 8 + la) = 0 := by
  intro i
  induction i with
  | zero => intro la h; exact absurd h (Nat.not_lt_zero _)
  | succ i ih =>
    intro la h
    simp only [wzF]
    by_cases e : la = i
    · subst e; simp [upd]
    · simp only [upd, if_neg (by omega : ¬ w * 8 + la = w * 8 + i)]; exact ih la (by omega)
theorem wz_e {b : Nat → Int32} : BSi st sz n so xx yy tr tg (2 ^ sz - 1 - 1) (wzF (2 ^ sz - 1) b sz) := by
  intro q h1 h2 la h3 _
  have e : q = 2 ^ sz - 1 := by omega
  subst e
  rw [wz_v sz la h3]
  show (0 : Int32) = nI (rsF _ sz 256 (2 ^ sz - 1) (la + 1))
  rw [rsF_all rfl]
  rfl
/-- the first thing that brings the most, both ways -/
theorem fb_fs {be : Nat → Int32} {m : Nat} {v : Nat → Nat} (hm : m < 100000) (hb : ∀ j, v j < 100000) {B : Nat} (hv : ∀ j, j < B → ¬ p.testBit j = true → vaF gn bs be p la j = nI (v j)) : ∀ f i, i + f ≤ B → (∃ j, i ≤ j ∧ j < i + f ∧ ¬ p.testBit j = true ∧ v j = m) → fbF gn bs be p la (nI m) f i = fsF v p m f i ∧ i ≤ fsF v p m f i ∧ fsF v p m f i < i + f ∧ ¬ p.testBit (fsF v p m f i) = true := by
  intro f
  induction f with
  | zero => rintro i _ ⟨j, h1, h2, _⟩; omega
  | succ f ih =>
    rintro i hB ⟨j, h1, h2, h3, h4⟩
    have go : (p.testBit i = true ∨ v i ≠ m) → (∃ j, i + 1 ≤ j ∧ j < i + 1 + f ∧ ¬ p.testBit j = true ∧ v j = m) := by
      intro q
      have : j ≠ i := by
        intro e
        subst e
        rcases q with q | q
        · exact h3 q
        · exact q h4
      exact ⟨j, by omega, by omega, h3, h4⟩
    simp only [fbF, fsF]
    by_cases b : p.testBit i = true
    · rw [if_pos b, if_pos b]
      obtain ⟨r1, r2, r3, r4⟩ := ih (i + 1) (by omega) (go (Or.inl b))
      exact ⟨r1, by omega, by omega, r4⟩
    · rw [if_neg b, if_neg b, hv i (by omega) b]
      by_cases c : v i = m
      · rw [if_pos c, if_pos (by rw [c])]
        exact ⟨rfl, Nat.le_refl _, by omega, b⟩
      · rw [if_neg c, if_neg (fun q => c ((nI_8 (hb i) hm).mp q))]
        obtain ⟨r1, r2, r3, r4⟩ := ih (i + 1) (by omega) (go (Or.inr c))
        exact ⟨r1, by omega, by omega, r4⟩
theorem tr_e {tgI to : Nat → Int32} {rw0 : Nat → Int32} (hV : hVS st sz n so xx yy tr tg T) (hsz : sz ≤ 8) (hpos : 0 < sz) (hB : BSi st sz n so xx yy tr tg 0 bs) (ht : ∀ j, j < 40 → tr j ≤ 9) (hn : n ≤ 40) (htg : ∀ j, j < sz → tgI j = nI (tg j)) : ∀ a, a ≤ sz →
    (trF T.2.2.1 T.2.2.2 T.1 T.2.1 bs tgI sz gn to a).1 = (rwF st so xx yy tr tg sz n rw0 a).1 ∧ (trF T.2.2.1 T.2.2.2 T.1 T.2.1 bs tgI sz gn to a).1 < 2 ^ sz ∧ popN (trF T.2.2.1 T.2.2.2 T.1 T.2.1 bs tgI sz gn to a).1 = a ∧ (trF T.2.2.1 T.2.2.2 T.1 T.2.1 bs tgI sz gn to a).2.1 < sz ∧
    (((trF T.2.2.1 T.2.2.2 T.1 T.2.1 bs tgI sz gn to a).1 = 0 ∧ (rwF st so xx yy tr tg sz n rw0 a).2.1 = 0) ∨ ((trF T.2.2.1 T.2.2.2 T.1 T.2.1 bs tgI sz gn to a).1 ≠ 0 ∧ (rwF st so xx yy tr tg sz n rw0 a).2.1 = (trF T.2.2.1 T.2.2.2 T.1 T.2.1 bs tgI sz gn to a).2.1 + 1 ∧ (trF T.2.2.1 T.2.2.2 T.1 T.2.1 bs tgI sz gn to a).1.testBit (trF T.2.2.1 T.2.2.2 T.1 T.2.1 bs tgI sz gn to a).2.1 = true)) ∧
    ∀ j, j < a → (trF T.2.2.1 T.2.2.2 T.1 T.2.1 bs tgI sz gn to a).2.2.2 j = (rwF st so xx yy tr tg sz n rw0 a).2.2 j := by
  have pw := pw8 sz hsz
  intro a
  induction a with
  | zero => intro _; exact ⟨rfl, by simp [trF]; omega, by simp only [trF]; exact pop_0, hpos, Or.inl ⟨rfl, rfl⟩, fun j h => absurd h (Nat.not_lt_zero _)⟩
  | succ a ih =>
    intro ha
    obtain ⟨h1, h2, h3, h4, h5, h6⟩ := ih (by omega)
    simp only [trF, rwF]
    generalize hs : trF T.2.2.1 T.2.2.2 T.1 T.2.1 bs tgI sz gn to a = s at *
    generalize hr : rwF st so xx yy tr tg sz n rw0 a = r at *
    have nf : s.1 < 2 ^ sz - 1 := by
      rcases Nat.lt_or_ge s.1 (2 ^ sz - 1) with q | q
      · exact q
      · have e : s.1 = 2 ^ sz - 1 := by omega
        rw [e, pop_all0 sz (by omega)] at h3
        omega
    have hB' : BSi st sz n so xx yy tr tg s.1 bs := fun q q1 q2 => hB q (by omega) q2
    have we := ws_e (gn := s.2.2.1) hV hB' h2 h4 h5 ht hn sz (Nat.le_refl _)
    rw [← RS_s hsz h2] at we
    rw [we]
    obtain ⟨j, j1, j2, j3⟩ := RS_at (st := st) (so := so) (xx := xx) (yy := yy) (tr := tr) (tg := tg) (sh := sz) (nv := n) (L := r.2.1) hsz nf
    have bR := RS_le (st := st) (so := so) (xx := xx) (yy := yy) (tg := tg) (sh := sz) (p := s.1) (L := r.2.1) ht hn
    obtain ⟨r1, r2, r3, r4⟩ := fb_fs (gn := gaF T.2.2.1 T.2.2.2 T.1 sz s.1 s.2.2.1 sz) (bs := bs) (be := T.2.1) (p := s.1) (la := s.2.1) (m := RS st so xx yy tr tg sz n s.1 r.2.1) (v := vS st so xx yy tr tg sz n s.1 r.2.1) (by omega) (fun j => by have := vS_le (st := st) (so := so) (xx := xx) (yy := yy) (tg := tg) (sh := sz) (p := s.1) (L := r.2.1) ht hn j; omega) (B := sz) (fun j q1 q2 => va_e hV hB' h2 q1 q2 h4 h5) sz 0 (by omega) ⟨j, Nat.zero_le _, by omega, j2, j3⟩
    rw [r1, ← h1]
    generalize fsF (vS st so xx yy tr tg sz n s.1 r.2.1) s.1 (RS st so xx yy tr tg sz n s.1 r.2.1) sz 0 = k at *
    have kb : k < sz := by omega
    refine ⟨rfl, or_ps h2 kb, by rw [pop_or0 s.1 (by omega) k (by omega) r4, h3], kb, Or.inr ⟨?_, rfl, ?_⟩, fun j hj => ?_⟩
    · have := or_gt r4; omega
    · rw [Nat.testBit_or, Nat.testBit_two_pow_self]; simp
    · by_cases e : j = a
      · subst e; simp only [upd, if_pos]; exact htg k kb
      · simp only [upd, if_neg e]; exact h6 j (by omega)
end DP
/-- what a rebuilt shelf holds is what the reference finds -/
theorem sh_S {st sz n : Nat} {so xx yy tr : Nat → Nat} {tt su : Int32} {to : Nat → Int32} (hok : SHok st so xx yy tr n sz tt su to) (h12 : st < 4096) (h0 : st ≠ 0) (hp : popN st ≤ 8) (bso : ∀ j, j < 40 → so j < 4) (bxx : ∀ j, j < 40 → xx j < 12) (byy : ∀ j, j < 40 → yy j < 12) (btr : ∀ j, j < 40 → tr j ≤ 9) (hyx : ∀ j, j < n → 2 ≤ so j → yy j = xx j) (hn : n ≤ 40) (tg : Nat → Nat) (rw0 : Nat → Int32) :
    sz = (rdF st tg 12).1 ∧ su = nI (RS st so xx yy tr (rdF st tg 12).2 (rdF st tg 12).1 n 0 0) ∧ tt = nI (toF st so xx yy tr n) ∧ ∀ j, j < sz → to j = (rwF st so xx yy tr (rdF st tg 12).2 (rdF st tg 12).1 n rw0 (rdF st tg 12).1).2.2 j := by
  obtain ⟨tg0, po0, tg1, po1, lf0, be0, le0, re0, T1, bs0, gg0, bs1, gg1, to0, _, e1, z1, z2, e2, e3, e4, e5, e6⟩ := hok
  obtain ⟨r1, r2, r3⟩ := rt_rd (tg0 := tg0) (po0 := po0) (tgM := tg) hp 12 (Nat.le_refl _)
  have rp := rtF_pos (tg := tg0) (po := po0) h12 h0
  rw [← e1] at r1 r2 r3 rp
  dsimp only at r1 r2 r3 rp
  have l1 := rdF_len (st := st) (tg := tg) 12
  rw [← popL] at l1
  generalize (rdF st tg 12).1 = s9 at *
  generalize (rdF st tg 12).2 = t9 at *
  subst r1
  have hsz : sz ≤ 8 := by omega
  have X : shX st sz t9 po1 := ⟨hsz, fun j hj => ⟨(r2 j hj).2.1, (r2 j hj).2.2⟩, r3⟩
  have eT : T1 = (twF st so xx yy tr po1 (lf0, be0, le0, re0) n).2 := congrArg Prod.snd e2
  have et : tt = (twF st so xx yy tr po1 (lf0, be0, le0, re0) n).1 := congrArg Prod.fst e2
  have hV : hVS st sz n so xx yy tr t9 T1 := by
    intro p L la nx hp1 hnx hb hla hL
    rw [eT]
    exact se_w X bso bxx byy hyx hn (T0 := (lf0, be0, le0, re0)) z2 z1 hnx hb hla hL n (Nat.le_refl _)
  have pw := pw8 sz hsz
  have hB : BSi st sz n so xx yy tr t9 0 bs1 := by
    rw [e3]
    exact wt_e hV hsz btr hn _ _ (by omega) wz_e
  refine ⟨rfl, ?_, ?_, ?_⟩
  · rw [e5, e4, ws_e hV hB (by omega) rp (Or.inl ⟨rfl, rfl⟩) btr hn sz (Nat.le_refl _), ← RS_s hsz (by omega)]
  · rw [et]; exact to_e hyx n (Nat.le_refl _)
  · intro j hj
    rw [e6]
    exact (tr_e hV hsz rp hB btr hn (fun j hj => (r2 j hj).1) sz (Nat.le_refl _)).2.2.2.2.2 j hj
theorem sh_R {st sz n : Nat} {so xx yy tr : Nat → Nat} {tt su : Int32} {to : Nat → Int32} (hok : SHok st so xx yy tr n sz tt su to) (h12 : st < 4096) (h0 : st ≠ 0) (hp : popN st ≤ 8) (bso : ∀ j, j < 40 → so j < 4) (bxx : ∀ j, j < 40 → xx j < 12) (byy : ∀ j, j < 40 → yy j < 12) (btr : ∀ j, j < 40 → tr j ≤ 9) (hyx : ∀ j, j < n → 2 ≤ so j → yy j = xx j) (hn : n ≤ 40) (tg : Nat → Nat) (rw0 : Nat → Int32) (k : Int32) : (if 0 ≤ k.toInt ∧ k.toInt < (sz : Int) then to (tn k) else -9) = (if (0 ≤ k.toInt ∧ k.toInt < ((rdF st tg 12).1 : Int)) then ((rwF st so xx yy tr (rdF st tg 12).2 (rdF st tg 12).1 n rw0 (rdF st tg 12).1).2.2 (tn k)) else -9) := by
  obtain ⟨s1, _, _, s4⟩ := sh_S hok h12 h0 hp bso bxx byy btr hyx hn tg rw0
  by_cases c : 0 ≤ k.toInt ∧ k.toInt < (sz : Int)
  · rw [if_pos c, if_pos (by rw [← s1]; exact c), s4 (tn k) (by unfold tn; omega)]
  · rw [if_neg c, if_neg (by rw [← s1]; exact c)]
abbrev jgP : Type := Nat → Int32 → Int32 → (Nat → Int32) → (Nat → Int32) → Nat → Prop
/-- all joinings -/
def iJs (G : xG) (Φ : jgP) (h : List va_E) : Prop := ∀ k, k < 16 → ∃ (su wa : Int32) (pt ce : Nat → Int32) (pv : Nat), h[13 + 3 * k]? = some (oB 4 (lG G (13 + 3 * k) su wa (nI pv))) ∧ h[13 + 3 * k + 1]? = some (aI 10 pt) ∧ h[13 + 3 * k + 2]? = some (aZ 10 ce) ∧ pB pt ∧ pv ≤ 600 ∧ Φ k su wa pt ce pv
def jT : jgP := fun _ _ _ _ _ _ => True
def jZ : jgP := fun _ _ _ _ _ pv => pv = 0
theorem iJs_w {G : xG} {Φ Ψ : jgP} {h : List va_E} (hJ : iJs G Φ h) (hw : ∀ k su wa pt ce pv, Φ k su wa pt ce pv → Ψ k su wa pt ce pv) : iJs G Ψ h := by
  intro k hk
  obtain ⟨su, wa, pt, ce, pv, f0, f1, f2, hp, hv, hf⟩ := hJ k hk
  exact ⟨su, wa, pt, ce, pv, f0, f1, f2, hp, hv, hw _ _ _ _ _ _ hf⟩
theorem iJs_k {G : xG} {Φ : jgP} {h h1 : List va_E} (hJ : iJs G Φ h) (fr : ∀ j, 13 ≤ j → j < 61 → h1[j]? = h[j]?) : iJs G Φ h1 := by
  intro k hk
  obtain ⟨su, wa, pt, ce, pv, f0, f1, f2, hp, hv, hf⟩ := hJ k hk
  exact ⟨su, wa, pt, ce, pv, (fr _ (by omega) (by omega)).trans f0, (fr _ (by omega) (by omega)).trans f1, (fr _ (by omega) (by omega)).trans f2, hp, hv, hf⟩
theorem iJs_up {G : xG} {Φ : jgP} {h h1 : List va_E} {P k pv : Nat} {su wa : Int32} {pt ce : Nat → Int32} (hJ : iJs G Φ h) (hk : k < 16) (eP : P = 13 + 3 * k) (fr : ∀ j, 13 ≤ j → j < 61 → (j < P ∨ P + 2 < j) → h1[j]? = h[j]?)
    (f0 : h1[P]? = some (oB 4 (lG G P su wa (nI pv)))) (f1 : h1[P + 1]? = some (aI 10 pt)) (f2 : h1[P + 2]? = some (aZ 10 ce)) (hp : pB pt) (hv : pv ≤ 600) (hf : Φ k su wa pt ce pv) : iJs G Φ h1 := by
  intro j hj
  by_cases e : j = k
  · subst e; subst eP
    exact ⟨su, wa, pt, ce, pv, f0, f1, f2, hp, hv, hf⟩
  · obtain ⟨su', wa', pt', ce', pv', g0, g1, g2, q1, q2, q3⟩ := hJ j hj
    exact ⟨su', wa', pt', ce', pv', (fr _ (by omega) (by omega) (by omega)).trans g0, (fr _ (by omega) (by omega) (by omega)).trans g1, (fr _ (by omega) (by omega) (by omega)).trans g2, q1, q2, q3⟩
/-- the bits of the bars -/
def tB (Ba : Nat → Int64) (x y : Nat) : Bool := (Ba x).toBitVec.getLsbD y
theorem sm40 : ∀ g, g < 40 → (((nI g).toInt64 &&& 63).toBitVec.smod 64) = BitVec.ofNat 64 g := by decide +kernel
theorem sh40 : ∀ g, g < 40 → ((1 : Int64) <<< ((nI g).toInt64 &&& 63)).toBitVec = BitVec.twoPow 64 g := by decide +kernel
theorem cmp0 (x : Int64) : lg_cmp x 0 = 0 ↔ x = 0 := by
  unfold lg_cmp
  constructor
  · intro h
    split at h
    · exact absurd h (by decide)
    · split at h
      · assumption
      · exact absurd h (by decide)
  · intro h
    rw [h, if_neg (by decide), if_pos rfl]
theorem and1_64 (v : BitVec 64) : v &&& 1#64 = 0#64 ↔ v.getLsbD 0 = false := by
  constructor
  · intro h
    have q := congrArg (fun z : BitVec 64 => z.getLsbD 0) h
    simpa using q
  · intro h
    apply BitVec.eq_of_getLsbD_eq
    intro i hi
    rw [BitVec.getLsbD_and, BitVec.getLsbD_zero, BitVec.getLsbD_one]
    by_cases e : i = 0
    · subst e; rw [h]; rfl
    · simp [e]
theorem bar_t {Ba : Nat → Int64} {x y : Nat} (hy : y < 40) : ¬ barF Ba x (nI y) = 0 ↔ tB Ba x y = true := by
  have e1 : ((Ba x >>> ((nI y).toInt64 &&& 63)) &&& 1) = 0 ↔ tB Ba x y = false := by
    rw [← Int64.toBitVec_inj]
    show ((Ba x).toBitVec.sshiftRight' (((nI y).toInt64 &&& 63).toBitVec.smod 64)) &&& 1#64 = 0#64 ↔ _
    rw [sm40 y hy, and1_64]
    unfold tB
    show ((Ba x).toBitVec.sshiftRight (BitVec.ofNat 64 y).toNat).getLsbD 0 = false ↔ _
    rw [BitVec.getLsbD_sshiftRight, BitVec.toNat_ofNat, Nat.mod_eq_of_lt (by omega : y < 2 ^ 64), if_pos (by omega)]
    simp
  unfold barF
  by_cases h : tB Ba x y = true
  · rw [if_neg (by rw [cmp0, e1, h]; decide)]
    exact ⟨fun _ => h, fun _ => by decide⟩
  · have h2 : tB Ba x y = false := by cases q : tB Ba x y with
      | false => rfl
      | true => exact absurd q h
    rw [if_pos (by rw [cmp0, e1]; exact h2)]
    exact ⟨fun q => absurd rfl q, fun q => absurd q h⟩
theorem or_40 {A : Int64} {f y : Nat} (hf : f < 40) (hy : y < 40) : (A ||| (1 : Int64) <<< ((nI f).toInt64 &&& 63)).toBitVec.getLsbD y = (A.toBitVec.getLsbD y || decide (f = y)) := by
  show (A.toBitVec ||| ((1 : Int64) <<< ((nI f).toInt64 &&& 63)).toBitVec).getLsbD y = _
  rw [sh40 f hf, BitVec.getLsbD_or, BitVec.getLsbD_twoPow]
  congr 1
  by_cases e : f = y
  · subst e; simp; omega
  · simp [e]
theorem tB_up {Ba : Nat → Int64} {e f x y : Nat} (he : e < 40) (hf : f < 40) (hef : e ≠ f) (hy : y < 40) : tB (baU Ba e f) x y = true ↔ tB Ba x y = true ∨ ((x = e ∧ y = f) ∨ (x = f ∧ y = e)) := by
  unfold tB baU vp_updL
  by_cases h1 : x = f
  · subst h1
    rw [if_pos rfl, if_neg (Ne.symm hef), or_40 he hy]
    simp only [Bool.or_eq_true, decide_eq_true_eq]
    constructor
    · rintro (q | q)
      · exact Or.inl q
      · exact Or.inr (Or.inr ⟨trivial, q.symm⟩)
    · rintro (q | ⟨q, _⟩ | ⟨_, q⟩)
      · exact Or.inl q
      · exact absurd q.symm hef
      · exact Or.inr q.symm
  · rw [if_neg h1]
    by_cases h2 : x = e
    · subst h2
      rw [if_pos rfl, or_40 hf hy]
      simp only [Bool.or_eq_true, decide_eq_true_eq]
      constructor
      · rintro (q | q)
        · exact Or.inl q
        · exact Or.inr (Or.inl ⟨trivial, q.symm⟩)
      · rintro (q | ⟨_, q⟩ | ⟨q, _⟩)
        · exact Or.inl q
        · exact Or.inr q.symm
        · exact absurd q hef
    · rw [if_neg h2]
      constructor
      · exact Or.inl
      · rintro (q | ⟨q, _⟩ | ⟨q, _⟩)
        · exact q
        · exact absurd q h2
        · exact absurd q h1
theorem brF_i {b1 b2 : Nat → Nat} {x y : Nat} : ∀ n, brF b1 b2 x y n = true ↔ ∃ k, k < n ∧ ((b1 k = x ∧ b2 k = y) ∨ (b1 k = y ∧ b2 k = x)) := by
  intro n
  induction n with
  | zero => simp [brF]
  | succ n ih =>
    simp only [brF, Bool.or_eq_true, decide_eq_true_eq, ih]
    constructor
    · rintro (⟨k, h1, h2⟩ | h)
      · exact ⟨k, by omega, h2⟩
      · exact ⟨n, by omega, h⟩
    · rintro ⟨k, h1, h2⟩
      by_cases e : k = n
      · subst e; exact Or.inr h2
      · exact Or.inl ⟨k, by omega, h2⟩
theorem brF_up {b1 b2 : Nat → Nat} {e f x y n : Nat} : brF (un b1 n e) (un b2 n f) x y (n + 1) = true ↔ brF b1 b2 x y n = true ∨ ((x = e ∧ y = f) ∨ (x = f ∧ y = e)) := by
  rw [brF_i, brF_i]
  constructor
  · rintro ⟨k, h1, h2⟩
    by_cases q : k = n
    · subst q
      rw [un_s, un_s] at h2
      rcases h2 with ⟨a, b⟩ | ⟨a, b⟩
      · exact Or.inr (Or.inl ⟨a.symm, b.symm⟩)
      · exact Or.inr (Or.inr ⟨b.symm, a.symm⟩)
    · rw [un_n q, un_n q] at h2
      exact Or.inl ⟨k, by omega, h2⟩
  · rintro (⟨k, h1, h2⟩ | h)
    · refine ⟨k, by omega, ?_⟩
      rw [un_n (by omega), un_n (by omega)]
      exact h2
    · refine ⟨n, by omega, ?_⟩
      rw [un_s, un_s]
      rcases h with ⟨a, b⟩ | ⟨a, b⟩
      · exact Or.inl ⟨a.symm, b.symm⟩
      · exact Or.inr ⟨b.symm, a.symm⟩
/-- both sides' bars are the same -/
def bRel (Ba : Nat → Int64) (b1 b2 : Nat → Nat) (nb : Nat) : Prop := ∀ x, x < 40 → ∀ y, y < 40 → (tB Ba x y = true ↔ brF b1 b2 x y nb = true)
theorem bRel_0 {b1 b2 : Nat → Nat} : bRel (fun _ => 0) b1 b2 0 := fun x _ y _ => by
  constructor
  · intro h
    unfold tB at h
    rw [show ((0 : Int64)).toBitVec = 0#64 from rfl, BitVec.getLsbD_zero] at h
    exact absurd h (by decide)
  · intro h; exact absurd h (by simp [brF])
theorem spB_c {fi : Nat → Nat} {nb : Nat} {p q : Prop} [Decidable p] [Decidable q] {a i b k : Int32} (h : (((0 ≤ a.toInt ∧ a.toInt < 4) ∧ 0 ≤ i.toInt ∧ i.toInt < (fi (tn a) : Int)) ∧ ((0 ≤ b.toInt ∧ b.toInt < 4) ∧ 0 ≤ k.toInt ∧ k.toInt < (fi (tn b) : Int)) ∧ a.toInt ≠ b.toInt) → (p ↔ q)) : spBarA fi nb p a i b k = spBarA fi nb q a i b k := by
  unfold spBarA
  split
  · rename_i c
    have w := h c
    by_cases e : p
    · rw [if_pos e, if_pos (w.mp e)]
    · rw [if_neg e, if_neg (fun z => e (w.mpr z))]
  · rfl
section BR
variable {Ba : Nat → Int64} {fi b1 b2 : Nat → Nat} {nb : Nat} {a i b k : Int32}
theorem bar_x (hfi : ∀ j, j < 4 → fi j < 11) (h : ((0 ≤ a.toInt ∧ a.toInt < 4) ∧ 0 ≤ i.toInt ∧ i.toInt < (fi (tn a) : Int)) ∧ ((0 ≤ b.toInt ∧ b.toInt < 4) ∧ 0 ≤ k.toInt ∧ k.toInt < (fi (tn b) : Int)) ∧ a.toInt ≠ b.toInt) : tn a * 10 + tn i < 40 ∧ tn b * 10 + tn k < 40 ∧ tn a * 10 + tn i ≠ tn b * 10 + tn k := by
  have ha := hfi (tn a) (by unfold tn; omega)
  have hb := hfi (tn b) (by unfold tn; omega)
  unfold tn at *
  omega
theorem bar_c (hfi : ∀ j, j < 4 → fi j < 11) (hB : bRel Ba b1 b2 nb) : spBarA fi nb (¬ barF Ba (tn a * 10 + tn i) (nI (tn b * 10 + tn k)) = 0) a i b k = spBarA fi nb (brF b1 b2 (tn a * 10 + tn i) (tn b * 10 + tn k) nb = true) a i b k := by
  apply spB_c
  intro h
  obtain ⟨h1, h2, _⟩ := bar_x hfi h
  rw [bar_t h2]
  exact hB _ h1 _ h2
theorem bar_v {p : Prop} [Decidable p] (h : spBarA fi nb p a i b k = 1) : ((0 ≤ a.toInt ∧ a.toInt < 4) ∧ 0 ≤ i.toInt ∧ i.toInt < (fi (tn a) : Int)) ∧ ((0 ≤ b.toInt ∧ b.toInt < 4) ∧ 0 ≤ k.toInt ∧ k.toInt < (fi (tn b) : Int)) ∧ a.toInt ≠ b.toInt := by
  unfold spBarA at h
  split at h
  · assumption
  · exact absurd h (by decide)
theorem bRel_up {p : Prop} [Decidable p] (hfi : ∀ j, j < 4 → fi j < 11) (hB : bRel Ba b1 b2 nb) : bRel (spBa (spBarA fi nb p a i b k = 1) Ba (tn a * 10 + tn i) (tn b * 10 + tn k)) (spUn (spBarA fi nb p a i b k = 1) b1 nb (tn a * 10 + tn i)) (spUn (spBarA fi nb p a i b k = 1) b2 nb (tn b * 10 + tn k)) (spN (spBarA fi nb p a i b k = 1) nb (nb + 1)) := by
  by_cases q : spBarA fi nb p a i b k = 1
  · obtain ⟨h1, h2, h3⟩ := bar_x hfi (bar_v q)
    rw [spUn_y q, spUn_y q, spN_y q, show spBa (spBarA fi nb p a i b k = 1) Ba (tn a * 10 + tn i) (tn b * 10 + tn k) = baU Ba (tn a * 10 + tn i) (tn b * 10 + tn k) from if_pos q]
    intro x hx y hy
    rw [tB_up h1 h2 h3 hy, brF_up, hB x hx y hy]
  · rw [spUn_n q, spUn_n q, spN_n q, spBa_n q]
    exact hB
end BR
/-- the class's likeness is the likeness -/
theorem snF_r {se : Nat → Nat} {m : Nat → Nat} (hr : ∀ j, j < 20 → se j = root m j) {x : Int32} : ∀ k, k ≤ 20 → snF se x k = snF (root m) x k := by
  intro k
  induction k with
  | zero => intro _; rfl
  | succ k ih =>
    intro h
    simp only [snF]
    rw [ih (by omega), hr k (by omega)]
section LC
variable {m ye fi se b1 b2 : Nat → Nat} {W Sn Z Ro Co : Nat → Int32} {Ba : Nat → Int64} {nb sp fa : Nat}
theorem yv {x y c : Nat} (hx : x < 1901) (hy : y < 1901) (hfa : c ≤ 9) (h : y ≤ x) : (nI x - nI y) * nI c + 5 = nI ((max x y - min x y) * c + 5) := by
  rw [pk_sub h, pk_mul, show (5 : Int32) = nI 5 from rfl, nI_add]
  congr 2
  rw [show max x y - min x y = x - y by omega]
theorem fade_e {a i b k : Nat} (hye : ∀ j, j < 4 → ye j < 1901) (hfa : fa ≤ 9) (ha : a < 4) (hb : b < 4) (hi : i < 10) (hk : k < 10) : fadeC ye Co fa (a * 10 + i) (b * 10 + k) = 0 ↔ (flF ye Co a b (a * 10 + i) (b * 10 + k) < 0 ∨ nI (ynF ye fa a b) < flF ye Co a b (a * 10 + i) (b * 10 + k)) := by
  have h1 := hye a ha
  have h2 := hye b hb
  have e1 : (a * 10 + i) / 10 = a := by omega
  have e2 : (b * 10 + k) / 10 = b := by omega
  have c : (if nI (ye a) = nI (ye b) then ¬ nI b ≤ nI a else ¬ nI (ye b) ≤ nI (ye a)) ↔ (if ye a = ye b then a < b else ye a < ye b) := by
    have g1 := nv_eq (a := ye a) (b := ye b) rfl rfl (by omega) (by omega)
    have g2 := nv_le (a := b) (b := a) rfl rfl (by omega) (by omega)
    have g3 := nv_le (a := ye b) (b := ye a) rfl rfl (by omega) (by omega)
    by_cases q : ye a = ye b
    · rw [if_pos (g1.mpr q), if_pos q, g2]; omega
    · rw [if_neg (fun w => q (g1.mp w)), if_neg q, g3]; omega
  unfold fadeC flF ynF
  rw [e1, e2]
  by_cases w : (if ye a = ye b then a < b else ye a < ye b)
  · have w2 : ye a ≤ ye b := by
      by_cases q : ye a = ye b
      · omega
      · rw [if_neg q] at w; omega
    have y := yv (c := fa) h2 h1 hfa w2
    rw [Nat.max_comm, Nat.min_comm] at y
    rw [if_pos (c.mpr w), if_pos w, y]
    by_cases u : Co (a * 10 + i) - Co (b * 10 + k) < 0
    · rw [if_pos u]; exact ⟨fun _ => Or.inl u, fun _ => rfl⟩
    · rw [if_neg u]
      by_cases v : nI ((max (ye a) (ye b) - min (ye a) (ye b)) * fa + 5) < Co (a * 10 + i) - Co (b * 10 + k)
      · rw [if_pos v]; exact ⟨fun _ => Or.inr v, fun _ => rfl⟩
      · rw [if_neg v]; exact ⟨fun q => absurd q (by decide), fun q => (q.elim u v).elim⟩
  · have w2 : ye b ≤ ye a := by
      by_cases q : ye a = ye b
      · omega
      · rw [if_neg q] at w; omega
    have y := yv (c := fa) h1 h2 hfa w2
    rw [if_neg (fun q => w (c.mp q)), if_neg w, y]
    by_cases u : Co (b * 10 + k) - Co (a * 10 + i) < 0
    · rw [if_pos u]; exact ⟨fun _ => Or.inl u, fun _ => rfl⟩
    · rw [if_neg u]
      by_cases v : nI ((max (ye a) (ye b) - min (ye a) (ye b)) * fa + 5) < Co (b * 10 + k) - Co (a * 10 + i)
      · rw [if_pos v]; exact ⟨fun _ => Or.inr v, fun _ => rfl⟩
      · rw [if_neg v]; exact ⟨fun q => absurd q (by decide), fun q => (q.elim u v).elim⟩
theorem lkC_e {a i b k : Nat} (hr : ∀ j, j < 20 → se j = root m j) (hS : ∀ j, j < 40 → Sn j = snF se (W j) 20) (hB : bRel Ba b1 b2 nb) (hye : ∀ j, j < 4 → ye j < 1901) (hfa : fa ≤ 9) (ha : a < 4) (hb : b < 4) (hi : i < 10) (hk : k < 10) : likeC ye Sn Z Ro Co Ba sp fa (a * 10 + i) (b * 10 + k) = lkS ye (fun j => snF (root m) (W j) 20) Z Ro Co (brF b1 b2 (a * 10 + i) (b * 10 + k) nb = true) sp fa a i b k := by
  have s1 : Sn (a * 10 + i) = snF (root m) (W (a * 10 + i)) 20 := by rw [hS _ (by omega), snF_r hr 20 (Nat.le_refl _)]
  have s2 : Sn (b * 10 + k) = snF (root m) (W (b * 10 + k)) 20 := by rw [hS _ (by omega), snF_r hr 20 (Nat.le_refl _)]
  have fe := fade_e (Co := Co) (i := i) (k := k) hye hfa ha hb hi hk
  have be : ¬ barF Ba (a * 10 + i) (nI (b * 10 + k)) = 0 ↔ brF b1 b2 (a * 10 + i) (b * 10 + k) nb = true := by
    rw [bar_t (by omega)]; exact hB _ (by omega) _ (by omega)
  unfold likeC lkS
  show _ = if nI sp < apF Z (a * 10 + i) (b * 10 + k) ∨ snF (root m) (W (a * 10 + i)) 20 &&& snF (root m) (W (b * 10 + k)) 20 = 0 ∨ brF b1 b2 (a * 10 + i) (b * 10 + k) nb = true ∨ flF ye Co a b (a * 10 + i) (b * 10 + k) < 0 ∨ nI (ynF ye fa a b) < flF ye Co a b (a * 10 + i) (b * 10 + k) then 0 else _
  rw [← s1, ← s2]
  by_cases q1 : nI sp < apF Z (a * 10 + i) (b * 10 + k)
  · rw [if_pos q1, if_pos (Or.inl q1)]
  · rw [if_neg q1]
    by_cases q2 : Sn (a * 10 + i) &&& Sn (b * 10 + k) = 0
    · rw [if_pos q2, if_pos (Or.inr (Or.inl q2))]
    · rw [if_neg q2]
      by_cases q3 : barF Ba (a * 10 + i) (nI (b * 10 + k)) = 0
      · rw [if_pos q3]
        by_cases q4 : fadeC ye Co fa (a * 10 + i) (b * 10 + k) = 0
        · rw [if_pos q4, if_pos (Or.inr (Or.inr (Or.inr (fe.mp q4))))]
        · have no : ¬ (nI sp < apF Z (a * 10 + i) (b * 10 + k) ∨ Sn (a * 10 + i) &&& Sn (b * 10 + k) = 0 ∨ brF b1 b2 (a * 10 + i) (b * 10 + k) nb = true ∨ flF ye Co a b (a * 10 + i) (b * 10 + k) < 0 ∨ nI (ynF ye fa a b) < flF ye Co a b (a * 10 + i) (b * 10 + k)) := by
            rintro (w | w | w | w)
            · exact q1 w
            · exact q2 w
            · exact (be.mpr w) q3
            · exact q4 (fe.mpr w)
          rw [if_neg q4, if_neg no]
          have p : lpS (fun j => snF (root m) (W j) 20) Z Ro (a * 10 + i) (b * 10 + k) = (if Ro (a * 10 + i) = Ro (b * 10 + k) then 10 * bcF (Sn (a * 10 + i) &&& Sn (b * 10 + k)) - 2 * bcF (Sn (a * 10 + i) ^^^ Sn (b * 10 + k)) - apF Z (a * 10 + i) (b * 10 + k) + 7 else 10 * bcF (Sn (a * 10 + i) &&& Sn (b * 10 + k)) - 2 * bcF (Sn (a * 10 + i) ^^^ Sn (b * 10 + k)) - apF Z (a * 10 + i) (b * 10 + k)) := by
            unfold lpS
            show 10 * bcF (snF (root m) (W (a * 10 + i)) 20 &&& snF (root m) (W (b * 10 + k)) 20) - 2 * bcF (snF (root m) (W (a * 10 + i)) 20 ^^^ snF (root m) (W (b * 10 + k)) 20) - apF Z (a * 10 + i) (b * 10 + k) + _ = _
            rw [← s1, ← s2]
            by_cases r : Ro (a * 10 + i) = Ro (b * 10 + k)
            · rw [if_pos r, if_pos r]
            · rw [if_neg r, if_neg r, Int32.add_zero]
          rw [p]
      · rw [if_neg q3, if_pos (Or.inr (Or.inr (Or.inl (be.mp q3))))]
theorem like_E {a i b k : Int32} (hr : ∀ j, j < 20 → se j = root m j) (hS : ∀ j, j < 40 → Sn j = snF se (W j) 20) (hB : bRel Ba b1 b2 nb) (hye : ∀ j, j < 4 → ye j < 1901) (hfa : fa ≤ 9) (hfi : ∀ j, j < 4 → fi j < 11) : (if (((0 ≤ a.toInt ∧ a.toInt < 4) ∧ 0 ≤ i.toInt ∧ i.toInt < (fi (tn a) : Int)) ∧ ((0 ≤ b.toInt ∧ b.toInt < 4) ∧ 0 ≤ k.toInt ∧ k.toInt < (fi (tn b) : Int)) ∧ a.toInt ≠ b.toInt) then likeC ye Sn Z Ro Co Ba sp fa (tn a * 10 + tn i) (tn b * 10 + tn k) else -1) = (if (((0 ≤ a.toInt ∧ a.toInt < 4) ∧ 0 ≤ i.toInt ∧ i.toInt < (fi (tn a) : Int)) ∧ ((0 ≤ b.toInt ∧ b.toInt < 4) ∧ 0 ≤ k.toInt ∧ k.toInt < (fi (tn b) : Int)) ∧ a.toInt ≠ b.toInt) then lkS ye (fun j => snF (root m) (W j) 20) Z Ro Co (brF b1 b2 (tn a * 10 + tn i) (tn b * 10 + tn k) nb = true) sp fa (tn a) (tn i) (tn b) (tn k) else -1) := by
  by_cases c : (((0 ≤ a.toInt ∧ a.toInt < 4) ∧ 0 ≤ i.toInt ∧ i.toInt < (fi (tn a) : Int)) ∧ ((0 ≤ b.toInt ∧ b.toInt < 4) ∧ 0 ≤ k.toInt ∧ k.toInt < (fi (tn b) : Int)) ∧ a.toInt ≠ b.toInt)
  · have ha : tn a < 4 := by unfold tn; omega
    have hb : tn b < 4 := by unfold tn; omega
    have h1 := hfi _ ha
    have h2 := hfi _ hb
    have hi : tn i < 10 := by unfold tn at *; omega
    have hk : tn k < 10 := by unfold tn at *; omega
    rw [if_pos c, if_pos c, lkC_e hr hS hB hye hfa ha hb hi hk]
  · rw [if_neg c, if_neg c]
end LC
/-- joinings told: good as long as the version stays -/
def jX (lx : Nat → Nat → Nat → Nat → Nat) (fi : Nat → Nat) (ve : Nat) : jgP := fun k su wa pt ce pv => pv ≤ ve ∧ (pv = ve → jK (lx (k / 4) (k % 4)) (fi (k / 4)) (fi (k % 4)) su wa pt ce)
section JX
variable {lx lx' : Nat → Nat → Nat → Nat → Nat} {fi fi' : Nat → Nat} {ve ve1 a b k pv : Nat} {su wa : Int32} {pt ce : Nat → Int32}
theorem jX_g (h : jX lx fi ve (a * 4 + b) su wa pt ce pv) (hb : b < 4) : pv = ve → jK (lx a b) (fi a) (fi b) su wa pt ce := by
  intro e
  have q := h.2 e
  rw [show (a * 4 + b) / 4 = a by omega, show (a * 4 + b) % 4 = b by omega] at q
  exact q
theorem jX_at (h : jK (lx a b) (fi a) (fi b) su wa pt ce) (hb : b < 4) : jX lx fi ve (a * 4 + b) su wa pt ce ve := by
  refine ⟨Nat.le_refl _, fun _ => ?_⟩
  rw [show (a * 4 + b) / 4 = a by omega, show (a * 4 + b) % 4 = b by omega]
  exact h
theorem jX_z (hv : 1 ≤ ve) (h : pv = 0) : jX lx fi ve k su wa pt ce pv := ⟨by omega, fun e => by omega⟩
theorem jX_b (h : jX lx fi ve k su wa pt ce pv) (e : ve1 = ve + 1) : jX lx' fi' ve1 k su wa pt ce pv := ⟨by have := h.1; omega, fun q => by have := h.1; omega⟩
end JX
/-- a likeness is a small number -/
def lxF (m ye : Nat → Nat) (W Z Ro Co : Nat → Int32) (sp fa nb : Nat) (b1 b2 : Nat → Nat) (a b i k : Nat) : Nat := min 300 (jn (lkS ye (fun j => snF (root m) (W j) 20) Z Ro Co (brF b1 b2 (a * 10 + i) (b * 10 + k) nb = true) sp fa a i b k))
section LX
variable {m ye se fi b1 b2 : Nat → Nat} {W Sn Z Ro Co : Nat → Int32} {Ba : Nat → Int64} {sp fa nb : Nat}
theorem lxF_le (a b i k : Nat) : lxF m ye W Z Ro Co sp fa nb b1 b2 a b i k ≤ 300 := Nat.min_le_left _ _
theorem ap_n {e f : Nat} (h1 : ∃ z, z ≤ 200 ∧ Z e = nI z) (h2 : ∃ z, z ≤ 200 ∧ Z f = nI z) : ∃ z, z ≤ 200 ∧ apF Z e f = nI z := by
  obtain ⟨x, bx, ex⟩ := h1
  obtain ⟨y, by_, ey⟩ := h2
  refine ⟨max x y - min x y, by omega, ?_⟩
  unfold apF
  rw [ex, ey]
  exact ab_y (by omega) (by omega)
theorem i_arr (A C D E : Int32) : A - C - D + E = (A + E) - (C + D) := by
  rw [Int32.sub_eq_add_neg, Int32.sub_eq_add_neg, Int32.sub_eq_add_neg, Int32.neg_add, Int32.sub_eq_add_neg]
  ac_rfl
theorem lp_b {S : Nat → Int32} {e f : Nat} (hs1 : ∃ n, n < 1048576 ∧ S e = nI n) (hs2 : ∃ n, n < 1048576 ∧ S f = nI n) (ha : ∃ z, z ≤ 200 ∧ apF Z e f = nI z) : (if 1 < lpS S Z Ro e f then lpS S Z Ro e f else 1) = nI (jn (if 1 < lpS S Z Ro e f then lpS S Z Ro e f else 1)) ∧ jn (if 1 < lpS S Z Ro e f then lpS S Z Ro e f else 1) ≤ 300 := by
  obtain ⟨x, bx, ex⟩ := hs1
  obtain ⟨y, by_, ey⟩ := hs2
  obtain ⟨z, bz, ez⟩ := ha
  have b1 := pcF_le 20 (x &&& y)
  have b2 := pcF_le 20 (x ^^^ y)
  have q1 : x &&& y < 1048576 := Nat.lt_of_le_of_lt Nat.and_le_left bx
  have q2 : x ^^^ y < 1048576 := Nat.xor_lt_two_pow (n := 20) bx by_
  obtain ⟨w, bw, ew⟩ : ∃ w, w ≤ 7 ∧ (if Ro e = Ro f then (7 : Int32) else 0) = nI w := by
    split
    · exact ⟨7, by omega, rfl⟩
    · exact ⟨0, by omega, rfl⟩
  have e9 : lpS S Z Ro e f = nI (10 * pcF 20 (x &&& y) + w) - nI (2 * pcF 20 (x ^^^ y) + z) := by
    unfold lpS
    rw [ex, ey, nn_and, show nI x ^^^ nI y = nI (x ^^^ y) from nv_xor rfl rfl, bc_pc q1, bc_pc q2, ez, ew, show (10 : Int32) = nI 10 from rfl, show (2 : Int32) = nI 2 from rfl, pk_mul, pk_mul, ← nI_add, ← nI_add]
    exact i_arr _ _ _ _
  have t9 := pk_sub_toInt (a := 10 * pcF 20 (x &&& y) + w) (b := 2 * pcF 20 (x ^^^ y) + z) (by omega) (by omega)
  rw [← e9] at t9
  by_cases c : 1 < lpS S Z Ro e f
  · rw [if_pos c]
    rw [i_lt, show (1 : Int32).toInt = 1 from rfl] at c
    obtain ⟨u, bu, eu⟩ := i_nat (x := lpS S Z Ro e f) (N := 300) (by omega) (by omega)
    rw [eu, jn_nI (by omega)]
    exact ⟨rfl, by omega⟩
  · rw [if_neg c]
    exact ⟨by decide, by decide⟩
theorem lkS_n {a b i k : Nat} (hZ : ∀ j, j < 40 → ∃ z, z ≤ 200 ∧ Z j = nI z) (ha : a < 4) (hb : b < 4) (hi : i < 10) (hk : k < 10) : lkS ye (fun j => snF (root m) (W j) 20) Z Ro Co (brF b1 b2 (a * 10 + i) (b * 10 + k) nb = true) sp fa a i b k = nI (lxF m ye W Z Ro Co sp fa nb b1 b2 a b i k) := by
  have sn : ∀ j, ∃ n, n < 1048576 ∧ (fun j => snF (root m) (W j) 20) j = nI n := fun j => by
    obtain ⟨n, h1, h2⟩ := snF_nat (se := root m) (x := W j) rootlt 20 (Nat.le_refl _)
    exact ⟨n, h1, h2⟩
  have q := lp_b (S := fun j => snF (root m) (W j) 20) (e := a * 10 + i) (f := b * 10 + k) (Ro := Ro) (sn (a * 10 + i)) (sn (b * 10 + k)) (ap_n (hZ (a * 10 + i) (by omega)) (hZ (b * 10 + k) (by omega)))
  unfold lxF
  have key : ∀ v : Int32, v = nI (jn v) → jn v ≤ 300 → v = nI (min 300 (jn v)) := by
    intro v h1 h2
    rw [Nat.min_eq_right h2]; exact h1
  apply key
  · unfold lkS
    split
    · decide
    · exact q.1
  · unfold lkS
    split
    · decide
    · exact q.2
theorem hlx_C (hr : ∀ j, j < 20 → se j = root m j) (hS : ∀ j, j < 40 → Sn j = snF se (W j) 20) (hB : bRel Ba b1 b2 nb) (hye : ∀ j, j < 4 → ye j < 1901) (hfa : fa ≤ 9) (hfi : ∀ j, j < 4 → fi j < 11) (hZ : ∀ j, j < 40 → ∃ z, z ≤ 200 ∧ Z j = nI z) : ∀ a, a < 4 → ∀ b, b < 4 → ∀ i, i < fi a → ∀ k, k < fi b → likeC ye Sn Z Ro Co Ba sp fa (a * 10 + i) (b * 10 + k) = nI (lxF m ye W Z Ro Co sp fa nb b1 b2 a b i k) := by
  intro a ha b hb i hi k hk
  have h1 := hfi a ha
  have h2 := hfi b hb
  rw [lkC_e hr hS hB hye hfa ha hb (by omega) (by omega), lkS_n hZ ha hb (by omega) (by omega)]
theorem hlx_M (hfi : ∀ j, j < 4 → fi j < 11) (hZ : ∀ j, j < 40 → ∃ z, z ≤ 200 ∧ Z j = nI z) : ∀ a, a < 4 → ∀ b, b < 4 → ∀ i, i < fi a → ∀ k, k < fi b → lkS ye (fun j => snF (root m) (W j) 20) Z Ro Co (brF b1 b2 (a * 10 + i) (b * 10 + k) nb = true) sp fa a i b k = nI (lxF m ye W Z Ro Co sp fa nb b1 b2 a b i k) := by
  intro a ha b hb i hi k hk
  have h1 := hfi a ha
  have h2 := hfi b hb
  exact lkS_n hZ ha hb (by omega) (by omega)
end LX
theorem ve_b {ve ve1 : Nat} {U : Prop} (h : ve1 = ve + 1 ∨ (ve1 = ve ∧ U)) : ve ≤ ve1 ∧ ve1 ≤ ve + 1 := by
  rcases h with e | ⟨e, _⟩ <;> omega
set_option maxHeartbeats 4000000 in
theorem fc_J {l : Launch} {G : xG} {h : List va_E} {bv : Value} {J u v ro co : Nat} {rc : Nat → Nat} {lk bs wy nw : Nat → Int32} {m se ye fi : Nat → Nat} {W Sn Z Ro Co : Nat → Int32} {Ba : Nat → Int64} {nb sp fa ve : Nat} {lx : Nat → Nat → Nat → Nat → Nat} {a i y0 : Nat} {w : Int32} (h0 : h[0]? = some (oB 8 (lX G (.ref (G.1 + J)) (bv)))) (h1 : h[1]? = some (oB 1 (lC G (nI nb) (nI sp) (nI fa) (nI ve)))) (h2 : h[2]? = some (aI 20 (nA m))) (h3 : h[3]? = some (aI 20 (nA se))) (h4 : h[4]? = some (aI 4 (nA ye))) (h5 : h[5]? = some (aI 4 (nA fi))) (h6 : h[6]? = some (aI 40 W)) (h7 : h[7]? = some (aI 40 Sn)) (h8 : h[8]? = some (aI 40 Z)) (h9 : h[9]? = some (aI 40 Ro)) (h10 : h[10]? = some (aI 40 Co)) (h11 : h[11]? = some (aL 40 Ba)) (h12 : h[12]? = some (aR 16 (xjo G.1 16))) (hJ : h[J]? = some (oB 3 (lJ G J (.ref (G.1 + u)) (.ref (G.1 + v)) (nI ro) (nI co)))) (hJ_1 : h[J + 1]? = some (aI 100 lk)) (hJ_2 : h[J + 2]? = some (aI 11 (nA rc))) (hJ_3 : h[J + 3]? = some (aI 11264 bs)) (hu : h[u]? = some (aI 1024 wy)) (hv : h[v]? = some (aI 1024 nw)) (qu : J + 4 ≤ u ∧ u ≤ J + 5) (qv : J + 4 ≤ v ∧ v ≤ J + 5) (quv : (u ≠ v ∧ wZ wy nw)) (hrc : ∀ j, j < 11 → rc j < 1024) (hm : ∀ j, j < 20 → m j ≤ j) (hse : ∀ j, j < 20 → se j < 20) (hfi : ∀ j, j < 4 → fi j < 11) (hye : ∀ j, j < 4 → ye j < 1901) (ba : a < 4) (bi : i < 10) (bia : i < fi a) (qJ : 125 ≤ J) (bve : ve ≤ 600) (hJs : iJs G (jX lx fi ve) h) (hlx : ∀ a, a < 4 → ∀ b, b < 4 → ∀ i, i < fi a → ∀ k, k < fi b → likeC ye Sn Z Ro Co Ba sp fa (a * 10 + i) (b * 10 + k) = nI (lx a b i k)) (hlx3 : ∀ a b i k, lx a b i k ≤ 300) (g1 : 1 ≤ y0 % 10 ∧ y0 % 10 ≤ 4 ∧ y0 / 10 % 10 ≤ 4 ∧ y0 / 100 % 10 ≤ 4) (by0 : y0 < 1000) : CU l G yX8_followChain cX8_followChain 14 (some .int) 6 0 0 [.ref (G.1 + 0), .int (nI a), .int (nI i), .int (nI y0), .int w] h (fun r h1 => ∃ u1 : Nat, ∃ v1 : Nat, ∃ ro1 : Nat, ∃ co1 : Nat, ∃ rc1 : Nat → Nat, ∃ lk1 : Nat → Int32, ∃ bs1 : Nat → Int32, ∃ wy1 : Nat → Int32, ∃ nw1 : Nat → Int32, h1[J]? = some (oB 3 (lJ G J (.ref (G.1 + u1)) (.ref (G.1 + v1)) (nI ro1) (nI co1))) ∧ h1[J + 1]? = some (aI 100 lk1) ∧ h1[J + 2]? = some (aI 11 (nA rc1)) ∧ h1[J + 3]? = some (aI 11264 bs1) ∧ h1[u1]? = some (aI 1024 wy1) ∧ h1[v1]? = some (aI 1024 nw1) ∧ rg2 13 60 J (J + 5) h h1 ∧ (J + 4 ≤ u1 ∧ u1 ≤ J + 5) ∧ (J + 4 ≤ v1 ∧ v1 ≤ J + 5) ∧ (u1 ≠ v1 ∧ wZ wy1 nw1) ∧ (∀ j, j < 11 → rc1 j < 1024) ∧ iJs G (jX lx fi ve) h1 ∧ r = chR w (chV lx fi y0 3 a (nI i) 0 0)) := by
  refine cm_ofQ rfl (Nat.le_of_ble_eq_true rfl) [(0, .ref (G.1 + 0)), (1, .int (nI a)), (2, .int (nI i)), (3, .int (nI y0)), (4, .int w)] rfl (fun QF hQF => ?_)
  refine aw_iload_n 1 dX8_followChain_0 rfl rfl ?_
  refine aw_istore [(5, .int (nI a)), (0, .ref (G.1 + 0)), (1, .int (nI a)), (2, .int (nI i)), (3, .int (nI y0)), (4, .int w)] dX8_followChain_1 (by decide) rfl ?_
  refine aw_iload_n 3 dX8_followChain_3 rfl rfl ?_
  refine aw_istore [(6, .int (nI i)), (5, .int (nI a)), (0, .ref (G.1 + 0)), (1, .int (nI a)), (2, .int (nI i)), (3, .int (nI y0)), (4, .int w)] dX8_followChain_4 (by decide) rfl ?_
  refine aw_iconst (0) dX8_followChain_6 (by decide) ?_
  refine aw_istore [(7, .int 0), (6, .int (nI i)), (5, .int (nI a)), (0, .ref (G.1 + 0)), (1, .int (nI a)), (2, .int (nI i)), (3, .int (nI y0)), (4, .int w)] dX8_followChain_7 (by decide) rfl ?_
  refine aw_iconst (0) dX8_followChain_9 (by decide) ?_
  refine aw_istore [(8, .int 0), (7, .int 0), (6, .int (nI i)), (5, .int (nI a)), (0, .ref (G.1 + 0)), (1, .int (nI a)), (2, .int (nI i)), (3, .int (nI y0)), (4, .int w)] dX8_followChain_10 (by decide) rfl ?_
  refine aw_bipush (100) dX8_followChain_12 (by decide) ?_
  refine aw_istore [(9, .int 100), (8, .int 0), (7, .int 0), (6, .int (nI i)), (5, .int (nI a)), (0, .ref (G.1 + 0)), (1, .int (nI a)), (2, .int (nI i)), (3, .int (nI y0)), (4, .int w)] dX8_followChain_14 (by decide) rfl ?_
  refine aw_lv [(9, .int 100), (8, .int 0), (7, .int 0), (6, .int (nI i)), (5, .int (nI a)), (4, .int w), (3, .int (nI y0)), (0, .ref (G.1 + 0))] [0, 1, 2, 3, 4, 9, 8, 5] rfl ?_
  suffices L5644 : ∀ (mm : Nat) (x : Nat) (ev : Int32) (fr : Nat) (dv : Int32) (sv : Int32) (u1 : Nat) (v1 : Nat) (ro1 : Nat) (co1 : Nat) (rc1 : Nat → Nat) (lk1 : Nat → Int32) (bs1 : Nat → Int32) (wy1 : Nat → Int32) (nw1 : Nat → Int32) (h5623 : List va_E), x < mm → (x = 0 ∨ x = 1 ∨ x = 2 ∨ x = 3) → (ev = -9 ∨ ∃ q, q < 10 ∧ q < fi fr ∧ ev = nI q) → (fr < 4) → (J + 4 ≤ u1 ∧ u1 ≤ J + 5) → (J + 4 ≤ v1 ∧ v1 ≤ J + 5) → (u1 ≠ v1 ∧ wZ wy1 nw1) → (∀ j, j < 11 → rc1 j < 1024) → (iJs G (jX lx fi ve) h5623) → (chV lx fi y0 3 a (nI i) 0 0 = chV lx fi y0 x fr ev sv dv) → h5623[0]? = some (oB 8 (lX G (.ref (G.1 + J)) (bv))) → h5623[1]? = some (oB 1 (lC G (nI nb) (nI sp) (nI fa) (nI ve))) → h5623[2]? = some (aI 20 (nA m)) → h5623[3]? = some (aI 20 (nA se)) → h5623[4]? = some (aI 4 (nA ye)) → h5623[5]? = some (aI 4 (nA fi)) → h5623[6]? = some (aI 40 W) → h5623[7]? = some (aI 40 Sn) → h5623[8]? = some (aI 40 Z) → h5623[9]? = some (aI 40 Ro) → h5623[10]? = some (aI 40 Co) → h5623[11]? = some (aL 40 Ba) → h5623[12]? = some (aR 16 (xjo G.1 16)) → h5623[J]? = some (oB 3 (lJ G J (.ref (G.1 + u1)) (.ref (G.1 + v1)) (nI ro1) (nI co1))) → h5623[J + 1]? = some (aI 100 lk1) → h5623[J + 2]? = some (aI 11 (nA rc1)) → h5623[J + 3]? = some (aI 11264 bs1) → h5623[u1]? = some (aI 1024 wy1) → h5623[v1]? = some (aI 1024 nw1) → rg2 13 60 J (J + 5) h h5623 → AW l G yX8_followChain cX8_followChain 14 (some .int) (xR 6 0 0) (fun _ _ => True) QF 0 0 16 [(9, .int (nI (p10 x))), (8, .int dv), (7, .int sv), (6, .int ev), (5, .int (nI fr)), (4, .int w), (3, .int (nI y0)), (0, .ref (G.1 + 0))] [] h5623 from L5644 (3 + 1) 3 (nI i) a 0 0 u v ro co rc lk bs wy nw _ (Nat.lt_succ_self _) (by decide) (Or.inr ⟨_, bi, bia, rfl⟩) (ba) (qu) (qv) (quv) (hrc) (hJs) (rfl) h0 h1 h2 h3 h4 h5 h6 h7 h8 h9 h10 h11 h12 hJ hJ_1 hJ_2 hJ_3 hu hv (rg2_rf 13 60 J (J + 5) h)
  intro mm
  induction mm with
  | zero =>
    intro x ev fr dv sv u1 v1 ro1 co1 rc1 lk1 bs1 wy1 nw1 h5623 hmm hx he bfr hu1 hv1 huv1 hrc1 hJ1 hcv f5624 f5625 f5626 f5627 f5628 f5629 f5630 f5631 f5632 f5633 f5634 f5635 f5636 f5637 f5638 f5639 f5640 f5641 f5642 k5643
    exact absurd hmm (Nat.not_lt_zero _)
  | succ mm ih5644 =>
    intro x ev fr dv sv u1 v1 ro1 co1 rc1 lk1 bs1 wy1 nw1 h5623 hmm hx he bfr hu1 hv1 huv1 hrc1 hJ1 hcv f5624 f5625 f5626 f5627 f5628 f5629 f5630 f5631 f5632 f5633 f5634 f5635 f5636 f5637 f5638 f5639 f5640 f5641 f5642 k5643
    rcases hx with rfl | rfl | rfl | rfl
    · refine aw_lv [(9, .int 0), (8, .int dv), (7, .int sv), (6, .int ev), (5, .int (nI fr)), (4, .int w), (3, .int (nI y0)), (0, .ref (G.1 + 0))] [0, 1, 2, 3, 4, 5, 6, 7] rfl ?_
      refine aw_iload 0 dX8_followChain_16 rfl ?_
      refine aw_if_le 149 dX8_followChain_18 (by decide) (fun c18 => ?_) (fun c18 => absurd (by decide) c18)
      refine aw_iload 5 dX8_followChain_149 rfl ?_
      refine aw_if_ne 157 dX8_followChain_151 (by decide) (fun c151 => ?_) (fun c151 => ?_)
      · have d151 := mt (j_eq (a := w.toInt) (b := (0)) (rfl) (rfl)).mpr c151
        refine aw_iload 5 dX8_followChain_157 rfl ?_
        refine aw_iconst (1) dX8_followChain_159 (by decide) ?_
        refine aw_icmp_ne 168 dX8_followChain_160 (by decide) (fun c160 => ?_) (fun c160 => ?_)
        · have d160 := mt (j_eq (a := w.toInt) (b := (1)) (rfl) (rfl)).mpr c160
          refine aw_iload 1 dX8_followChain_168 rfl ?_
          subst hQF
          exact aw_iret rfl dX8_followChain_170 (by decide) (by decide) ⟨_, rfl, _, _, _, _, _, _, _, _, _, f5637, f5638, f5639, f5640, f5641, f5642, k5643, hu1, hv1, huv1, hrc1, hJ1, by rw [hcv, chV_z, chR_2 c151 c160]⟩
        · have d160 := (j_eq (a := w.toInt) (b := (1)) (rfl) (rfl)).mp c160
          refine aw_iload 2 dX8_followChain_163 rfl ?_
          refine aw_goto 170 dX8_followChain_165 (by decide) ?_
          subst hQF
          exact aw_iret rfl dX8_followChain_170 (by decide) (by decide) ⟨_, rfl, _, _, _, _, _, _, _, _, _, f5637, f5638, f5639, f5640, f5641, f5642, k5643, hu1, hv1, huv1, hrc1, hJ1, by rw [hcv, chV_z, chR_1 c151 c160]⟩
      · have d151 := (j_eq (a := w.toInt) (b := (0)) (rfl) (rfl)).mp c151
        refine aw_iload 3 dX8_followChain_154 rfl ?_
        subst hQF
        exact aw_iret rfl dX8_followChain_156 (by decide) (by decide) ⟨_, rfl, _, _, _, _, _, _, _, _, _, f5637, f5638, f5639, f5640, f5641, f5642, k5643, hu1, hv1, huv1, hrc1, hJ1, by rw [hcv, chV_z, chR_0 c151]⟩
    · refine aw_lv [(9, .int 1), (8, .int dv), (7, .int sv), (6, .int ev), (5, .int (nI fr)), (4, .int w), (3, .int (nI y0)), (0, .ref (G.1 + 0))] [0, 1, 2, 3, 4, 5, 6, 7] rfl ?_
      refine aw_iload 0 dX8_followChain_16 rfl ?_
      refine aw_if_le 149 dX8_followChain_18 (by decide) (fun c18 => absurd c18 (by decide)) (fun c18 => ?_)
      refine aw_iload 3 dX8_followChain_21 rfl ?_
      refine aw_bipush (-9) dX8_followChain_23 (by decide) ?_
      refine aw_icmp_eq 149 dX8_followChain_25 (by decide) (fun c25 => ?_) (fun c25 => ?_)
      · have d25 := (j_eq (a := ev.toInt) (b := (-9)) (rfl) (rfl)).mp c25
        refine aw_iload 5 dX8_followChain_149 rfl ?_
        refine aw_if_ne 157 dX8_followChain_151 (by decide) (fun c151 => ?_) (fun c151 => ?_)
        · have d151 := mt (j_eq (a := w.toInt) (b := (0)) (rfl) (rfl)).mpr c151
          refine aw_iload 5 dX8_followChain_157 rfl ?_
          refine aw_iconst (1) dX8_followChain_159 (by decide) ?_
          refine aw_icmp_ne 168 dX8_followChain_160 (by decide) (fun c160 => ?_) (fun c160 => ?_)
          · have d160 := mt (j_eq (a := w.toInt) (b := (1)) (rfl) (rfl)).mpr c160
            refine aw_iload 1 dX8_followChain_168 rfl ?_
            subst hQF
            exact aw_iret rfl dX8_followChain_170 (by decide) (by decide) ⟨_, rfl, _, _, _, _, _, _, _, _, _, f5637, f5638, f5639, f5640, f5641, f5642, k5643, hu1, hv1, huv1, hrc1, hJ1, by rw [hcv, c25, chV_9, chR_2 c151 c160]⟩
          · have d160 := (j_eq (a := w.toInt) (b := (1)) (rfl) (rfl)).mp c160
            refine aw_iload 2 dX8_followChain_163 rfl ?_
            refine aw_goto 170 dX8_followChain_165 (by decide) ?_
            subst hQF
            exact aw_iret rfl dX8_followChain_170 (by decide) (by decide) ⟨_, rfl, _, _, _, _, _, _, _, _, _, f5637, f5638, f5639, f5640, f5641, f5642, k5643, hu1, hv1, huv1, hrc1, hJ1, by rw [hcv, c25, chV_9, chR_1 c151 c160]⟩
        · have d151 := (j_eq (a := w.toInt) (b := (0)) (rfl) (rfl)).mp c151
          refine aw_iload 3 dX8_followChain_154 rfl ?_
          subst hQF
          exact aw_iret rfl dX8_followChain_156 (by decide) (by decide) ⟨_, rfl, _, _, _, _, _, _, _, _, _, f5637, f5638, f5639, f5640, f5641, f5642, k5643, hu1, hv1, huv1, hrc1, hJ1, by rw [hcv, c25, chV_9, chR_0 c151]⟩
      · have d25 := mt (j_eq (a := ev.toInt) (b := (-9)) (rfl) (rfl)).mpr c25
        obtain ⟨q, bq, bqf, rfl⟩ := he.resolve_left c25
        refine aw_iload_n 6 dX8_followChain_28 rfl rfl ?_
        refine aw_iload 0 dX8_followChain_29 rfl ?_
        refine aw_idiv dX8_followChain_31 (by decide) ?_
        refine aw_toe (nI (y0 / 1)) (nv_div (rfl) (rfl) (by omega) (by decide) (by decide)) ?_
        refine aw_bipush (10) dX8_followChain_32 (by decide) ?_
        refine aw_irem dX8_followChain_34 (by decide) ?_
        refine aw_toe (nI ((y0 / 1) % 10)) (nv_rem (rfl) (rfl) (by omega) (by decide) (by decide)) ?_
        refine aw_iconst (1) dX8_followChain_35 (by decide) ?_
        refine aw_isub dX8_followChain_36 ?_
        refine aw_istore [(10, .int ((nI ((y0 / 1) % 10)) - 1)), (9, .int 1), (8, .int dv), (7, .int sv), (6, .int (nI q)), (5, .int (nI fr)), (4, .int w), (3, .int (nI y0)), (0, .ref (G.1 + 0))] dX8_followChain_37 (by decide) rfl ?_
        refine aw_iload 0 dX8_followChain_39 rfl ?_
        refine aw_if_lt 139 dX8_followChain_41 (by decide) (fun c41 => ?_) (fun c41 => ?_)
        · have d41 := (j_lt (a := ((nI ((y0 / 1) % 10)) - 1).toInt) (b := (0)) (rfl) (rfl)).mp c41
          refine aw_iload 1 dX8_followChain_139 rfl ?_
          refine aw_bipush (10) dX8_followChain_141 (by decide) ?_
          refine aw_idiv dX8_followChain_143 (by decide) ?_
          refine aw_toe 0 (by decide) ?_
          refine aw_istore [(9, .int 0), (10, .int ((nI ((y0 / 1) % 10)) - 1)), (8, .int dv), (7, .int sv), (6, .int (nI q)), (5, .int (nI fr)), (4, .int w), (3, .int (nI y0)), (0, .ref (G.1 + 0))] dX8_followChain_144 (by decide) rfl ?_
          refine aw_goto 16 dX8_followChain_146 (by decide) ?_
          refine aw_lv [(9, .int 0), (8, .int dv), (7, .int sv), (6, .int (nI q)), (5, .int (nI fr)), (4, .int w), (3, .int (nI y0)), (0, .ref (G.1 + 0))] [0, 2, 3, 4, 5, 6, 7, 8] rfl ?_
          exact ih5644 0 (nI q) fr dv sv u1 v1 ro1 co1 rc1 lk1 bs1 wy1 nw1 _ (by omega) (by decide) (Or.inr ⟨_, bq, bqf, rfl⟩) (by omega) (hu1) (hv1) (huv1) (hrc1) (hJ1) (hcv.trans (chV_0 (by omega) (by rw [dig_i (by omega)] at d41; show y0 / 1 % 10 = 0; omega))) f5624 f5625 f5626 f5627 f5628 f5629 f5630 f5631 f5632 f5633 f5634 f5635 f5636 f5637 f5638 f5639 f5640 f5641 f5642 (k5643)
        · have d41 := mt (j_lt (a := ((nI ((y0 / 1) % 10)) - 1).toInt) (b := (0)) (rfl) (rfl)).mpr c41
          have g0 : 1 ≤ y0 / 1 % 10 := by rw [dig_i (by omega)] at d41; omega
          rw [dig_e g0]
          obtain ⟨su, wa, pt, ce, pv, gg0, gg1, gg2, hpt, bpv, hfz⟩ := hJ1 (fr * 4 + (y0 / 1 % 10 - 1)) (by omega)
          obtain ⟨P, eP⟩ : ∃ P, P = 13 + 3 * (fr * 4 + (y0 / 1 % 10 - 1)) := ⟨_, rfl⟩
          rw [← eP] at gg0 gg1 gg2
          refine aw_aload_n 8 dX8_followChain_44 rfl rfl ?_
          refine aw_iload 5 dX8_followChain_45 rfl ?_
          refine aw_iload 0 dX8_followChain_47 rfl ?_
          refine aw_eV [.int (nI fr), .int (nI (y0 / 1 % 10 - 1))] [] lX8_124 vX8_bestJoining mX8_bestJoining dX8_followChain_49 (bJ (bv := bv) (J := J) (u := u1) (v := v1) (ro := ro1) (co := co1) (rc := rc1) (lk := lk1) (bs := bs1) (wy := wy1) (nw := nw1) (P := P) (pv := pv) (su := su) (wa := wa) (pt := pt) (ce := ce) (m := m) (se := se) (ye := ye) (fi := fi) (W := W) (Sn := Sn) (Z := Z) (Ro := Ro) (Co := Co) (Ba := Ba) (nb := nb) (sp := sp) (fa := fa) (ve := ve) (a := fr) (b := y0 / 1 % 10 - 1) f5624 f5625 f5626 f5627 f5628 f5629 f5630 f5631 f5632 f5633 f5634 f5635 f5636 f5637 f5638 f5639 f5640 f5641 f5642 gg0 gg1 gg2 hu1 hv1 huv1 hrc1 (by omega) hm hse hfi hye (by omega) (by omega) (by omega) (by omega) hpt eP (hlx fr (by omega) (y0 / 1 % 10 - 1) (by omega)) (hlx3 fr (y0 / 1 % 10 - 1)) (by omega) (by omega) (jX_g hfz (by omega))) f5624 rfl rfl rfl (Nat.le_of_ble_eq_true rfl) (by decide) (by decide) rfl (fun h5659 q5658 => ?_)
          obtain ⟨u15645, v15646, ro15647, co15648, rc15649, lk15650, bs15651, wy15652, nw15653, su15654, wa15655, pt15656, ce15657, f5660, f5661, f5662, f5663, f5664, f5665, f5666, f5667, f5668, k5669, p5670, p5671, p5672, p5673, p5674, p5675⟩ := q5658
          have f5676 := rg2_at k5669 (by omega) f5624
          have f5677 := rg2_at k5669 (by omega) f5625
          have f5678 := rg2_at k5669 (by omega) f5626
          have f5679 := rg2_at k5669 (by omega) f5627
          have f5680 := rg2_at k5669 (by omega) f5628
          have f5681 := rg2_at k5669 (by omega) f5629
          have f5682 := rg2_at k5669 (by omega) f5630
          have f5683 := rg2_at k5669 (by omega) f5631
          have f5684 := rg2_at k5669 (by omega) f5632
          have f5685 := rg2_at k5669 (by omega) f5633
          have f5686 := rg2_at k5669 (by omega) f5634
          have f5687 := rg2_at k5669 (by omega) f5635
          have f5688 := rg2_at k5669 (by omega) f5636
          have hJ2 : iJs G (jX lx fi ve) h5659 := iJs_up hJ1 (k := fr * 4 + (y0 / 1 % 10 - 1)) (by omega) eP (fun j q1 q2 q3 => k5669.2 j (by omega)) f5666 f5667 f5668 p5674 bve (jX_at p5675 (by omega))
          refine aw_astore [(11, .ref (G.1 + P)), (10, .int (nI (y0 / 1 % 10 - 1))), (9, .int 1), (8, .int dv), (7, .int sv), (6, .int (nI q)), (5, .int (nI fr)), (4, .int w), (3, .int (nI y0)), (0, .ref (G.1 + 0))] dX8_followChain_52 (by decide) rfl ?_
          refine aw_aload 0 dX8_followChain_54 rfl ?_
          refine aw_get fX8_131 dX8_followChain_56 f5666 rfl ?_
          refine aw_iload 5 dX8_followChain_59 rfl ?_
          refine aw_iald q (rfl) (by omega) (by decide) dX8_followChain_61 f5667 ?_
          refine aw_istore [(12, .int (pt15656 q)), (11, .ref (G.1 + P)), (10, .int (nI (y0 / 1 % 10 - 1))), (9, .int 1), (8, .int dv), (7, .int sv), (6, .int (nI q)), (5, .int (nI fr)), (4, .int w), (3, .int (nI y0)), (0, .ref (G.1 + 0))] dX8_followChain_62 (by decide) rfl ?_
          refine aw_iload 0 dX8_followChain_64 rfl ?_
          refine aw_bipush (-9) dX8_followChain_66 (by decide) ?_
          refine aw_icmp_eq 131 dX8_followChain_68 (by decide) (fun c68 => ?_) (fun c68 => ?_)
          · have d68 := (j_eq (a := (pt15656 q).toInt) (b := (-9)) (rfl) (rfl)).mp c68
            refine aw_iload 2 dX8_followChain_131 rfl ?_
            refine aw_istore [(5, .int (nI (y0 / 1 % 10 - 1))), (12, .int (pt15656 q)), (11, .ref (G.1 + P)), (10, .int (nI (y0 / 1 % 10 - 1))), (9, .int 1), (8, .int dv), (7, .int sv), (6, .int (nI q)), (4, .int w), (3, .int (nI y0)), (0, .ref (G.1 + 0))] dX8_followChain_133 (by decide) rfl ?_
            refine aw_iload 1 dX8_followChain_135 rfl ?_
            refine aw_istore [(6, .int (pt15656 q)), (5, .int (nI (y0 / 1 % 10 - 1))), (12, .int (pt15656 q)), (11, .ref (G.1 + P)), (10, .int (nI (y0 / 1 % 10 - 1))), (9, .int 1), (8, .int dv), (7, .int sv), (4, .int w), (3, .int (nI y0)), (0, .ref (G.1 + 0))] dX8_followChain_137 (by decide) rfl ?_
            refine aw_iload 5 dX8_followChain_139 rfl ?_
            refine aw_bipush (10) dX8_followChain_141 (by decide) ?_
            refine aw_idiv dX8_followChain_143 (by decide) ?_
            refine aw_toe 0 (by decide) ?_
            refine aw_istore [(9, .int 0), (6, .int (pt15656 q)), (5, .int (nI (y0 / 1 % 10 - 1))), (12, .int (pt15656 q)), (11, .ref (G.1 + P)), (10, .int (nI (y0 / 1 % 10 - 1))), (8, .int dv), (7, .int sv), (4, .int w), (3, .int (nI y0)), (0, .ref (G.1 + 0))] dX8_followChain_144 (by decide) rfl ?_
            refine aw_goto 16 dX8_followChain_146 (by decide) ?_
            refine aw_lv [(9, .int 0), (8, .int dv), (7, .int sv), (6, .int (pt15656 q)), (5, .int (nI (y0 / 1 % 10 - 1))), (4, .int w), (3, .int (nI y0)), (0, .ref (G.1 + 0))] [0, 6, 7, 1, 2, 8, 9, 10] rfl ?_
            exact ih5644 0 (pt15656 q) (y0 / 1 % 10 - 1) dv sv u15645 v15646 ro15647 co15648 rc15649 lk15650 bs15651 wy15652 nw15653 _ (by omega) (by decide) (Or.inl c68) (by omega) (p5670) (p5671) (p5672) (p5673) (hJ2) (by rw [c68]; exact hcv.trans (chV_n (t := y0 / 1 % 10 - 1) (by omega) (by show ¬ y0 / 1 % 10 = 0; omega) rfl ((p5675.2.1 q (by omega)).symm.trans c68))) f5676 f5677 f5678 f5679 f5680 f5681 f5682 f5683 f5684 f5685 f5686 f5687 f5688 f5660 f5661 f5662 f5663 f5664 f5665 (rg2_tr (k5643) (rg2_w2 k5669 (by omega) (by omega)))
          · have d68 := mt (j_eq (a := (pt15656 q).toInt) (b := (-9)) (rfl) (rfl)).mpr c68
            obtain ⟨q2, bq2, eq2⟩ := (p5674 q (by omega)).resolve_left c68
            have fb9 := hfi (y0 / 1 % 10 - 1) (by omega)
            have hP := (p5675.2.1 q (by omega)).symm.trans eq2
            have bq2f := jP_lt (by omega) (by omega) hP
            rw [eq2]
            refine aw_iinc (j := 5) (sv + 1) [(7, .int (sv + 1)), (12, .int (nI q2)), (11, .ref (G.1 + P)), (10, .int (nI (y0 / 1 % 10 - 1))), (9, .int 1), (8, .int dv), (6, .int (nI q)), (5, .int (nI fr)), (4, .int w), (3, .int (nI y0)), (0, .ref (G.1 + 0))] dX8_followChain_71 rfl (by rfl) (by decide) rfl ?_
            refine aw_aload_n 10 dX8_followChain_74 rfl rfl ?_
            refine aw_get fX8_20 dX8_followChain_75 f5676 rfl ?_
            refine aw_iload 7 dX8_followChain_78 rfl ?_
            refine aw_bipush (10) dX8_followChain_80 (by decide) ?_
            refine aw_imul dX8_followChain_82 ?_
            refine aw_toe (nI (fr * 10)) (nv_mul (rfl) (rfl)) ?_
            refine aw_iload 6 dX8_followChain_83 rfl ?_
            refine aw_iadd dX8_followChain_85 ?_
            refine aw_toe (nI ((fr * 10) + q)) (nv_add (rfl) (rfl)) ?_
            refine aw_iload 3 dX8_followChain_86 rfl ?_
            refine aw_bipush (10) dX8_followChain_88 (by decide) ?_
            refine aw_imul dX8_followChain_90 ?_
            refine aw_toe (nI ((y0 / 1 % 10 - 1) * 10)) (nv_mul (rfl) (rfl)) ?_
            refine aw_iload 1 dX8_followChain_91 rfl ?_
            refine aw_iadd dX8_followChain_93 ?_
            refine aw_toe (nI (((y0 / 1 % 10 - 1) * 10) + q2)) (nv_add (rfl) (rfl)) ?_
            refine aw_dV [.int (nI ((fr * 10) + q)), .int (nI (((y0 / 1 % 10 - 1) * 10) + q2))] [] lX8_121 vX1_likeness mX1_likeness dX8_followChain_94 (aX1_likeness (m := m) (se := se) (ye := ye) (fi := fi) (W := W) (Sn := Sn) (Z := Z) (Ro := Ro) (Co := Co) (Ba := Ba) (nb := nb) (sp := sp) (fa := fa) (ve := ve) (e := (fr * 10) + q) (f := ((y0 / 1 % 10 - 1) * 10) + q2) f5677 f5678 f5679 f5680 f5681 f5682 f5683 f5684 f5685 f5686 f5687 hm hse hfi hye (by omega) (by omega)) f5677 rfl rfl rfl (Nat.le_of_ble_eq_true rfl) (by decide) (by decide) rfl ?_
            refine aw_toe (nI (lx fr (y0 / 1 % 10 - 1) q q2)) (hlx fr (by omega) (y0 / 1 % 10 - 1) (by omega) q (by omega) q2 (by omega)) ?_
            refine aw_istore [(13, .int (nI (lx fr (y0 / 1 % 10 - 1) q q2))), (7, .int (sv + 1)), (12, .int (nI q2)), (11, .ref (G.1 + P)), (10, .int (nI (y0 / 1 % 10 - 1))), (9, .int 1), (8, .int dv), (6, .int (nI q)), (5, .int (nI fr)), (4, .int w), (3, .int (nI y0)), (0, .ref (G.1 + 0))] dX8_followChain_97 (by decide) rfl ?_
            refine aw_iload 6 dX8_followChain_99 rfl ?_
            refine aw_iconst (0) dX8_followChain_101 (by decide) ?_
            refine aw_bipush (100) dX8_followChain_102 (by decide) ?_
            refine aw_iload 0 dX8_followChain_104 rfl ?_
            refine aw_isub dX8_followChain_106 ?_
            refine aw_mmax lX8_251 dX8_followChain_107 (Nat.le_of_ble_eq_true rfl) (by decide) (by decide) ?_
            refine aw_toe (chX (nI (lx fr (y0 / 1 % 10 - 1) q q2))) (rfl) ?_
            refine aw_aload 3 dX8_followChain_110 rfl ?_
            refine aw_get fX8_137 dX8_followChain_112 f5666 rfl ?_
            refine aw_iload 7 dX8_followChain_115 rfl ?_
            refine aw_zald q (rfl) (by omega) (by decide) dX8_followChain_117 f5668 ?_
            refine aw_if_eq 125 dX8_followChain_118 (by decide) (fun c118 => ?_) (fun c118 => ?_)
            · have d118 := (j_eq (a := (ce15657 q).toInt) (b := (0)) (rfl) (rfl)).mp c118
              refine aw_bipush (50) dX8_followChain_125 (by decide) ?_
              refine aw_iadd dX8_followChain_127 ?_
              refine aw_iadd dX8_followChain_128 ?_
              refine aw_istore [(8, .int (dv + ((chX (nI (lx fr (y0 / 1 % 10 - 1) q q2))) + 50))), (13, .int (nI (lx fr (y0 / 1 % 10 - 1) q q2))), (7, .int (sv + 1)), (12, .int (nI q2)), (11, .ref (G.1 + P)), (10, .int (nI (y0 / 1 % 10 - 1))), (9, .int 1), (6, .int (nI q)), (5, .int (nI fr)), (4, .int w), (3, .int (nI y0)), (0, .ref (G.1 + 0))] dX8_followChain_129 (by decide) rfl ?_
              refine aw_iload 5 dX8_followChain_131 rfl ?_
              refine aw_istore [(5, .int (nI (y0 / 1 % 10 - 1))), (8, .int (dv + ((chX (nI (lx fr (y0 / 1 % 10 - 1) q q2))) + 50))), (13, .int (nI (lx fr (y0 / 1 % 10 - 1) q q2))), (7, .int (sv + 1)), (12, .int (nI q2)), (11, .ref (G.1 + P)), (10, .int (nI (y0 / 1 % 10 - 1))), (9, .int 1), (6, .int (nI q)), (4, .int w), (3, .int (nI y0)), (0, .ref (G.1 + 0))] dX8_followChain_133 (by decide) rfl ?_
              refine aw_iload 4 dX8_followChain_135 rfl ?_
              refine aw_istore [(6, .int (nI q2)), (5, .int (nI (y0 / 1 % 10 - 1))), (8, .int (dv + ((chX (nI (lx fr (y0 / 1 % 10 - 1) q q2))) + 50))), (13, .int (nI (lx fr (y0 / 1 % 10 - 1) q q2))), (7, .int (sv + 1)), (12, .int (nI q2)), (11, .ref (G.1 + P)), (10, .int (nI (y0 / 1 % 10 - 1))), (9, .int 1), (4, .int w), (3, .int (nI y0)), (0, .ref (G.1 + 0))] dX8_followChain_137 (by decide) rfl ?_
              refine aw_iload 8 dX8_followChain_139 rfl ?_
              refine aw_bipush (10) dX8_followChain_141 (by decide) ?_
              refine aw_idiv dX8_followChain_143 (by decide) ?_
              refine aw_toe 0 (by decide) ?_
              refine aw_istore [(9, .int 0), (6, .int (nI q2)), (5, .int (nI (y0 / 1 % 10 - 1))), (8, .int (dv + ((chX (nI (lx fr (y0 / 1 % 10 - 1) q q2))) + 50))), (13, .int (nI (lx fr (y0 / 1 % 10 - 1) q q2))), (7, .int (sv + 1)), (12, .int (nI q2)), (11, .ref (G.1 + P)), (10, .int (nI (y0 / 1 % 10 - 1))), (4, .int w), (3, .int (nI y0)), (0, .ref (G.1 + 0))] dX8_followChain_144 (by decide) rfl ?_
              refine aw_goto 16 dX8_followChain_146 (by decide) ?_
              refine aw_lv [(9, .int 0), (8, .int (dv + ((chX (nI (lx fr (y0 / 1 % 10 - 1) q q2))) + 50))), (7, .int (sv + 1)), (6, .int (nI q2)), (5, .int (nI (y0 / 1 % 10 - 1))), (4, .int w), (3, .int (nI y0)), (0, .ref (G.1 + 0))] [0, 3, 5, 1, 2, 9, 10, 11] rfl ?_
              exact ih5644 0 (nI q2) (y0 / 1 % 10 - 1) (dv + ((chX (nI (lx fr (y0 / 1 % 10 - 1) q q2))) + 50)) (sv + 1) u15645 v15646 ro15647 co15648 rc15649 lk15650 bs15651 wy15652 nw15653 _ (by omega) (by decide) (Or.inr ⟨_, bq2, bq2f, rfl⟩) (by omega) (p5670) (p5671) (p5672) (p5673) (hJ2) (hcv.trans (chV_s (t := y0 / 1 % 10 - 1) (by omega) (by omega) (by show ¬ y0 / 1 % 10 = 0; omega) rfl hP (cc_0 (p5675.2.2.2 q (by omega)) c118))) f5676 f5677 f5678 f5679 f5680 f5681 f5682 f5683 f5684 f5685 f5686 f5687 f5688 f5660 f5661 f5662 f5663 f5664 f5665 (rg2_tr (k5643) (rg2_w2 k5669 (by omega) (by omega)))
            · have d118 := mt (j_eq (a := (ce15657 q).toInt) (b := (0)) (rfl) (rfl)).mpr c118
              refine aw_iconst (0) dX8_followChain_121 (by decide) ?_
              refine aw_goto 127 dX8_followChain_122 (by decide) ?_
              refine aw_iadd dX8_followChain_127 ?_
              refine aw_iadd dX8_followChain_128 ?_
              refine aw_istore [(8, .int (dv + ((chX (nI (lx fr (y0 / 1 % 10 - 1) q q2))) + 0))), (13, .int (nI (lx fr (y0 / 1 % 10 - 1) q q2))), (7, .int (sv + 1)), (12, .int (nI q2)), (11, .ref (G.1 + P)), (10, .int (nI (y0 / 1 % 10 - 1))), (9, .int 1), (6, .int (nI q)), (5, .int (nI fr)), (4, .int w), (3, .int (nI y0)), (0, .ref (G.1 + 0))] dX8_followChain_129 (by decide) rfl ?_
              refine aw_iload 5 dX8_followChain_131 rfl ?_
              refine aw_istore [(5, .int (nI (y0 / 1 % 10 - 1))), (8, .int (dv + ((chX (nI (lx fr (y0 / 1 % 10 - 1) q q2))) + 0))), (13, .int (nI (lx fr (y0 / 1 % 10 - 1) q q2))), (7, .int (sv + 1)), (12, .int (nI q2)), (11, .ref (G.1 + P)), (10, .int (nI (y0 / 1 % 10 - 1))), (9, .int 1), (6, .int (nI q)), (4, .int w), (3, .int (nI y0)), (0, .ref (G.1 + 0))] dX8_followChain_133 (by decide) rfl ?_
              refine aw_iload 4 dX8_followChain_135 rfl ?_
              refine aw_istore [(6, .int (nI q2)), (5, .int (nI (y0 / 1 % 10 - 1))), (8, .int (dv + ((chX (nI (lx fr (y0 / 1 % 10 - 1) q q2))) + 0))), (13, .int (nI (lx fr (y0 / 1 % 10 - 1) q q2))), (7, .int (sv + 1)), (12, .int (nI q2)), (11, .ref (G.1 + P)), (10, .int (nI (y0 / 1 % 10 - 1))), (9, .int 1), (4, .int w), (3, .int (nI y0)), (0, .ref (G.1 + 0))] dX8_followChain_137 (by decide) rfl ?_
              refine aw_iload 8 dX8_followChain_139 rfl ?_
              refine aw_bipush (10) dX8_followChain_141 (by decide) ?_
              refine aw_idiv dX8_followChain_143 (by decide) ?_
              refine aw_toe 0 (by decide) ?_
              refine aw_istore [(9, .int 0), (6, .int (nI q2)), (5, .int (nI (y0 / 1 % 10 - 1))), (8, .int (dv + ((chX (nI (lx fr (y0 / 1 % 10 - 1) q q2))) + 0))), (13, .int (nI (lx fr (y0 / 1 % 10 - 1) q q2))), (7, .int (sv + 1)), (12, .int (nI q2)), (11, .ref (G.1 + P)), (10, .int (nI (y0 / 1 % 10 - 1))), (4, .int w), (3, .int (nI y0)), (0, .ref (G.1 + 0))] dX8_followChain_144 (by decide) rfl ?_
              refine aw_goto 16 dX8_followChain_146 (by decide) ?_
              refine aw_lv [(9, .int 0), (8, .int (dv + ((chX (nI (lx fr (y0 / 1 % 10 - 1) q q2))) + 0))), (7, .int (sv + 1)), (6, .int (nI q2)), (5, .int (nI (y0 / 1 % 10 - 1))), (4, .int w), (3, .int (nI y0)), (0, .ref (G.1 + 0))] [0, 3, 5, 1, 2, 9, 10, 11] rfl ?_
              exact ih5644 0 (nI q2) (y0 / 1 % 10 - 1) (dv + ((chX (nI (lx fr (y0 / 1 % 10 - 1) q q2))) + 0)) (sv + 1) u15645 v15646 ro15647 co15648 rc15649 lk15650 bs15651 wy15652 nw15653 _ (by omega) (by decide) (Or.inr ⟨_, bq2, bq2f, rfl⟩) (by omega) (p5670) (p5671) (p5672) (p5673) (hJ2) (hcv.trans (chV_s (t := y0 / 1 % 10 - 1) (by omega) (by omega) (by show ¬ y0 / 1 % 10 = 0; omega) rfl hP (cc_1 (p5675.2.2.2 q (by omega)) c118))) f5676 f5677 f5678 f5679 f5680 f5681 f5682 f5683 f5684 f5685 f5686 f5687 f5688 f5660 f5661 f5662 f5663 f5664 f5665 (rg2_tr (k5643) (rg2_w2 k5669 (by omega) (by omega)))
    · refine aw_lv [(9, .int 10), (8, .int dv), (7, .int sv), (6, .int ev), (5, .int (nI fr)), (4, .int w), (3, .int (nI y0)), (0, .ref (G.1 + 0))] [0, 1, 2, 3, 4, 5, 6, 7] rfl ?_
      refine aw_iload 0 dX8_followChain_16 rfl ?_
      refine aw_if_le 149 dX8_followChain_18 (by decide) (fun c18 => absurd c18 (by decide)) (fun c18 => ?_)
      refine aw_iload 3 dX8_followChain_21 rfl ?_
      refine aw_bipush (-9) dX8_followChain_23 (by decide) ?_
      refine aw_icmp_eq 149 dX8_followChain_25 (by decide) (fun c25 => ?_) (fun c25 => ?_)
      · have d25 := (j_eq (a := ev.toInt) (b := (-9)) (rfl) (rfl)).mp c25
        refine aw_iload 5 dX8_followChain_149 rfl ?_
        refine aw_if_ne 157 dX8_followChain_151 (by decide) (fun c151 => ?_) (fun c151 => ?_)
        · have d151 := mt (j_eq (a := w.toInt) (b := (0)) (rfl) (rfl)).mpr c151
          refine aw_iload 5 dX8_followChain_157 rfl ?_
          refine aw_iconst (1) dX8_followChain_159 (by decide) ?_
          refine aw_icmp_ne 168 dX8_followChain_160 (by decide) (fun c160 => ?_) (fun c160 => ?_)
          · have d160 := mt (j_eq (a := w.toInt) (b := (1)) (rfl) (rfl)).mpr c160
            refine aw_iload 1 dX8_followChain_168 rfl ?_
            subst hQF
            exact aw_iret rfl dX8_followChain_170 (by decide) (by decide) ⟨_, rfl, _, _, _, _, _, _, _, _, _, f5637, f5638, f5639, f5640, f5641, f5642, k5643, hu1, hv1, huv1, hrc1, hJ1, by rw [hcv, c25, chV_9, chR_2 c151 c160]⟩
          · have d160 := (j_eq (a := w.toInt) (b := (1)) (rfl) (rfl)).mp c160
            refine aw_iload 2 dX8_followChain_163 rfl ?_
            refine aw_goto 170 dX8_followChain_165 (by decide) ?_
            subst hQF
            exact aw_iret rfl dX8_followChain_170 (by decide) (by decide) ⟨_, rfl, _, _, _, _, _, _, _, _, _, f5637, f5638, f5639, f5640, f5641, f5642, k5643, hu1, hv1, huv1, hrc1, hJ1, by rw [hcv, c25, chV_9, chR_1 c151 c160]⟩
        · have d151 := (j_eq (a := w.toInt) (b := (0)) (rfl) (rfl)).mp c151
          refine aw_iload 3 dX8_followChain_154 rfl ?_
          subst hQF
          exact aw_iret rfl dX8_followChain_156 (by decide) (by decide) ⟨_, rfl, _, _, _, _, _, _, _, _, _, f5637, f5638, f5639, f5640, f5641, f5642, k5643, hu1, hv1, huv1, hrc1, hJ1, by rw [hcv, c25, chV_9, chR_0 c151]⟩
      · have d25 := mt (j_eq (a := ev.toInt) (b := (-9)) (rfl) (rfl)).mpr c25
        obtain ⟨q, bq, bqf, rfl⟩ := he.resolve_left c25
        refine aw_iload_n 6 dX8_followChain_28 rfl rfl ?_
        refine aw_iload 0 dX8_followChain_29 rfl ?_
        refine aw_idiv dX8_followChain_31 (by decide) ?_
        refine aw_toe (nI (y0 / 10)) (nv_div (rfl) (rfl) (by omega) (by decide) (by decide)) ?_
        refine aw_bipush (10) dX8_followChain_32 (by decide) ?_
        refine aw_irem dX8_followChain_34 (by decide) ?_
        refine aw_toe (nI ((y0 / 10) % 10)) (nv_rem (rfl) (rfl) (by omega) (by decide) (by decide)) ?_
        refine aw_iconst (1) dX8_followChain_35 (by decide) ?_
        refine aw_isub dX8_followChain_36 ?_
        refine aw_istore [(10, .int ((nI ((y0 / 10) % 10)) - 1)), (9, .int 10), (8, .int dv), (7, .int sv), (6, .int (nI q)), (5, .int (nI fr)), (4, .int w), (3, .int (nI y0)), (0, .ref (G.1 + 0))] dX8_followChain_37 (by decide) rfl ?_
        refine aw_iload 0 dX8_followChain_39 rfl ?_
        refine aw_if_lt 139 dX8_followChain_41 (by decide) (fun c41 => ?_) (fun c41 => ?_)
        · have d41 := (j_lt (a := ((nI ((y0 / 10) % 10)) - 1).toInt) (b := (0)) (rfl) (rfl)).mp c41
          refine aw_iload 1 dX8_followChain_139 rfl ?_
          refine aw_bipush (10) dX8_followChain_141 (by decide) ?_
          refine aw_idiv dX8_followChain_143 (by decide) ?_
          refine aw_toe 1 (by decide) ?_
          refine aw_istore [(9, .int 1), (10, .int ((nI ((y0 / 10) % 10)) - 1)), (8, .int dv), (7, .int sv), (6, .int (nI q)), (5, .int (nI fr)), (4, .int w), (3, .int (nI y0)), (0, .ref (G.1 + 0))] dX8_followChain_144 (by decide) rfl ?_
          refine aw_goto 16 dX8_followChain_146 (by decide) ?_
          refine aw_lv [(9, .int 1), (8, .int dv), (7, .int sv), (6, .int (nI q)), (5, .int (nI fr)), (4, .int w), (3, .int (nI y0)), (0, .ref (G.1 + 0))] [0, 2, 3, 4, 5, 6, 7, 8] rfl ?_
          exact ih5644 1 (nI q) fr dv sv u1 v1 ro1 co1 rc1 lk1 bs1 wy1 nw1 _ (by omega) (by decide) (Or.inr ⟨_, bq, bqf, rfl⟩) (by omega) (hu1) (hv1) (huv1) (hrc1) (hJ1) (hcv.trans (chV_0 (by omega) (by rw [dig_i (by omega)] at d41; show y0 / 10 % 10 = 0; omega))) f5624 f5625 f5626 f5627 f5628 f5629 f5630 f5631 f5632 f5633 f5634 f5635 f5636 f5637 f5638 f5639 f5640 f5641 f5642 (k5643)
        · have d41 := mt (j_lt (a := ((nI ((y0 / 10) % 10)) - 1).toInt) (b := (0)) (rfl) (rfl)).mpr c41
          have g0 : 1 ≤ y0 / 10 % 10 := by rw [dig_i (by omega)] at d41; omega
          rw [dig_e g0]
          obtain ⟨su, wa, pt, ce, pv, gg0, gg1, gg2, hpt, bpv, hfz⟩ := hJ1 (fr * 4 + (y0 / 10 % 10 - 1)) (by omega)
          obtain ⟨P, eP⟩ : ∃ P, P = 13 + 3 * (fr * 4 + (y0 / 10 % 10 - 1)) := ⟨_, rfl⟩
          rw [← eP] at gg0 gg1 gg2
          refine aw_aload_n 8 dX8_followChain_44 rfl rfl ?_
          refine aw_iload 5 dX8_followChain_45 rfl ?_
          refine aw_iload 0 dX8_followChain_47 rfl ?_
          refine aw_eV [.int (nI fr), .int (nI (y0 / 10 % 10 - 1))] [] lX8_124 vX8_bestJoining mX8_bestJoining dX8_followChain_49 (bJ (bv := bv) (J := J) (u := u1) (v := v1) (ro := ro1) (co := co1) (rc := rc1) (lk := lk1) (bs := bs1) (wy := wy1) (nw := nw1) (P := P) (pv := pv) (su := su) (wa := wa) (pt := pt) (ce := ce) (m := m) (se := se) (ye := ye) (fi := fi) (W := W) (Sn := Sn) (Z := Z) (Ro := Ro) (Co := Co) (Ba := Ba) (nb := nb) (sp := sp) (fa := fa) (ve := ve) (a := fr) (b := y0 / 10 % 10 - 1) f5624 f5625 f5626 f5627 f5628 f5629 f5630 f5631 f5632 f5633 f5634 f5635 f5636 f5637 f5638 f5639 f5640 f5641 f5642 gg0 gg1 gg2 hu1 hv1 huv1 hrc1 (by omega) hm hse hfi hye (by omega) (by omega) (by omega) (by omega) hpt eP (hlx fr (by omega) (y0 / 10 % 10 - 1) (by omega)) (hlx3 fr (y0 / 10 % 10 - 1)) (by omega) (by omega) (jX_g hfz (by omega))) f5624 rfl rfl rfl (Nat.le_of_ble_eq_true rfl) (by decide) (by decide) rfl (fun h5703 q5702 => ?_)
          obtain ⟨u15689, v15690, ro15691, co15692, rc15693, lk15694, bs15695, wy15696, nw15697, su15698, wa15699, pt15700, ce15701, f5704, f5705, f5706, f5707, f5708, f5709, f5710, f5711, f5712, k5713, p5714, p5715, p5716, p5717, p5718, p5719⟩ := q5702
          have f5720 := rg2_at k5713 (by omega) f5624
          have f5721 := rg2_at k5713 (by omega) f5625
          have f5722 := rg2_at k5713 (by omega) f5626
          have f5723 := rg2_at k5713 (by omega) f5627
          have f5724 := rg2_at k5713 (by omega) f5628
          have f5725 := rg2_at k5713 (by omega) f5629
          have f5726 := rg2_at k5713 (by omega) f5630
          have f5727 := rg2_at k5713 (by omega) f5631
          have f5728 := rg2_at k5713 (by omega) f5632
          have f5729 := rg2_at k5713 (by omega) f5633
          have f5730 := rg2_at k5713 (by omega) f5634
          have f5731 := rg2_at k5713 (by omega) f5635
          have f5732 := rg2_at k5713 (by omega) f5636
          have hJ2 : iJs G (jX lx fi ve) h5703 := iJs_up hJ1 (k := fr * 4 + (y0 / 10 % 10 - 1)) (by omega) eP (fun j q1 q2 q3 => k5713.2 j (by omega)) f5710 f5711 f5712 p5718 bve (jX_at p5719 (by omega))
          refine aw_astore [(11, .ref (G.1 + P)), (10, .int (nI (y0 / 10 % 10 - 1))), (9, .int 10), (8, .int dv), (7, .int sv), (6, .int (nI q)), (5, .int (nI fr)), (4, .int w), (3, .int (nI y0)), (0, .ref (G.1 + 0))] dX8_followChain_52 (by decide) rfl ?_
          refine aw_aload 0 dX8_followChain_54 rfl ?_
          refine aw_get fX8_131 dX8_followChain_56 f5710 rfl ?_
          refine aw_iload 5 dX8_followChain_59 rfl ?_
          refine aw_iald q (rfl) (by omega) (by decide) dX8_followChain_61 f5711 ?_
          refine aw_istore [(12, .int (pt15700 q)), (11, .ref (G.1 + P)), (10, .int (nI (y0 / 10 % 10 - 1))), (9, .int 10), (8, .int dv), (7, .int sv), (6, .int (nI q)), (5, .int (nI fr)), (4, .int w), (3, .int (nI y0)), (0, .ref (G.1 + 0))] dX8_followChain_62 (by decide) rfl ?_
          refine aw_iload 0 dX8_followChain_64 rfl ?_
          refine aw_bipush (-9) dX8_followChain_66 (by decide) ?_
          refine aw_icmp_eq 131 dX8_followChain_68 (by decide) (fun c68 => ?_) (fun c68 => ?_)
          · have d68 := (j_eq (a := (pt15700 q).toInt) (b := (-9)) (rfl) (rfl)).mp c68
            refine aw_iload 2 dX8_followChain_131 rfl ?_
            refine aw_istore [(5, .int (nI (y0 / 10 % 10 - 1))), (12, .int (pt15700 q)), (11, .ref (G.1 + P)), (10, .int (nI (y0 / 10 % 10 - 1))), (9, .int 10), (8, .int dv), (7, .int sv), (6, .int (nI q)), (4, .int w), (3, .int (nI y0)), (0, .ref (G.1 + 0))] dX8_followChain_133 (by decide) rfl ?_
            refine aw_iload 1 dX8_followChain_135 rfl ?_
            refine aw_istore [(6, .int (pt15700 q)), (5, .int (nI (y0 / 10 % 10 - 1))), (12, .int (pt15700 q)), (11, .ref (G.1 + P)), (10, .int (nI (y0 / 10 % 10 - 1))), (9, .int 10), (8, .int dv), (7, .int sv), (4, .int w), (3, .int (nI y0)), (0, .ref (G.1 + 0))] dX8_followChain_137 (by decide) rfl ?_
            refine aw_iload 5 dX8_followChain_139 rfl ?_
            refine aw_bipush (10) dX8_followChain_141 (by decide) ?_
            refine aw_idiv dX8_followChain_143 (by decide) ?_
            refine aw_toe 1 (by decide) ?_
            refine aw_istore [(9, .int 1), (6, .int (pt15700 q)), (5, .int (nI (y0 / 10 % 10 - 1))), (12, .int (pt15700 q)), (11, .ref (G.1 + P)), (10, .int (nI (y0 / 10 % 10 - 1))), (8, .int dv), (7, .int sv), (4, .int w), (3, .int (nI y0)), (0, .ref (G.1 + 0))] dX8_followChain_144 (by decide) rfl ?_
            refine aw_goto 16 dX8_followChain_146 (by decide) ?_
            refine aw_lv [(9, .int 1), (8, .int dv), (7, .int sv), (6, .int (pt15700 q)), (5, .int (nI (y0 / 10 % 10 - 1))), (4, .int w), (3, .int (nI y0)), (0, .ref (G.1 + 0))] [0, 6, 7, 1, 2, 8, 9, 10] rfl ?_
            exact ih5644 1 (pt15700 q) (y0 / 10 % 10 - 1) dv sv u15689 v15690 ro15691 co15692 rc15693 lk15694 bs15695 wy15696 nw15697 _ (by omega) (by decide) (Or.inl c68) (by omega) (p5714) (p5715) (p5716) (p5717) (hJ2) (by rw [c68]; exact hcv.trans (chV_n (t := y0 / 10 % 10 - 1) (by omega) (by show ¬ y0 / 10 % 10 = 0; omega) rfl ((p5719.2.1 q (by omega)).symm.trans c68))) f5720 f5721 f5722 f5723 f5724 f5725 f5726 f5727 f5728 f5729 f5730 f5731 f5732 f5704 f5705 f5706 f5707 f5708 f5709 (rg2_tr (k5643) (rg2_w2 k5713 (by omega) (by omega)))
          · have d68 := mt (j_eq (a := (pt15700 q).toInt) (b := (-9)) (rfl) (rfl)).mpr c68
            obtain ⟨q2, bq2, eq2⟩ := (p5718 q (by omega)).resolve_left c68
            have fb9 := hfi (y0 / 10 % 10 - 1) (by omega)
            have hP := (p5719.2.1 q (by omega)).symm.trans eq2
            have bq2f := jP_lt (by omega) (by omega) hP
            rw [eq2]
            refine aw_iinc (j := 5) (sv + 1) [(7, .int (sv + 1)), (12, .int (nI q2)), (11, .ref (G.1 + P)), (10, .int (nI (y0 / 10 % 10 - 1))), (9, .int 10), (8, .int dv), (6, .int (nI q)), (5, .int (nI fr)), (4, .int w), (3, .int (nI y0)), (0, .ref (G.1 + 0))] dX8_followChain_71 rfl (by rfl) (by decide) rfl ?_
            refine aw_aload_n 10 dX8_followChain_74 rfl rfl ?_
            refine aw_get fX8_20 dX8_followChain_75 f5720 rfl ?_
            refine aw_iload 7 dX8_followChain_78 rfl ?_
            refine aw_bipush (10) dX8_followChain_80 (by decide) ?_
            refine aw_imul dX8_followChain_82 ?_
            refine aw_toe (nI (fr * 10)) (nv_mul (rfl) (rfl)) ?_
            refine aw_iload 6 dX8_followChain_83 rfl ?_
            refine aw_iadd dX8_followChain_85 ?_
            refine aw_toe (nI ((fr * 10) + q)) (nv_add (rfl) (rfl)) ?_
            refine aw_iload 3 dX8_followChain_86 rfl ?_
            refine aw_bipush (10) dX8_followChain_88 (by decide) ?_
            refine aw_imul dX8_followChain_90 ?_
            refine aw_toe (nI ((y0 / 10 % 10 - 1) * 10)) (nv_mul (rfl) (rfl)) ?_
            refine aw_iload 1 dX8_followChain_91 rfl ?_
            refine aw_iadd dX8_followChain_93 ?_
            refine aw_toe (nI (((y0 / 10 % 10 - 1) * 10) + q2)) (nv_add (rfl) (rfl)) ?_
            refine aw_dV [.int (nI ((fr * 10) + q)), .int (nI (((y0 / 10 % 10 - 1) * 10) + q2))] [] lX8_121 vX1_likeness mX1_likeness dX8_followChain_94 (aX1_likeness (m := m) (se := se) (ye := ye) (fi := fi) (W := W) (Sn := Sn) (Z := Z) (Ro := Ro) (Co := Co) (Ba := Ba) (nb := nb) (sp := sp) (fa := fa) (ve := ve) (e := (fr * 10) + q) (f := ((y0 / 10 % 10 - 1) * 10) + q2) f5721 f5722 f5723 f5724 f5725 f5726 f5727 f5728 f5729 f5730 f5731 hm hse hfi hye (by omega) (by omega)) f5721 rfl rfl rfl (Nat.le_of_ble_eq_true rfl) (by decide) (by decide) rfl ?_
            refine aw_toe (nI (lx fr (y0 / 10 % 10 - 1) q q2)) (hlx fr (by omega) (y0 / 10 % 10 - 1) (by omega) q (by omega) q2 (by omega)) ?_
            refine aw_istore [(13, .int (nI (lx fr (y0 / 10 % 10 - 1) q q2))), (7, .int (sv + 1)), (12, .int (nI q2)), (11, .ref (G.1 + P)), (10, .int (nI (y0 / 10 % 10 - 1))), (9, .int 10), (8, .int dv), (6, .int (nI q)), (5, .int (nI fr)), (4, .int w), (3, .int (nI y0)), (0, .ref (G.1 + 0))] dX8_followChain_97 (by decide) rfl ?_
            refine aw_iload 6 dX8_followChain_99 rfl ?_
            refine aw_iconst (0) dX8_followChain_101 (by decide) ?_
            refine aw_bipush (100) dX8_followChain_102 (by decide) ?_
            refine aw_iload 0 dX8_followChain_104 rfl ?_
            refine aw_isub dX8_followChain_106 ?_
            refine aw_mmax lX8_251 dX8_followChain_107 (Nat.le_of_ble_eq_true rfl) (by decide) (by decide) ?_
            refine aw_toe (chX (nI (lx fr (y0 / 10 % 10 - 1) q q2))) (rfl) ?_
            refine aw_aload 3 dX8_followChain_110 rfl ?_
            refine aw_get fX8_137 dX8_followChain_112 f5710 rfl ?_
            refine aw_iload 7 dX8_followChain_115 rfl ?_
            refine aw_zald q (rfl) (by omega) (by decide) dX8_followChain_117 f5712 ?_
            refine aw_if_eq 125 dX8_followChain_118 (by decide) (fun c118 => ?_) (fun c118 => ?_)
            · have d118 := (j_eq (a := (ce15701 q).toInt) (b := (0)) (rfl) (rfl)).mp c118
              refine aw_bipush (50) dX8_followChain_125 (by decide) ?_
              refine aw_iadd dX8_followChain_127 ?_
              refine aw_iadd dX8_followChain_128 ?_
              refine aw_istore [(8, .int (dv + ((chX (nI (lx fr (y0 / 10 % 10 - 1) q q2))) + 50))), (13, .int (nI (lx fr (y0 / 10 % 10 - 1) q q2))), (7, .int (sv + 1)), (12, .int (nI q2)), (11, .ref (G.1 + P)), (10, .int (nI (y0 / 10 % 10 - 1))), (9, .int 10), (6, .int (nI q)), (5, .int (nI fr)), (4, .int w), (3, .int (nI y0)), (0, .ref (G.1 + 0))] dX8_followChain_129 (by decide) rfl ?_
              refine aw_iload 5 dX8_followChain_131 rfl ?_
              refine aw_istore [(5, .int (nI (y0 / 10 % 10 - 1))), (8, .int (dv + ((chX (nI (lx fr (y0 / 10 % 10 - 1) q q2))) + 50))), (13, .int (nI (lx fr (y0 / 10 % 10 - 1) q q2))), (7, .int (sv + 1)), (12, .int (nI q2)), (11, .ref (G.1 + P)), (10, .int (nI (y0 / 10 % 10 - 1))), (9, .int 10), (6, .int (nI q)), (4, .int w), (3, .int (nI y0)), (0, .ref (G.1 + 0))] dX8_followChain_133 (by decide) rfl ?_
              refine aw_iload 4 dX8_followChain_135 rfl ?_
              refine aw_istore [(6, .int (nI q2)), (5, .int (nI (y0 / 10 % 10 - 1))), (8, .int (dv + ((chX (nI (lx fr (y0 / 10 % 10 - 1) q q2))) + 50))), (13, .int (nI (lx fr (y0 / 10 % 10 - 1) q q2))), (7, .int (sv + 1)), (12, .int (nI q2)), (11, .ref (G.1 + P)), (10, .int (nI (y0 / 10 % 10 - 1))), (9, .int 10), (4, .int w), (3, .int (nI y0)), (0, .ref (G.1 + 0))] dX8_followChain_137 (by decide) rfl ?_
              refine aw_iload 8 dX8_followChain_139 rfl ?_
              refine aw_bipush (10) dX8_followChain_141 (by decide) ?_
              refine aw_idiv dX8_followChain_143 (by decide) ?_
              refine aw_toe 1 (by decide) ?_
              refine aw_istore [(9, .int 1), (6, .int (nI q2)), (5, .int (nI (y0 / 10 % 10 - 1))), (8, .int (dv + ((chX (nI (lx fr (y0 / 10 % 10 - 1) q q2))) + 50))), (13, .int (nI (lx fr (y0 / 10 % 10 - 1) q q2))), (7, .int (sv + 1)), (12, .int (nI q2)), (11, .ref (G.1 + P)), (10, .int (nI (y0 / 10 % 10 - 1))), (4, .int w), (3, .int (nI y0)), (0, .ref (G.1 + 0))] dX8_followChain_144 (by decide) rfl ?_
              refine aw_goto 16 dX8_followChain_146 (by decide) ?_
              refine aw_lv [(9, .int 1), (8, .int (dv + ((chX (nI (lx fr (y0 / 10 % 10 - 1) q q2))) + 50))), (7, .int (sv + 1)), (6, .int (nI q2)), (5, .int (nI (y0 / 10 % 10 - 1))), (4, .int w), (3, .int (nI y0)), (0, .ref (G.1 + 0))] [0, 3, 5, 1, 2, 9, 10, 11] rfl ?_
              exact ih5644 1 (nI q2) (y0 / 10 % 10 - 1) (dv + ((chX (nI (lx fr (y0 / 10 % 10 - 1) q q2))) + 50)) (sv + 1) u15689 v15690 ro15691 co15692 rc15693 lk15694 bs15695 wy15696 nw15697 _ (by omega) (by decide) (Or.inr ⟨_, bq2, bq2f, rfl⟩) (by omega) (p5714) (p5715) (p5716) (p5717) (hJ2) (hcv.trans (chV_s (t := y0 / 10 % 10 - 1) (by omega) (by omega) (by show ¬ y0 / 10 % 10 = 0; omega) rfl hP (cc_0 (p5719.2.2.2 q (by omega)) c118))) f5720 f5721 f5722 f5723 f5724 f5725 f5726 f5727 f5728 f5729 f5730 f5731 f5732 f5704 f5705 f5706 f5707 f5708 f5709 (rg2_tr (k5643) (rg2_w2 k5713 (by omega) (by omega)))
            · have d118 := mt (j_eq (a := (ce15701 q).toInt) (b := (0)) (rfl) (rfl)).mpr c118
              refine aw_iconst (0) dX8_followChain_121 (by decide) ?_
              refine aw_goto 127 dX8_followChain_122 (by decide) ?_
              refine aw_iadd dX8_followChain_127 ?_
              refine aw_iadd dX8_followChain_128 ?_
              refine aw_istore [(8, .int (dv + ((chX (nI (lx fr (y0 / 10 % 10 - 1) q q2))) + 0))), (13, .int (nI (lx fr (y0 / 10 % 10 - 1) q q2))), (7, .int (sv + 1)), (12, .int (nI q2)), (11, .ref (G.1 + P)), (10, .int (nI (y0 / 10 % 10 - 1))), (9, .int 10), (6, .int (nI q)), (5, .int (nI fr)), (4, .int w), (3, .int (nI y0)), (0, .ref (G.1 + 0))] dX8_followChain_129 (by decide) rfl ?_
              refine aw_iload 5 dX8_followChain_131 rfl ?_
              refine aw_istore [(5, .int (nI (y0 / 10 % 10 - 1))), (8, .int (dv + ((chX (nI (lx fr (y0 / 10 % 10 - 1) q q2))) + 0))), (13, .int (nI (lx fr (y0 / 10 % 10 - 1) q q2))), (7, .int (sv + 1)), (12, .int (nI q2)), (11, .ref (G.1 + P)), (10, .int (nI (y0 / 10 % 10 - 1))), (9, .int 10), (6, .int (nI q)), (4, .int w), (3, .int (nI y0)), (0, .ref (G.1 + 0))] dX8_followChain_133 (by decide) rfl ?_
              refine aw_iload 4 dX8_followChain_135 rfl ?_
              refine aw_istore [(6, .int (nI q2)), (5, .int (nI (y0 / 10 % 10 - 1))), (8, .int (dv + ((chX (nI (lx fr (y0 / 10 % 10 - 1) q q2))) + 0))), (13, .int (nI (lx fr (y0 / 10 % 10 - 1) q q2))), (7, .int (sv + 1)), (12, .int (nI q2)), (11, .ref (G.1 + P)), (10, .int (nI (y0 / 10 % 10 - 1))), (9, .int 10), (4, .int w), (3, .int (nI y0)), (0, .ref (G.1 + 0))] dX8_followChain_137 (by decide) rfl ?_
              refine aw_iload 8 dX8_followChain_139 rfl ?_
              refine aw_bipush (10) dX8_followChain_141 (by decide) ?_
              refine aw_idiv dX8_followChain_143 (by decide) ?_
              refine aw_toe 1 (by decide) ?_
              refine aw_istore [(9, .int 1), (6, .int (nI q2)), (5, .int (nI (y0 / 10 % 10 - 1))), (8, .int (dv + ((chX (nI (lx fr (y0 / 10 % 10 - 1) q q2))) + 0))), (13, .int (nI (lx fr (y0 / 10 % 10 - 1) q q2))), (7, .int (sv + 1)), (12, .int (nI q2)), (11, .ref (G.1 + P)), (10, .int (nI (y0 / 10 % 10 - 1))), (4, .int w), (3, .int (nI y0)), (0, .ref (G.1 + 0))] dX8_followChain_144 (by decide) rfl ?_
              refine aw_goto 16 dX8_followChain_146 (by decide) ?_
              refine aw_lv [(9, .int 1), (8, .int (dv + ((chX (nI (lx fr (y0 / 10 % 10 - 1) q q2))) + 0))), (7, .int (sv + 1)), (6, .int (nI q2)), (5, .int (nI (y0 / 10 % 10 - 1))), (4, .int w), (3, .int (nI y0)), (0, .ref (G.1 + 0))] [0, 3, 5, 1, 2, 9, 10, 11] rfl ?_
              exact ih5644 1 (nI q2) (y0 / 10 % 10 - 1) (dv + ((chX (nI (lx fr (y0 / 10 % 10 - 1) q q2))) + 0)) (sv + 1) u15689 v15690 ro15691 co15692 rc15693 lk15694 bs15695 wy15696 nw15697 _ (by omega) (by decide) (Or.inr ⟨_, bq2, bq2f, rfl⟩) (by omega) (p5714) (p5715) (p5716) (p5717) (hJ2) (hcv.trans (chV_s (t := y0 / 10 % 10 - 1) (by omega) (by omega) (by show ¬ y0 / 10 % 10 = 0; omega) rfl hP (cc_1 (p5719.2.2.2 q (by omega)) c118))) f5720 f5721 f5722 f5723 f5724 f5725 f5726 f5727 f5728 f5729 f5730 f5731 f5732 f5704 f5705 f5706 f5707 f5708 f5709 (rg2_tr (k5643) (rg2_w2 k5713 (by omega) (by omega)))
    · refine aw_lv [(9, .int 100), (8, .int dv), (7, .int sv), (6, .int ev), (5, .int (nI fr)), (4, .int w), (3, .int (nI y0)), (0, .ref (G.1 + 0))] [0, 1, 2, 3, 4, 5, 6, 7] rfl ?_
      refine aw_iload 0 dX8_followChain_16 rfl ?_
      refine aw_if_le 149 dX8_followChain_18 (by decide) (fun c18 => absurd c18 (by decide)) (fun c18 => ?_)
      refine aw_iload 3 dX8_followChain_21 rfl ?_
      refine aw_bipush (-9) dX8_followChain_23 (by decide) ?_
      refine aw_icmp_eq 149 dX8_followChain_25 (by decide) (fun c25 => ?_) (fun c25 => ?_)
      · have d25 := (j_eq (a := ev.toInt) (b := (-9)) (rfl) (rfl)).mp c25
        refine aw_iload 5 dX8_followChain_149 rfl ?_
        refine aw_if_ne 157 dX8_followChain_151 (by decide) (fun c151 => ?_) (fun c151 => ?_)
        · have d151 := mt (j_eq (a := w.toInt) (b := (0)) (rfl) (rfl)).mpr c151
          refine aw_iload 5 dX8_followChain_157 rfl ?_
          refine aw_iconst (1) dX8_followChain_159 (by decide) ?_
          refine aw_icmp_ne 168 dX8_followChain_160 (by decide) (fun c160 => ?_) (fun c160 => ?_)
          · have d160 := mt (j_eq (a := w.toInt) (b := (1)) (rfl) (rfl)).mpr c160
            refine aw_iload 1 dX8_followChain_168 rfl ?_
            subst hQF
            exact aw_iret rfl dX8_followChain_170 (by decide) (by decide) ⟨_, rfl, _, _, _, _, _, _, _, _, _, f5637, f5638, f5639, f5640, f5641, f5642, k5643, hu1, hv1, huv1, hrc1, hJ1, by rw [hcv, c25, chV_9, chR_2 c151 c160]⟩
          · have d160 := (j_eq (a := w.toInt) (b := (1)) (rfl) (rfl)).mp c160
            refine aw_iload 2 dX8_followChain_163 rfl ?_
            refine aw_goto 170 dX8_followChain_165 (by decide) ?_
            subst hQF
            exact aw_iret rfl dX8_followChain_170 (by decide) (by decide) ⟨_, rfl, _, _, _, _, _, _, _, _, _, f5637, f5638, f5639, f5640, f5641, f5642, k5643, hu1, hv1, huv1, hrc1, hJ1, by rw [hcv, c25, chV_9, chR_1 c151 c160]⟩
        · have d151 := (j_eq (a := w.toInt) (b := (0)) (rfl) (rfl)).mp c151
          refine aw_iload 3 dX8_followChain_154 rfl ?_
          subst hQF
          exact aw_iret rfl dX8_followChain_156 (by decide) (by decide) ⟨_, rfl, _, _, _, _, _, _, _, _, _, f5637, f5638, f5639, f5640, f5641, f5642, k5643, hu1, hv1, huv1, hrc1, hJ1, by rw [hcv, c25, chV_9, chR_0 c151]⟩
      · have d25 := mt (j_eq (a := ev.toInt) (b := (-9)) (rfl) (rfl)).mpr c25
        obtain ⟨q, bq, bqf, rfl⟩ := he.resolve_left c25
        refine aw_iload_n 6 dX8_followChain_28 rfl rfl ?_
        refine aw_iload 0 dX8_followChain_29 rfl ?_
        refine aw_idiv dX8_followChain_31 (by decide) ?_
        refine aw_toe (nI (y0 / 100)) (nv_div (rfl) (rfl) (by omega) (by decide) (by decide)) ?_
        refine aw_bipush (10) dX8_followChain_32 (by decide) ?_
        refine aw_irem dX8_followChain_34 (by decide) ?_
        refine aw_toe (nI ((y0 / 100) % 10)) (nv_rem (rfl) (rfl) (by omega) (by decide) (by decide)) ?_
        refine aw_iconst (1) dX8_followChain_35 (by decide) ?_
        refine aw_isub dX8_followChain_36 ?_
        refine aw_istore [(10, .int ((nI ((y0 / 100) % 10)) - 1)), (9, .int 100), (8, .int dv), (7, .int sv), (6, .int (nI q)), (5, .int (nI fr)), (4, .int w), (3, .int (nI y0)), (0, .ref (G.1 + 0))] dX8_followChain_37 (by decide) rfl ?_
        refine aw_iload 0 dX8_followChain_39 rfl ?_
        refine aw_if_lt 139 dX8_followChain_41 (by decide) (fun c41 => ?_) (fun c41 => ?_)
        · have d41 := (j_lt (a := ((nI ((y0 / 100) % 10)) - 1).toInt) (b := (0)) (rfl) (rfl)).mp c41
          refine aw_iload 1 dX8_followChain_139 rfl ?_
          refine aw_bipush (10) dX8_followChain_141 (by decide) ?_
          refine aw_idiv dX8_followChain_143 (by decide) ?_
          refine aw_toe 10 (by decide) ?_
          refine aw_istore [(9, .int 10), (10, .int ((nI ((y0 / 100) % 10)) - 1)), (8, .int dv), (7, .int sv), (6, .int (nI q)), (5, .int (nI fr)), (4, .int w), (3, .int (nI y0)), (0, .ref (G.1 + 0))] dX8_followChain_144 (by decide) rfl ?_
          refine aw_goto 16 dX8_followChain_146 (by decide) ?_
          refine aw_lv [(9, .int 10), (8, .int dv), (7, .int sv), (6, .int (nI q)), (5, .int (nI fr)), (4, .int w), (3, .int (nI y0)), (0, .ref (G.1 + 0))] [0, 2, 3, 4, 5, 6, 7, 8] rfl ?_
          exact ih5644 2 (nI q) fr dv sv u1 v1 ro1 co1 rc1 lk1 bs1 wy1 nw1 _ (by omega) (by decide) (Or.inr ⟨_, bq, bqf, rfl⟩) (by omega) (hu1) (hv1) (huv1) (hrc1) (hJ1) (hcv.trans (chV_0 (by omega) (by rw [dig_i (by omega)] at d41; show y0 / 100 % 10 = 0; omega))) f5624 f5625 f5626 f5627 f5628 f5629 f5630 f5631 f5632 f5633 f5634 f5635 f5636 f5637 f5638 f5639 f5640 f5641 f5642 (k5643)
        · have d41 := mt (j_lt (a := ((nI ((y0 / 100) % 10)) - 1).toInt) (b := (0)) (rfl) (rfl)).mpr c41
          have g0 : 1 ≤ y0 / 100 % 10 := by rw [dig_i (by omega)] at d41; omega
          rw [dig_e g0]
          obtain ⟨su, wa, pt, ce, pv, gg0, gg1, gg2, hpt, bpv, hfz⟩ := hJ1 (fr * 4 + (y0 / 100 % 10 - 1)) (by omega)
          obtain ⟨P, eP⟩ : ∃ P, P = 13 + 3 * (fr * 4 + (y0 / 100 % 10 - 1)) := ⟨_, rfl⟩
          rw [← eP] at gg0 gg1 gg2
          refine aw_aload_n 8 dX8_followChain_44 rfl rfl ?_
          refine aw_iload 5 dX8_followChain_45 rfl ?_
          refine aw_iload 0 dX8_followChain_47 rfl ?_
          refine aw_eV [.int (nI fr), .int (nI (y0 / 100 % 10 - 1))] [] lX8_124 vX8_bestJoining mX8_bestJoining dX8_followChain_49 (bJ (bv := bv) (J := J) (u := u1) (v := v1) (ro := ro1) (co := co1) (rc := rc1) (lk := lk1) (bs := bs1) (wy := wy1) (nw := nw1) (P := P) (pv := pv) (su := su) (wa := wa) (pt := pt) (ce := ce) (m := m) (se := se) (ye := ye) (fi := fi) (W := W) (Sn := Sn) (Z := Z) (Ro := Ro) (Co := Co) (Ba := Ba) (nb := nb) (sp := sp) (fa := fa) (ve := ve) (a := fr) (b := y0 / 100 % 10 - 1) f5624 f5625 f5626 f5627 f5628 f5629 f5630 f5631 f5632 f5633 f5634 f5635 f5636 f5637 f5638 f5639 f5640 f5641 f5642 gg0 gg1 gg2 hu1 hv1 huv1 hrc1 (by omega) hm hse hfi hye (by omega) (by omega) (by omega) (by omega) hpt eP (hlx fr (by omega) (y0 / 100 % 10 - 1) (by omega)) (hlx3 fr (y0 / 100 % 10 - 1)) (by omega) (by omega) (jX_g hfz (by omega))) f5624 rfl rfl rfl (Nat.le_of_ble_eq_true rfl) (by decide) (by decide) rfl (fun h5747 q5746 => ?_)
          obtain ⟨u15733, v15734, ro15735, co15736, rc15737, lk15738, bs15739, wy15740, nw15741, su15742, wa15743, pt15744, ce15745, f5748, f5749, f5750, f5751, f5752, f5753, f5754, f5755, f5756, k5757, p5758, p5759, p5760, p5761, p5762, p5763⟩ := q5746
          have f5764 := rg2_at k5757 (by omega) f5624
          have f5765 := rg2_at k5757 (by omega) f5625
          have f5766 := rg2_at k5757 (by omega) f5626
          have f5767 := rg2_at k5757 (by omega) f5627
          have f5768 := rg2_at k5757 (by omega) f5628
          have f5769 := rg2_at k5757 (by omega) f5629
          have f5770 := rg2_at k5757 (by omega) f5630
          have f5771 := rg2_at k5757 (by omega) f5631
          have f5772 := rg2_at k5757 (by omega) f5632
          have f5773 := rg2_at k5757 (by omega) f5633
          have f5774 := rg2_at k5757 (by omega) f5634
          have f5775 := rg2_at k5757 (by omega) f5635
          have f5776 := rg2_at k5757 (by omega) f5636
          have hJ2 : iJs G (jX lx fi ve) h5747 := iJs_up hJ1 (k := fr * 4 + (y0 / 100 % 10 - 1)) (by omega) eP (fun j q1 q2 q3 => k5757.2 j (by omega)) f5754 f5755 f5756 p5762 bve (jX_at p5763 (by omega))
          refine aw_astore [(11, .ref (G.1 + P)), (10, .int (nI (y0 / 100 % 10 - 1))), (9, .int 100), (8, .int dv), (7, .int sv), (6, .int (nI q)), (5, .int (nI fr)), (4, .int w), (3, .int (nI y0)), (0, .ref (G.1 + 0))] dX8_followChain_52 (by decide) rfl ?_
          refine aw_aload 0 dX8_followChain_54 rfl ?_
          refine aw_get fX8_131 dX8_followChain_56 f5754 rfl ?_
          refine aw_iload 5 dX8_followChain_59 rfl ?_
          refine aw_iald q (rfl) (by omega) (by decide) dX8_followChain_61 f5755 ?_
          refine aw_istore [(12, .int (pt15744 q)), (11, .ref (G.1 + P)), (10, .int (nI (y0 / 100 % 10 - 1))), (9, .int 100), (8, .int dv), (7, .int sv), (6, .int (nI q)), (5, .int (nI fr)), (4, .int w), (3, .int (nI y0)), (0, .ref (G.1 + 0))] dX8_followChain_62 (by decide) rfl ?_
          refine aw_iload 0 dX8_followChain_64 rfl ?_
          refine aw_bipush (-9) dX8_followChain_66 (by decide) ?_
          refine aw_icmp_eq 131 dX8_followChain_68 (by decide) (fun c68 => ?_) (fun c68 => ?_)
          · have d68 := (j_eq (a := (pt15744 q).toInt) (b := (-9)) (rfl) (rfl)).mp c68
            refine aw_iload 2 dX8_followChain_131 rfl ?_
            refine aw_istore [(5, .int (nI (y0 / 100 % 10 - 1))), (12, .int (pt15744 q)), (11, .ref (G.1 + P)), (10, .int (nI (y0 / 100 % 10 - 1))), (9, .int 100), (8, .int dv), (7, .int sv), (6, .int (nI q)), (4, .int w), (3, .int (nI y0)), (0, .ref (G.1 + 0))] dX8_followChain_133 (by decide) rfl ?_
            refine aw_iload 1 dX8_followChain_135 rfl ?_
            refine aw_istore [(6, .int (pt15744 q)), (5, .int (nI (y0 / 100 % 10 - 1))), (12, .int (pt15744 q)), (11, .ref (G.1 + P)), (10, .int (nI (y0 / 100 % 10 - 1))), (9, .int 100), (8, .int dv), (7, .int sv), (4, .int w), (3, .int (nI y0)), (0, .ref (G.1 + 0))] dX8_followChain_137 (by decide) rfl ?_
            refine aw_iload 5 dX8_followChain_139 rfl ?_
            refine aw_bipush (10) dX8_followChain_141 (by decide) ?_
            refine aw_idiv dX8_followChain_143 (by decide) ?_
            refine aw_toe 10 (by decide) ?_
            refine aw_istore [(9, .int 10), (6, .int (pt15744 q)), (5, .int (nI (y0 / 100 % 10 - 1))), (12, .int (pt15744 q)), (11, .ref (G.1 + P)), (10, .int (nI (y0 / 100 % 10 - 1))), (8, .int dv), (7, .int sv), (4, .int w), (3, .int (nI y0)), (0, .ref (G.1 + 0))] dX8_followChain_144 (by decide) rfl ?_
            refine aw_goto 16 dX8_followChain_146 (by decide) ?_
            refine aw_lv [(9, .int 10), (8, .int dv), (7, .int sv), (6, .int (pt15744 q)), (5, .int (nI (y0 / 100 % 10 - 1))), (4, .int w), (3, .int (nI y0)), (0, .ref (G.1 + 0))] [0, 6, 7, 1, 2, 8, 9, 10] rfl ?_
            exact ih5644 2 (pt15744 q) (y0 / 100 % 10 - 1) dv sv u15733 v15734 ro15735 co15736 rc15737 lk15738 bs15739 wy15740 nw15741 _ (by omega) (by decide) (Or.inl c68) (by omega) (p5758) (p5759) (p5760) (p5761) (hJ2) (by rw [c68]; exact hcv.trans (chV_n (t := y0 / 100 % 10 - 1) (by omega) (by show ¬ y0 / 100 % 10 = 0; omega) rfl ((p5763.2.1 q (by omega)).symm.trans c68))) f5764 f5765 f5766 f5767 f5768 f5769 f5770 f5771 f5772 f5773 f5774 f5775 f5776 f5748 f5749 f5750 f5751 f5752 f5753 (rg2_tr (k5643) (rg2_w2 k5757 (by omega) (by omega)))
          · have d68 := mt (j_eq (a := (pt15744 q).toInt) (b := (-9)) (rfl) (rfl)).mpr c68
            obtain ⟨q2, bq2, eq2⟩ := (p5762 q (by omega)).resolve_left c68
            have fb9 := hfi (y0 / 100 % 10 - 1) (by omega)
            have hP := (p5763.2.1 q (by omega)).symm.trans eq2
            have bq2f := jP_lt (by omega) (by omega) hP
            rw [eq2]
            refine aw_iinc (j := 5) (sv + 1) [(7, .int (sv + 1)), (12, .int (nI q2)), (11, .ref (G.1 + P)), (10, .int (nI (y0 / 100 % 10 - 1))), (9, .int 100), (8, .int dv), (6, .int (nI q)), (5, .int (nI fr)), (4, .int w), (3, .int (nI y0)), (0, .ref (G.1 + 0))] dX8_followChain_71 rfl (by rfl) (by decide) rfl ?_
            refine aw_aload_n 10 dX8_followChain_74 rfl rfl ?_
            refine aw_get fX8_20 dX8_followChain_75 f5764 rfl ?_
            refine aw_iload 7 dX8_followChain_78 rfl ?_
            refine aw_bipush (10) dX8_followChain_80 (by decide) ?_
            refine aw_imul dX8_followChain_82 ?_
            refine aw_toe (nI (fr * 10)) (nv_mul (rfl) (rfl)) ?_
            refine aw_iload 6 dX8_followChain_83 rfl ?_
            refine aw_iadd dX8_followChain_85 ?_
            refine aw_toe (nI ((fr * 10) + q)) (nv_add (rfl) (rfl)) ?_
            refine aw_iload 3 dX8_followChain_86 rfl ?_
            refine aw_bipush (10) dX8_followChain_88 (by decide) ?_
            refine aw_imul dX8_followChain_90 ?_
            refine aw_toe (nI ((y0 / 100 % 10 - 1) * 10)) (nv_mul (rfl) (rfl)) ?_
            refine aw_iload 1 dX8_followChain_91 rfl ?_
            refine aw_iadd dX8_followChain_93 ?_
            refine aw_toe (nI (((y0 / 100 % 10 - 1) * 10) + q2)) (nv_add (rfl) (rfl)) ?_
            refine aw_dV [.int (nI ((fr * 10) + q)), .int (nI (((y0 / 100 % 10 - 1) * 10) + q2))] [] lX8_121 vX1_likeness mX1_likeness dX8_followChain_94 (aX1_likeness (m := m) (se := se) (ye := ye) (fi := fi) (W := W) (Sn := Sn) (Z := Z) (Ro := Ro) (Co := Co) (Ba := Ba) (nb := nb) (sp := sp) (fa := fa) (ve := ve) (e := (fr * 10) + q) (f := ((y0 / 100 % 10 - 1) * 10) + q2) f5765 f5766 f5767 f5768 f5769 f5770 f5771 f5772 f5773 f5774 f5775 hm hse hfi hye (by omega) (by omega)) f5765 rfl rfl rfl (Nat.le_of_ble_eq_true rfl) (by decide) (by decide) rfl ?_
            refine aw_toe (nI (lx fr (y0 / 100 % 10 - 1) q q2)) (hlx fr (by omega) (y0 / 100 % 10 - 1) (by omega) q (by omega) q2 (by omega)) ?_
            refine aw_istore [(13, .int (nI (lx fr (y0 / 100 % 10 - 1) q q2))), (7, .int (sv + 1)), (12, .int (nI q2)), (11, .ref (G.1 + P)), (10, .int (nI (y0 / 100 % 10 - 1))), (9, .int 100), (8, .int dv), (6, .int (nI q)), (5, .int (nI fr)), (4, .int w), (3, .int (nI y0)), (0, .ref (G.1 + 0))] dX8_followChain_97 (by decide) rfl ?_
            refine aw_iload 6 dX8_followChain_99 rfl ?_
            refine aw_iconst (0) dX8_followChain_101 (by decide) ?_
            refine aw_bipush (100) dX8_followChain_102 (by decide) ?_
            refine aw_iload 0 dX8_followChain_104 rfl ?_
            refine aw_isub dX8_followChain_106 ?_
            refine aw_mmax lX8_251 dX8_followChain_107 (Nat.le_of_ble_eq_true rfl) (by decide) (by decide) ?_
            refine aw_toe (chX (nI (lx fr (y0 / 100 % 10 - 1) q q2))) (rfl) ?_
            refine aw_aload 3 dX8_followChain_110 rfl ?_
            refine aw_get fX8_137 dX8_followChain_112 f5754 rfl ?_
            refine aw_iload 7 dX8_followChain_115 rfl ?_
            refine aw_zald q (rfl) (by omega) (by decide) dX8_followChain_117 f5756 ?_
            refine aw_if_eq 125 dX8_followChain_118 (by decide) (fun c118 => ?_) (fun c118 => ?_)
            · have d118 := (j_eq (a := (ce15745 q).toInt) (b := (0)) (rfl) (rfl)).mp c118
              refine aw_bipush (50) dX8_followChain_125 (by decide) ?_
              refine aw_iadd dX8_followChain_127 ?_
              refine aw_iadd dX8_followChain_128 ?_
              refine aw_istore [(8, .int (dv + ((chX (nI (lx fr (y0 / 100 % 10 - 1) q q2))) + 50))), (13, .int (nI (lx fr (y0 / 100 % 10 - 1) q q2))), (7, .int (sv + 1)), (12, .int (nI q2)), (11, .ref (G.1 + P)), (10, .int (nI (y0 / 100 % 10 - 1))), (9, .int 100), (6, .int (nI q)), (5, .int (nI fr)), (4, .int w), (3, .int (nI y0)), (0, .ref (G.1 + 0))] dX8_followChain_129 (by decide) rfl ?_
              refine aw_iload 5 dX8_followChain_131 rfl ?_
              refine aw_istore [(5, .int (nI (y0 / 100 % 10 - 1))), (8, .int (dv + ((chX (nI (lx fr (y0 / 100 % 10 - 1) q q2))) + 50))), (13, .int (nI (lx fr (y0 / 100 % 10 - 1) q q2))), (7, .int (sv + 1)), (12, .int (nI q2)), (11, .ref (G.1 + P)), (10, .int (nI (y0 / 100 % 10 - 1))), (9, .int 100), (6, .int (nI q)), (4, .int w), (3, .int (nI y0)), (0, .ref (G.1 + 0))] dX8_followChain_133 (by decide) rfl ?_
              refine aw_iload 4 dX8_followChain_135 rfl ?_
              refine aw_istore [(6, .int (nI q2)), (5, .int (nI (y0 / 100 % 10 - 1))), (8, .int (dv + ((chX (nI (lx fr (y0 / 100 % 10 - 1) q q2))) + 50))), (13, .int (nI (lx fr (y0 / 100 % 10 - 1) q q2))), (7, .int (sv + 1)), (12, .int (nI q2)), (11, .ref (G.1 + P)), (10, .int (nI (y0 / 100 % 10 - 1))), (9, .int 100), (4, .int w), (3, .int (nI y0)), (0, .ref (G.1 + 0))] dX8_followChain_137 (by decide) rfl ?_
              refine aw_iload 8 dX8_followChain_139 rfl ?_
              refine aw_bipush (10) dX8_followChain_141 (by decide) ?_
              refine aw_idiv dX8_followChain_143 (by decide) ?_
              refine aw_toe 10 (by decide) ?_
              refine aw_istore [(9, .int 10), (6, .int (nI q2)), (5, .int (nI (y0 / 100 % 10 - 1))), (8, .int (dv + ((chX (nI (lx fr (y0 / 100 % 10 - 1) q q2))) + 50))), (13, .int (nI (lx fr (y0 / 100 % 10 - 1) q q2))), (7, .int (sv + 1)), (12, .int (nI q2)), (11, .ref (G.1 + P)), (10, .int (nI (y0 / 100 % 10 - 1))), (4, .int w), (3, .int (nI y0)), (0, .ref (G.1 + 0))] dX8_followChain_144 (by decide) rfl ?_
              refine aw_goto 16 dX8_followChain_146 (by decide) ?_
              refine aw_lv [(9, .int 10), (8, .int (dv + ((chX (nI (lx fr (y0 / 100 % 10 - 1) q q2))) + 50))), (7, .int (sv + 1)), (6, .int (nI q2)), (5, .int (nI (y0 / 100 % 10 - 1))), (4, .int w), (3, .int (nI y0)), (0, .ref (G.1 + 0))] [0, 3, 5, 1, 2, 9, 10, 11] rfl ?_
              exact ih5644 2 (nI q2) (y0 / 100 % 10 - 1) (dv + ((chX (nI (lx fr (y0 / 100 % 10 - 1) q q2))) + 50)) (sv + 1) u15733 v15734 ro15735 co15736 rc15737 lk15738 bs15739 wy15740 nw15741 _ (by omega) (by decide) (Or.inr ⟨_, bq2, bq2f, rfl⟩) (by omega) (p5758) (p5759) (p5760) (p5761) (hJ2) (hcv.trans (chV_s (t := y0 / 100 % 10 - 1) (by omega) (by omega) (by show ¬ y0 / 100 % 10 = 0; omega) rfl hP (cc_0 (p5763.2.2.2 q (by omega)) c118))) f5764 f5765 f5766 f5767 f5768 f5769 f5770 f5771 f5772 f5773 f5774 f5775 f5776 f5748 f5749 f5750 f5751 f5752 f5753 (rg2_tr (k5643) (rg2_w2 k5757 (by omega) (by omega)))
            · have d118 := mt (j_eq (a := (ce15745 q).toInt) (b := (0)) (rfl) (rfl)).mpr c118
              refine aw_iconst (0) dX8_followChain_121 (by decide) ?_
              refine aw_goto 127 dX8_followChain_122 (by decide) ?_
              refine aw_iadd dX8_followChain_127 ?_
              refine aw_iadd dX8_followChain_128 ?_
              refine aw_istore [(8, .int (dv + ((chX (nI (lx fr (y0 / 100 % 10 - 1) q q2))) + 0))), (13, .int (nI (lx fr (y0 / 100 % 10 - 1) q q2))), (7, .int (sv + 1)), (12, .int (nI q2)), (11, .ref (G.1 + P)), (10, .int (nI (y0 / 100 % 10 - 1))), (9, .int 100), (6, .int (nI q)), (5, .int (nI fr)), (4, .int w), (3, .int (nI y0)), (0, .ref (G.1 + 0))] dX8_followChain_129 (by decide) rfl ?_
              refine aw_iload 5 dX8_followChain_131 rfl ?_
              refine aw_istore [(5, .int (nI (y0 / 100 % 10 - 1))), (8, .int (dv + ((chX (nI (lx fr (y0 / 100 % 10 - 1) q q2))) + 0))), (13, .int (nI (lx fr (y0 / 100 % 10 - 1) q q2))), (7, .int (sv + 1)), (12, .int (nI q2)), (11, .ref (G.1 + P)), (10, .int (nI (y0 / 100 % 10 - 1))), (9, .int 100), (6, .int (nI q)), (4, .int w), (3, .int (nI y0)), (0, .ref (G.1 + 0))] dX8_followChain_133 (by decide) rfl ?_
              refine aw_iload 4 dX8_followChain_135 rfl ?_
              refine aw_istore [(6, .int (nI q2)), (5, .int (nI (y0 / 100 % 10 - 1))), (8, .int (dv + ((chX (nI (lx fr (y0 / 100 % 10 - 1) q q2))) + 0))), (13, .int (nI (lx fr (y0 / 100 % 10 - 1) q q2))), (7, .int (sv + 1)), (12, .int (nI q2)), (11, .ref (G.1 + P)), (10, .int (nI (y0 / 100 % 10 - 1))), (9, .int 100), (4, .int w), (3, .int (nI y0)), (0, .ref (G.1 + 0))] dX8_followChain_137 (by decide) rfl ?_
              refine aw_iload 8 dX8_followChain_139 rfl ?_
              refine aw_bipush (10) dX8_followChain_141 (by decide) ?_
              refine aw_idiv dX8_followChain_143 (by decide) ?_
              refine aw_toe 10 (by decide) ?_
              refine aw_istore [(9, .int 10), (6, .int (nI q2)), (5, .int (nI (y0 / 100 % 10 - 1))), (8, .int (dv + ((chX (nI (lx fr (y0 / 100 % 10 - 1) q q2))) + 0))), (13, .int (nI (lx fr (y0 / 100 % 10 - 1) q q2))), (7, .int (sv + 1)), (12, .int (nI q2)), (11, .ref (G.1 + P)), (10, .int (nI (y0 / 100 % 10 - 1))), (4, .int w), (3, .int (nI y0)), (0, .ref (G.1 + 0))] dX8_followChain_144 (by decide) rfl ?_
              refine aw_goto 16 dX8_followChain_146 (by decide) ?_
              refine aw_lv [(9, .int 10), (8, .int (dv + ((chX (nI (lx fr (y0 / 100 % 10 - 1) q q2))) + 0))), (7, .int (sv + 1)), (6, .int (nI q2)), (5, .int (nI (y0 / 100 % 10 - 1))), (4, .int w), (3, .int (nI y0)), (0, .ref (G.1 + 0))] [0, 3, 5, 1, 2, 9, 10, 11] rfl ?_
              exact ih5644 2 (nI q2) (y0 / 100 % 10 - 1) (dv + ((chX (nI (lx fr (y0 / 100 % 10 - 1) q q2))) + 0)) (sv + 1) u15733 v15734 ro15735 co15736 rc15737 lk15738 bs15739 wy15740 nw15741 _ (by omega) (by decide) (Or.inr ⟨_, bq2, bq2f, rfl⟩) (by omega) (p5758) (p5759) (p5760) (p5761) (hJ2) (hcv.trans (chV_s (t := y0 / 100 % 10 - 1) (by omega) (by omega) (by show ¬ y0 / 100 % 10 = 0; omega) rfl hP (cc_1 (p5763.2.2.2 q (by omega)) c118))) f5764 f5765 f5766 f5767 f5768 f5769 f5770 f5771 f5772 f5773 f5774 f5775 f5776 f5748 f5749 f5750 f5751 f5752 f5753 (rg2_tr (k5643) (rg2_w2 k5757 (by omega) (by omega)))
