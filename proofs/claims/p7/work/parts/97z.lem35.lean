/-- the things of a shelf, both ways of reading them -/
theorem thL_m {st : Nat} : ∀ d a, (thL st a).length ≤ (thL st (a + d)).length
  | 0, _ => Nat.le_refl _
  | d + 1, a => by
    have h := thL_m (st := st) d a
    rw [← Nat.add_assoc]
    cases q : st.testBit (a + d) with
    | true => rw [thL_t q, List.length_append]; omega
    | false => rw [thL_f q]; exact h
theorem rt_rd {st : Nat} {tg0 : Nat → Int32} {po0 tgM : Nat → Nat} (hp : popN st ≤ 8) : ∀ a, a ≤ 12 → (rtF st tg0 po0 a).1 = (rdF st tgM a).1 ∧ (∀ j, j < (rdF st tgM a).1 → (rtF st tg0 po0 a).2.1 j = nI ((rdF st tgM a).2 j) ∧ (rtF st tg0 po0 a).2.2 ((rdF st tgM a).2 j) = j ∧ (rdF st tgM a).2 j < a ∧ st.testBit ((rdF st tgM a).2 j) = true) ∧ (∀ t, t < a → st.testBit t = true → (rtF st tg0 po0 a).2.2 t < (rdF st tgM a).1 ∧ (rdF st tgM a).2 ((rtF st tg0 po0 a).2.2 t) = t) := by
  intro a
  induction a with
  | zero => intro _; exact ⟨rfl, fun j h => absurd h (Nat.not_lt_zero _), fun t h => absurd h (Nat.not_lt_zero _)⟩
  | succ a ih =>
    intro ha
    obtain ⟨h1, h2, h3⟩ := ih (by omega)
    cases q : st.testBit a with
    | false =>
      have e1 : rtF st tg0 po0 (a + 1) = rtF st tg0 po0 a := by rw [rtF_s, if_neg (by rw [q]; exact fun w => absurd w.1 (by decide))]
      have e2 : rdF st tgM (a + 1) = rdF st tgM a := by simp only [rdF]; rw [if_neg (by rw [q]; decide)]
      rw [e1, e2]
      refine ⟨h1, fun j hj => ?_, fun t ht bt => ?_⟩
      · obtain ⟨a1, a2, a3, a4⟩ := h2 j hj
        exact ⟨a1, a2, by omega, a4⟩
      · have : t ≠ a := fun e => by rw [e, q] at bt; exact absurd bt (by decide)
        exact h3 t (by omega) bt
    | true =>
      have l1 := rdF_len (st := st) (tg := tgM) (a + 1)
      have l2 := thL_m (st := st) (12 - (a + 1)) (a + 1)
      rw [show a + 1 + (12 - (a + 1)) = 12 by omega, ← popL] at l2
      have e2 : rdF st tgM (a + 1) = ((rdF st tgM a).1 + 1, un (rdF st tgM a).2 (rdF st tgM a).1 a) := by simp only [rdF]; rw [if_pos q]
      have l3 : (rdF st tgM a).1 + 1 ≤ 8 := by rw [e2] at l1; dsimp only at l1; omega
      have e1 : rtF st tg0 po0 (a + 1) = ((rtF st tg0 po0 a).1 + 1, upd (rtF st tg0 po0 a).2.1 (rtF st tg0 po0 a).1 (nI a), un (rtF st tg0 po0 a).2.2 a (rtF st tg0 po0 a).1) := by rw [rtF_s, if_pos ⟨q, by omega⟩]
      rw [e1, e2, h1]
      dsimp only
      refine ⟨rfl, fun j hj => ?_, fun t ht bt => ?_⟩
      · by_cases e : j = (rdF st tgM a).1
        · rw [e, un_s, un_s]
          exact ⟨by simp [upd], rfl, by omega, q⟩
        · obtain ⟨a1, a2, a3, a4⟩ := h2 j (by omega)
          rw [un_n e, un_n (by omega : (rdF st tgM a).2 j ≠ a)]
          exact ⟨by simp only [upd, if_neg e]; exact a1, a2, by omega, a4⟩
      · by_cases e : t = a
        · rw [e, un_s, un_s]; exact ⟨by omega, rfl⟩
        · obtain ⟨b1, b2⟩ := h3 t (by omega) bt
          rw [un_n e, un_n (by omega : (rtF st tg0 po0 a).2.2 t ≠ (rdF st tgM a).1)]
          exact ⟨by omega, b2⟩
def shX (st sz : Nat) (tg po : Nat → Nat) : Prop := sz ≤ 8 ∧ (∀ j, j < sz → po (tg j) = j ∧ tg j < 12 ∧ st.testBit (tg j) = true) ∧ (∀ t, t < 12 → st.testBit t = true → po t < sz ∧ tg (po t) = t)
theorem sd_i {tg : Nat → Nat} {p t : Nat} : ∀ n, sdF tg p t n = true ↔ ∃ j, j < n ∧ p.testBit j = true ∧ tg j = t := by
  intro n
  induction n with
  | zero => simp [sdF]
  | succ n ih =>
    simp only [sdF, Bool.or_eq_true, decide_eq_true_eq, ih]
    constructor
    · rintro (⟨j, h1, h2⟩ | h)
      · exact ⟨j, by omega, h2⟩
      · exact ⟨n, by omega, h⟩
    · rintro ⟨j, h1, h2⟩
      by_cases e : j = n
      · subst e; exact Or.inr h2
      · exact Or.inl ⟨j, by omega, h2⟩
/-- sums of trusts -/
theorem ac3 (a b c : Int32) : a + b + c = a + c + b := by rw [Int32.add_assoc, Int32.add_comm b c, ← Int32.add_assoc]
theorem up_v {f : Nat → Int32} {o j : Nat} {t : Int32} : upd f o (f o + t) j = f j + (if o = j then t else 0) := by
  by_cases e : o = j
  · subst e; rw [if_pos rfl]; simp [upd]
  · rw [if_neg e, Int32.add_zero]; simp only [upd, if_neg (Ne.symm e)]
theorem it_a {c : Prop} [Decidable c] {X Y : Int32} : (if c then X + Y else 0) = (if c then X else 0) + (if c then Y else 0) := by
  by_cases h : c
  · rw [if_pos h, if_pos h, if_pos h]
  · rw [if_neg h, if_neg h, if_neg h, Int32.add_zero]
theorem it_n {c d : Prop} [Decidable c] [Decidable d] {t : Int32} : (if c then (if d then t else 0) else 0) = if c ∧ d then t else 0 := by
  by_cases h : c
  · by_cases g : d
    · rw [if_pos h, if_pos g, if_pos ⟨h, g⟩]
    · rw [if_pos h, if_neg g, if_neg (fun q => g q.2)]
  · rw [if_neg h, if_neg (fun q => h q.1)]
theorem it_c {c d : Prop} [Decidable c] [Decidable d] {t : Int32} (h : c ↔ d) : (if c then t else 0) = if d then t else 0 := by
  by_cases g : c
  · rw [if_pos g, if_pos (h.mp g)]
  · rw [if_neg g, if_neg (fun q => g (h.mpr q))]
section GL
variable {le re lf le' re' : Nat → Int32} {sz p nx o k : Nat} {t d : Int32}
theorem glF_l (hk : k < 8) (hn : nx < 8) : ∀ i, glF le re (upd lf (o * 8 + k) (lf (o * 8 + k) + t)) sz p nx i = glF le re lf sz p nx i + (if o < i ∧ p.testBit o = true ∧ k = nx then t else 0) := by
  intro i
  induction i with
  | zero => simp only [glF]; rw [if_neg (fun q => absurd q.1 (Nat.not_lt_zero _)), Int32.add_zero]
  | succ i ih =>
    simp only [glF]
    by_cases b : p.testBit i = true
    · rw [if_pos b, if_pos b, ih, up_v]
      by_cases e : o * 8 + k = i * 8 + nx
      · have e1 : o = i := by omega
        have e2 : k = nx := by omega
        rw [if_pos e, if_neg (by omega), if_pos ⟨by omega, by rw [e1]; exact b, e2⟩, Int32.add_zero, Int32.add_assoc]
      · rw [if_neg e, Int32.add_zero, ac3]
        congr 1
        apply it_c
        constructor
        · rintro ⟨q1, q2⟩; exact ⟨by omega, q2⟩
        · rintro ⟨q1, q2, q3⟩; exact ⟨by omega, q2, q3⟩
    · rw [if_neg b, if_neg b, ih]
      congr 1
      apply it_c
      constructor
      · rintro ⟨q1, q2⟩; exact ⟨by omega, q2⟩
      · rintro ⟨q1, q2, q3⟩
        have : o ≠ i := fun e => b (e ▸ q2)
        exact ⟨by omega, q2, q3⟩
theorem glF_g (h : gbF le' re' sz p nx = gbF le re sz p nx + d) : ∀ i, glF le' re' lf sz p nx i = glF le re lf sz p nx i + d := by
  intro i
  induction i with
  | zero => exact h
  | succ i ih =>
    simp only [glF]
    by_cases b : p.testBit i = true
    · rw [if_pos b, if_pos b, ih, ac3]
    · rw [if_neg b, if_neg b, ih]
theorem gbF_s : gbF le re sz p nx = (if p = 0 then le nx else 0) + (if p ||| 2 ^ nx = 2 ^ sz - 1 then re nx else 0) := by
  unfold gbF
  by_cases f : p ||| 2 ^ nx = 2 ^ sz - 1
  · rw [if_pos f, if_pos f]
  · rw [if_neg f, if_neg f, Int32.add_zero]
theorem gbF_2 : gbF (upd le o (le o + t)) re sz p nx = gbF le re sz p nx + (if p = 0 ∧ o = nx then t else 0) := by
  rw [gbF_s, gbF_s, up_v, it_a, ac3, it_n]
theorem gbF_3 : gbF le (upd re o (re o + t)) sz p nx = gbF le re sz p nx + (if p ||| 2 ^ nx = 2 ^ sz - 1 ∧ o = nx then t else 0) := by
  rw [gbF_s, gbF_s, up_v, it_a, ← Int32.add_assoc, it_n]
end GL
/-- what a thing brings, the class's way -/
def gV (T : trT) (sz p la nx : Nat) : Int32 := glF T.2.2.1 T.2.2.2 T.1 sz p nx sz + (if p = 0 then 0 else T.2.1 (la * 8 + nx))
def gC (s o k sz p la nx : Nat) : Prop := (s = 0 ∧ p.testBit o = true ∧ k = nx) ∨ (s = 1 ∧ p ≠ 0 ∧ ((o = nx ∧ k = la) ∨ (k = nx ∧ o = la))) ∨ (s = 2 ∧ p = 0 ∧ o = nx) ∨ (s = 3 ∧ p ||| 2 ^ nx = 2 ^ sz - 1 ∧ o = nx)
theorem gv_up {T : trT} {s o k sz p la nx : Nat} {t : Int32} (hs : s < 4) (ho : o < sz) (hk : k < sz) (hsz : sz ≤ 8) (hnx : nx < sz) (hla : la < sz) (hne : p ≠ 0 → la ≠ nx) : gV (atF s o k t T) sz p la nx = gV T sz p la nx + (@ite Int32 (gC s o k sz p la nx) (Classical.propDecidable _) t 0) := by
  have key : ∀ (c : Prop) (_ : Decidable c), (c ↔ gC s o k sz p la nx) → (if c then t else 0) = @ite Int32 (gC s o k sz p la nx) (Classical.propDecidable _) t 0 := by
    intro c _ h
    by_cases g : c
    · rw [if_pos g, if_pos (h.mp g)]
    · rw [if_neg g, if_neg (fun q => g (h.mpr q))]
  rcases (by omega : s = 0 ∨ s = 1 ∨ s = 2 ∨ s = 3) with e | e | e | e
  · rw [← key (o < sz ∧ p.testBit o = true ∧ k = nx) inferInstance (by
      unfold gC
      constructor
      · rintro ⟨_, q⟩; exact Or.inl ⟨e, q⟩
      · rintro (q | q | q | q)
        · exact ⟨ho, q.2⟩
        · exact absurd q.1 (by omega)
        · exact absurd q.1 (by omega)
        · exact absurd q.1 (by omega))]
    subst e
    show glF T.2.2.1 T.2.2.2 (upd T.1 (o * 8 + k) (T.1 (o * 8 + k) + t)) sz p nx sz + (if p = 0 then 0 else T.2.1 (la * 8 + nx)) = glF T.2.2.1 T.2.2.2 T.1 sz p nx sz + (if p = 0 then 0 else T.2.1 (la * 8 + nx)) + _
    rw [glF_l (by omega) (by omega), ac3]
  · rw [← key (p ≠ 0 ∧ ((o = nx ∧ k = la) ∨ (k = nx ∧ o = la))) inferInstance (by
      unfold gC
      constructor
      · intro q; exact Or.inr (Or.inl ⟨e, q⟩)
      · rintro (q | q | q | q)
        · exact absurd q.1 (by omega)
        · exact q.2
        · exact absurd q.1 (by omega)
        · exact absurd q.1 (by omega))]
    subst e
    show glF T.2.2.1 T.2.2.2 T.1 sz p nx sz + (if p = 0 then 0 else upd (upd T.2.1 (o * 8 + k) (T.2.1 (o * 8 + k) + t)) (k * 8 + o) (upd T.2.1 (o * 8 + k) (T.2.1 (o * 8 + k) + t) (k * 8 + o) + t) (la * 8 + nx)) = glF T.2.2.1 T.2.2.2 T.1 sz p nx sz + (if p = 0 then 0 else T.2.1 (la * 8 + nx)) + _
    by_cases hp : p = 0
    · rw [if_pos hp, if_pos hp, if_neg (fun q => q.1 hp), Int32.add_zero, Int32.add_zero]
    · have hn := hne hp
      rw [if_neg hp, if_neg hp, up_v, up_v]
      by_cases c1 : o * 8 + k = la * 8 + nx
      · rw [if_pos c1, if_neg (by omega), if_pos ⟨hp, Or.inr ⟨by omega, by omega⟩⟩, Int32.add_zero, Int32.add_assoc]
      · by_cases c2 : k * 8 + o = la * 8 + nx
        · rw [if_neg c1, if_pos c2, if_pos ⟨hp, Or.inl ⟨by omega, by omega⟩⟩, Int32.add_zero, Int32.add_assoc]
        · rw [if_neg c1, if_neg c2, if_neg (by rintro ⟨_, q | q⟩ <;> omega), Int32.add_zero, Int32.add_zero, Int32.add_zero]
  · rw [← key (p = 0 ∧ o = nx) inferInstance (by
      unfold gC
      constructor
      · intro q; exact Or.inr (Or.inr (Or.inl ⟨e, q⟩))
      · rintro (q | q | q | q)
        · exact absurd q.1 (by omega)
        · exact absurd q.1 (by omega)
        · exact q.2
        · exact absurd q.1 (by omega))]
    subst e
    show glF (upd T.2.2.1 o (T.2.2.1 o + t)) T.2.2.2 T.1 sz p nx sz + (if p = 0 then 0 else T.2.1 (la * 8 + nx)) = glF T.2.2.1 T.2.2.2 T.1 sz p nx sz + (if p = 0 then 0 else T.2.1 (la * 8 + nx)) + _
    rw [glF_g gbF_2, ac3]
  · rw [← key (p ||| 2 ^ nx = 2 ^ sz - 1 ∧ o = nx) inferInstance (by
      unfold gC
      constructor
      · intro q; exact Or.inr (Or.inr (Or.inr ⟨e, q⟩))
      · rintro (q | q | q | q)
        · exact absurd q.1 (by omega)
        · exact absurd q.1 (by omega)
        · exact absurd q.1 (by omega)
        · exact q.2)]
    subst e
    show glF T.2.2.1 (upd T.2.2.2 o (T.2.2.2 o + t)) T.1 sz p nx sz + (if p = 0 then 0 else T.2.1 (la * 8 + nx)) = glF T.2.2.1 T.2.2.2 T.1 sz p nx sz + (if p = 0 then 0 else T.2.1 (la * 8 + nx)) + _
    rw [glF_g gbF_3, ac3]
theorem gl_0 {le re lf : Nat → Int32} {sz p nx : Nat} (hn : nx < 8) (h0 : ∀ j, j < 8 → le j = 0 ∧ re j = 0) (hl : ∀ j, j < 64 → lf j = 0) : ∀ i, i ≤ 8 → glF le re lf sz p nx i = 0 := by
  intro i
  induction i with
  | zero =>
    intro _
    show gbF le re sz p nx = 0
    rw [gbF_s, (h0 nx hn).1, (h0 nx hn).2]
    (repeat' split) <;> rfl
  | succ i ih =>
    intro h
    simp only [glF]
    rw [ih (by omega), hl (i * 8 + nx) (by omega)]
    split <;> rfl
section SE
variable {st sz n : Nat} {so xx yy tr tg po : Nat → Nat} {T0 : trT}
theorem se_w {p L la nx : Nat} (X : shX st sz tg po) (bso : ∀ j, j < 40 → so j < 4) (bxx : ∀ j, j < 40 → xx j < 12) (byy : ∀ j, j < 40 → yy j < 12) (hyx : ∀ j, j < n → 2 ≤ so j → yy j = xx j) (hn : n ≤ 40) (h0 : ∀ j, j < 8 → T0.2.2.1 j = 0 ∧ T0.2.2.2 j = 0) (h1 : ∀ j, j < 64 → T0.1 j = 0 ∧ T0.2.1 j = 0)
    (hnx : nx < sz) (hb : ¬ p.testBit nx = true) (hla : la < sz) (hL : (p = 0 ∧ L = 0) ∨ (p ≠ 0 ∧ L = la + 1 ∧ p.testBit la = true)) : ∀ a, a ≤ n → gV (twF st so xx yy tr po T0 a).2 sz p la nx = nI (wnF st so xx yy tr tg sz p L nx a) := by
  obtain ⟨x1, x2, x3⟩ := X
  intro a
  induction a with
  | zero =>
    intro _
    show glF T0.2.2.1 T0.2.2.2 T0.1 sz p nx sz + (if p = 0 then 0 else T0.2.1 (la * 8 + nx)) = 0
    rw [gl_0 (by omega) h0 (fun j hj => (h1 j hj).1) sz x1, (h1 (la * 8 + nx) (by omega)).2]
    split <;> rfl
  | succ a ih =>
    intro ha
    have e := ih (by omega)
    have hne : p ≠ 0 → la ≠ nx := by
      intro hp ee
      rcases hL with q | q
      · exact hp q.1
      · rw [ee] at q; exact hb q.2.2
    rw [twF_s]
    simp only [wnF]
    by_cases on : st.testBit (xx a) = true ∧ st.testBit (yy a) = true
    · obtain ⟨ox, ex⟩ := x3 (xx a) (bxx a (by omega)) on.1
      obtain ⟨oy, ey⟩ := x3 (yy a) (byy a (by omega)) on.2
      rw [if_pos on]
      show gV (atF (so a) (po (xx a)) (po (yy a)) (nI (tr a)) (twF st so xx yy tr po T0 a).2) sz p la nx = _
      rw [gv_up (bso a (by omega)) ox oy x1 hnx hla hne, e, ← nI_add]
      congr 1
      have ix : xx a = tg nx ↔ po (xx a) = nx := ⟨fun q => by rw [q]; exact (x2 nx hnx).1, fun q => by rw [← q]; exact ex.symm⟩
      have iy : yy a = tg nx ↔ po (yy a) = nx := ⟨fun q => by rw [q]; exact (x2 nx hnx).1, fun q => by rw [← q]; exact ey.symm⟩
      have jx : xx a = tg la ↔ po (xx a) = la := ⟨fun q => by rw [q]; exact (x2 la hla).1, fun q => by rw [← q]; exact ex.symm⟩
      have jy : yy a = tg la ↔ po (yy a) = la := ⟨fun q => by rw [q]; exact (x2 la hla).1, fun q => by rw [← q]; exact ey.symm⟩
      have is : sdF tg p (xx a) sz = true ↔ p.testBit (po (xx a)) = true := by
        rw [sd_i]
        constructor
        · rintro ⟨j, q1, q2, q3⟩
          rw [← q3, (x2 j q1).1]; exact q2
        · intro q; exact ⟨po (xx a), ox, q, ex⟩
      have c : gC (so a) (po (xx a)) (po (yy a)) sz p la nx ↔ wnB st so xx yy tg sz p L nx a = true := by
        rw [wnB_i]
        unfold gC wnC
        constructor
        · intro q
          refine ⟨on.1, Or.inr on.2, ?_⟩
          rcases q with ⟨q1, q2, q3⟩ | ⟨q1, q2, q3⟩ | ⟨q1, q2, q3⟩ | ⟨q1, q2, q3⟩
          · exact Or.inl ⟨q1, iy.mpr q3, is.mpr q2⟩
          · rcases hL with w | ⟨_, w, _⟩
            · exact absurd w.1 q2
            · refine Or.inr (Or.inl ⟨q1, by omega, ?_⟩)
              rw [w, Nat.add_sub_cancel]
              rcases q3 with ⟨r1, r2⟩ | ⟨r1, r2⟩
              · exact Or.inl ⟨ix.mpr r1, jy.mpr r2⟩
              · exact Or.inr ⟨iy.mpr r1, jx.mpr r2⟩
          · exact Or.inr (Or.inr (Or.inl ⟨q1, ix.mpr q3, q2⟩))
          · exact Or.inr (Or.inr (Or.inr ⟨q1, ix.mpr q3, q2⟩))
        · rintro ⟨_, _, q⟩
          rcases q with ⟨q1, q2, q3⟩ | ⟨q1, q2, q3⟩ | ⟨q1, q2, q3⟩ | ⟨q1, q2, q3⟩
          · exact Or.inl ⟨q1, is.mp q3, iy.mp q2⟩
          · rcases hL with w | ⟨w0, w, _⟩
            · exfalso; omega
            · refine Or.inr (Or.inl ⟨q1, w0, ?_⟩)
              rw [w, Nat.add_sub_cancel] at q3
              rcases q3 with ⟨r1, r2⟩ | ⟨r1, r2⟩
              · exact Or.inl ⟨ix.mp r1, jy.mp r2⟩
              · exact Or.inr ⟨iy.mp r1, jx.mp r2⟩
          · exact Or.inr (Or.inr (Or.inl ⟨q1, q3, ix.mp q2⟩))
          · exact Or.inr (Or.inr (Or.inr ⟨q1, q3, ix.mp q2⟩))
      by_cases g : gC (so a) (po (xx a)) (po (yy a)) sz p la nx
      · rw [if_pos g, if_pos (c.mp g)]
      · rw [if_neg g, if_neg (fun q => g (c.mpr q))]; rfl
    · rw [if_neg on, if_neg, e]
      · rfl
      · intro q
        obtain ⟨q1, q2, _⟩ := wnB_i.mp q
        rcases q2 with w | w
        · exact on ⟨q1, by rw [hyx a (by omega) w]; exact q1⟩
        · exact on ⟨q1, w⟩
theorem to_e {po' : Nat → Nat} {T : trT} (hyx : ∀ j, j < n → 2 ≤ so j → yy j = xx j) : ∀ a, a ≤ n → (twF st so xx yy tr po' T a).1 = nI (toF st so xx yy tr a) := by
  intro a
  induction a with
  | zero => intro _; rfl
  | succ a ih =>
    intro ha
    rw [twF_s]
    simp only [toF]
    by_cases on : st.testBit (xx a) = true ∧ st.testBit (yy a) = true
    · rw [if_pos on, if_pos (by unfold toB; exact decide_eq_true ⟨on.1, Or.inr on.2⟩), ← nI_add, ← ih (by omega)]
    · rw [if_neg on, if_neg, ih (by omega)]
      · rfl
      · intro q
        unfold toB at q
        obtain ⟨q1, q2⟩ := of_decide_eq_true q
        rcases q2 with w | w
        · exact on ⟨q1, by rw [hyx a (by omega) w]; exact q1⟩
        · exact on ⟨q1, w⟩
theorem gaF_at {le re lf gn : Nat → Int32} {p : Nat} : ∀ a j, j < a → gaF le re lf sz p gn a j = glF le re lf sz p j sz := by
  intro a
  induction a with
  | zero => intro j h; exact absurd h (Nat.not_lt_zero _)
  | succ a ih =>
    intro j h
    simp only [gaF]
    by_cases e : j = a
    · subst e; simp [upd]
    · simp only [upd, if_neg e]; exact ih j (by omega)
end SE
/-- the states, both ways -/
def hVS (st sz n : Nat) (so xx yy tr tg : Nat → Nat) (T : trT) : Prop := ∀ p L la nx, p < 2 ^ sz → nx < sz → ¬ p.testBit nx = true → la < sz → ((p = 0 ∧ L = 0) ∨ (p ≠ 0 ∧ L = la + 1 ∧ p.testBit la = true)) → gV T sz p la nx = nI (wnF st so xx yy tr tg sz p L nx n)
def BSi (st sz n : Nat) (so xx yy tr tg : Nat → Nat) (w : Nat) (bs : Nat → Int32) : Prop := ∀ q, w < q → q < 2 ^ sz → ∀ la, la < sz → q.testBit la = true → bs (q * 8 + la) = nI (RS st so xx yy tr tg sz n q (la + 1))
section DP
variable {st sz n : Nat} {so xx yy tr tg : Nat → Nat} {T : trT} {bs gn : Nat → Int32} {p L la : Nat}
theorem va_e {nx : Nat} (hV : hVS st sz n so xx yy tr tg T) (hB : BSi st sz n so xx yy tr tg p bs) (hp : p < 2 ^ sz) (hnx : nx < sz) (hb : ¬ p.testBit nx = true) (hla : la < sz) (hL : (p = 0 ∧ L = 0) ∨ (p ≠ 0 ∧ L = la + 1 ∧ p.testBit la = true)) : vaF (gaF T.2.2.1 T.2.2.2 T.1 sz p gn sz) bs T.2.1 p la nx = nI (vS st so xx yy tr tg sz n p L nx) := by
  have e := hV p L la nx hp hnx hb hla hL
  have e2 := hB (p ||| 2 ^ nx) (or_gt hb) (or_ps hp hnx) nx hnx (by rw [Nat.testBit_or, Nat.testBit_two_pow_self]; simp)
  unfold vaF vS
  rw [gaF_at sz nx hnx, e2, ← nI_add, ← e]
  unfold gV
  by_cases h : p = 0
  · rw [if_pos h, if_pos h, Int32.add_zero]
  · rw [if_neg h, if_neg h, ac3]
theorem ws_e (hV : hVS st sz n so xx yy tr tg T) (hB : BSi st sz n so xx yy tr tg p bs) (hp : p < 2 ^ sz) (hla : la < sz) (hL : (p = 0 ∧ L = 0) ∨ (p ≠ 0 ∧ L = la + 1 ∧ p.testBit la = true)) (ht : ∀ j, j < 40 → tr j ≤ 9) (hn : n ≤ 40) : ∀ i, i ≤ sz → wsF (gaF T.2.2.1 T.2.2.2 T.1 sz p gn sz) bs T.2.1 p la i = nI (mxF (vS st so xx yy tr tg sz n p L) p i) := by
  intro i
  induction i with
  | zero => intro _; rfl
  | succ i ih =>
    intro hi
    simp only [wsF, mxF]
    by_cases b : p.testBit i = true
    · rw [if_pos b, if_pos b]; exact ih (by omega)
    · have b1 := mxF_le (p := p) (vS_le (st := st) (so := so) (xx := xx) (yy := yy) (tg := tg) (sh := sz) (p := p) (L := L) ht hn) i
      have b2 := vS_le (st := st) (so := so) (xx := xx) (yy := yy) (tg := tg) (sh := sz) (p := p) (L := L) ht hn i
      rw [if_neg b, if_neg b, ih (by omega), va_e hV hB hp (by omega) b hla hL]
      exact nv_max rfl rfl (by omega) (by omega)
theorem wl_e (hV : hVS st sz n so xx yy tr tg T) (hsz : sz ≤ 8) (hB : BSi st sz n so xx yy tr tg p bs) (hp : p < 2 ^ sz) (h0 : p ≠ 0) (ht : ∀ j, j < 40 → tr j ≤ 9) (hn : n ≤ 40) : ∀ i, i ≤ sz → BSi st sz n so xx yy tr tg p (wlF (gaF T.2.2.1 T.2.2.2 T.1 sz p gn sz) T.2.1 sz p bs i) ∧ ∀ la, la < i → p.testBit la = true → wlF (gaF T.2.2.1 T.2.2.2 T.1 sz p gn sz) T.2.1 sz p bs i (p * 8 + la) = nI (RS st so xx yy tr tg sz n p (la + 1)) := by
  intro i
  induction i with
  | zero => intro _; exact ⟨hB, fun la h => absurd h (Nat.not_lt_zero _)⟩
  | succ i ih =>
    intro hi
    obtain ⟨q1, q2⟩ := ih (by omega)
    simp only [wlF]
    by_cases b : p.testBit i = true
    · rw [if_pos b]
      have e := ws_e (gn := gn) (la := i) (L := i + 1) hV q1 hp (by omega) (Or.inr ⟨h0, rfl, b⟩) ht hn sz (Nat.le_refl _)
      rw [← RS_s hsz hp] at e
      refine ⟨fun q r1 r2 la r3 r4 => ?_, fun la r1 r2 => ?_⟩
      · simp only [upd, if_neg (by omega : ¬ q * 8 + la = p * 8 + i)]
        exact q1 q r1 r2 la r3 r4
      · by_cases c : la = i
        · subst c; simp only [upd, if_pos]; exact e
        · simp only [upd, if_neg (by omega : ¬ p * 8 + la = p * 8 + i)]
          exact q2 la (by omega) r2
    · rw [if_neg b]
      refine ⟨q1, fun la r1 r2 => ?_⟩
      have : la ≠ i := fun c => b (c ▸ r2)
      exact q2 la (by omega) r2
theorem wt_e (hV : hVS st sz n so xx yy tr tg T) (hsz : sz ≤ 8) (ht : ∀ j, j < 40 → tr j ≤ 9) (hn : n ≤ 40) : ∀ w (U : (Nat → Int32) × (Nat → Int32)), w < 2 ^ sz → BSi st sz n so xx yy tr tg w U.1 → BSi st sz n so xx yy tr tg 0 (wtF T.2.2.1 T.2.2.2 T.1 T.2.1 sz w U).1 := by
  intro w
  induction w with
  | zero => intro U _ h; exact h
  | succ w ih =>
    intro U hw hB
    simp only [wtF]
    apply ih _ (by omega)
    obtain ⟨q1, q2⟩ := wl_e (gn := U.2) hV hsz hB hw (by omega) ht hn sz (Nat.le_refl _)
    intro q r1 r2 la r3 r4
    by_cases e : q = w + 1
    · subst e; exact q2 la r3 r4
    · exact q1 q (by omega) r2 la r3 r4
theorem wz_v {w : Nat} {b : Nat → Int32} : ∀ i la, la < i → wzF w b i (w * 8 + la) = 0 := by
  intro i
  induction i with
  | zero => intro la h; exact absurd h (Nat.not_lt_zero _)
  | succ i ih =>
    intro la h
    simp only [wzF]
    by_cases e : la = i
    · subst e; simp [upd]
    · simp only [upd, if_neg (by omega : ¬ w * 8 + la = w * 8 + i)]; exact ih la (by omega)
theorem wz_e {b : Nat → Int32} : BSi st sz n so xx yy tr tg (2 ^ sz - 1 - 1) (wzF (2 ^ sz - 1) b sz) := by
  intro q h1 h2 la h3 _
  have e : q = 2 ^ sz - 1 := by omega
  subst e
  rw [wz_v sz la h3]
  show (0 : Int32) = nI (rsF _ sz 256 (2 ^ sz - 1) (la + 1))
  rw [rsF_all rfl]
  rfl
/-- the first thing that brings the most, both ways -/
theorem fb_fs {be : Nat → Int32} {m : Nat} {v : Nat → Nat} (hm : m < 100000) (hb : ∀ j, v j < 100000) {B : Nat} (hv : ∀ j, j < B → ¬ p.testBit j = true → vaF gn bs be p la j = nI (v j)) : ∀ f i, i + f ≤ B → (∃ j, i ≤ j ∧ j < i + f ∧ ¬ p.testBit j = true ∧ v j = m) → fbF gn bs be p la (nI m) f i = fsF v p m f i ∧ i ≤ fsF v p m f i ∧ fsF v p m f i < i + f ∧ ¬ p.testBit (fsF v p m f i) = true := by
  intro f
  induction f with
  | zero => rintro i _ ⟨j, h1, h2, _⟩; omega
  | succ f ih =>
    rintro i hB ⟨j, h1, h2, h3, h4⟩
    have go : (p.testBit i = true ∨ v i ≠ m) → (∃ j, i + 1 ≤ j ∧ j < i + 1 + f ∧ ¬ p.testBit j = true ∧ v j = m) := by
      intro q
      have : j ≠ i := by
        intro e
        subst e
        rcases q with q | q
        · exact h3 q
        · exact q h4
      exact ⟨j, by omega, by omega, h3, h4⟩
    simp only [fbF, fsF]
    by_cases b : p.testBit i = true
    · rw [if_pos b, if_pos b]
      obtain ⟨r1, r2, r3, r4⟩ := ih (i + 1) (by omega) (go (Or.inl b))
      exact ⟨r1, by omega, by omega, r4⟩
    · rw [if_neg b, if_neg b, hv i (by omega) b]
      by_cases c : v i = m
      · rw [if_pos c, if_pos (by rw [c])]
        exact ⟨rfl, Nat.le_refl _, by omega, b⟩
      · rw [if_neg c, if_neg (fun q => c ((nI_8 (hb i) hm).mp q))]
        obtain ⟨r1, r2, r3, r4⟩ := ih (i + 1) (by omega) (go (Or.inr c))
        exact ⟨r1, by omega, by omega, r4⟩
theorem tr_e {tgI to : Nat → Int32} {rw0 : Nat → Int32} (hV : hVS st sz n so xx yy tr tg T) (hsz : sz ≤ 8) (hpos : 0 < sz) (hB : BSi st sz n so xx yy tr tg 0 bs) (ht : ∀ j, j < 40 → tr j ≤ 9) (hn : n ≤ 40) (htg : ∀ j, j < sz → tgI j = nI (tg j)) : ∀ a, a ≤ sz →
    (trF T.2.2.1 T.2.2.2 T.1 T.2.1 bs tgI sz gn to a).1 = (rwF st so xx yy tr tg sz n rw0 a).1 ∧ (trF T.2.2.1 T.2.2.2 T.1 T.2.1 bs tgI sz gn to a).1 < 2 ^ sz ∧ popN (trF T.2.2.1 T.2.2.2 T.1 T.2.1 bs tgI sz gn to a).1 = a ∧ (trF T.2.2.1 T.2.2.2 T.1 T.2.1 bs tgI sz gn to a).2.1 < sz ∧
    (((trF T.2.2.1 T.2.2.2 T.1 T.2.1 bs tgI sz gn to a).1 = 0 ∧ (rwF st so xx yy tr tg sz n rw0 a).2.1 = 0) ∨ ((trF T.2.2.1 T.2.2.2 T.1 T.2.1 bs tgI sz gn to a).1 ≠ 0 ∧ (rwF st so xx yy tr tg sz n rw0 a).2.1 = (trF T.2.2.1 T.2.2.2 T.1 T.2.1 bs tgI sz gn to a).2.1 + 1 ∧ (trF T.2.2.1 T.2.2.2 T.1 T.2.1 bs tgI sz gn to a).1.testBit (trF T.2.2.1 T.2.2.2 T.1 T.2.1 bs tgI sz gn to a).2.1 = true)) ∧
    ∀ j, j < a → (trF T.2.2.1 T.2.2.2 T.1 T.2.1 bs tgI sz gn to a).2.2.2 j = (rwF st so xx yy tr tg sz n rw0 a).2.2 j := by
  have pw := pw8 sz hsz
  intro a
  induction a with
  | zero => intro _; exact ⟨rfl, by simp [trF]; omega, by simp only [trF]; exact pop_0, hpos, Or.inl ⟨rfl, rfl⟩, fun j h => absurd h (Nat.not_lt_zero _)⟩
  | succ a ih =>
    intro ha
    obtain ⟨h1, h2, h3, h4, h5, h6⟩ := ih (by omega)
    simp only [trF, rwF]
    generalize hs : trF T.2.2.1 T.2.2.2 T.1 T.2.1 bs tgI sz gn to a = s at *
    generalize hr : rwF st so xx yy tr tg sz n rw0 a = r at *
    have nf : s.1 < 2 ^ sz - 1 := by
      rcases Nat.lt_or_ge s.1 (2 ^ sz - 1) with q | q
      · exact q
      · have e : s.1 = 2 ^ sz - 1 := by omega
        rw [e, pop_all0 sz (by omega)] at h3
        omega
    have hB' : BSi st sz n so xx yy tr tg s.1 bs := fun q q1 q2 => hB q (by omega) q2
    have we := ws_e (gn := s.2.2.1) hV hB' h2 h4 h5 ht hn sz (Nat.le_refl _)
    rw [← RS_s hsz h2] at we
    rw [we]
    obtain ⟨j, j1, j2, j3⟩ := RS_at (st := st) (so := so) (xx := xx) (yy := yy) (tr := tr) (tg := tg) (sh := sz) (nv := n) (L := r.2.1) hsz nf
    have bR := RS_le (st := st) (so := so) (xx := xx) (yy := yy) (tg := tg) (sh := sz) (p := s.1) (L := r.2.1) ht hn
    obtain ⟨r1, r2, r3, r4⟩ := fb_fs (gn := gaF T.2.2.1 T.2.2.2 T.1 sz s.1 s.2.2.1 sz) (bs := bs) (be := T.2.1) (p := s.1) (la := s.2.1) (m := RS st so xx yy tr tg sz n s.1 r.2.1) (v := vS st so xx yy tr tg sz n s.1 r.2.1) (by omega) (fun j => by have := vS_le (st := st) (so := so) (xx := xx) (yy := yy) (tg := tg) (sh := sz) (p := s.1) (L := r.2.1) ht hn j; omega) (B := sz) (fun j q1 q2 => va_e hV hB' h2 q1 q2 h4 h5) sz 0 (by omega) ⟨j, Nat.zero_le _, by omega, j2, j3⟩
    rw [r1, ← h1]
    generalize fsF (vS st so xx yy tr tg sz n s.1 r.2.1) s.1 (RS st so xx yy tr tg sz n s.1 r.2.1) sz 0 = k at *
    have kb : k < sz := by omega
    refine ⟨rfl, or_ps h2 kb, by rw [pop_or0 s.1 (by omega) k (by omega) r4, h3], kb, Or.inr ⟨?_, rfl, ?_⟩, fun j hj => ?_⟩
    · have := or_gt r4; omega
    · rw [Nat.testBit_or, Nat.testBit_two_pow_self]; simp
    · by_cases e : j = a
      · subst e; simp only [upd, if_pos]; exact htg k kb
      · simp only [upd, if_neg e]; exact h6 j (by omega)
end DP
/-- what a rebuilt shelf holds is what the reference finds -/
theorem sh_S {st sz n : Nat} {so xx yy tr : Nat → Nat} {tt su : Int32} {to : Nat → Int32} (hok : SHok st so xx yy tr n sz tt su to) (h12 : st < 4096) (h0 : st ≠ 0) (hp : popN st ≤ 8) (bso : ∀ j, j < 40 → so j < 4) (bxx : ∀ j, j < 40 → xx j < 12) (byy : ∀ j, j < 40 → yy j < 12) (btr : ∀ j, j < 40 → tr j ≤ 9) (hyx : ∀ j, j < n → 2 ≤ so j → yy j = xx j) (hn : n ≤ 40) (tg : Nat → Nat) (rw0 : Nat → Int32) :
    sz = (rdF st tg 12).1 ∧ su = nI (RS st so xx yy tr (rdF st tg 12).2 (rdF st tg 12).1 n 0 0) ∧ tt = nI (toF st so xx yy tr n) ∧ ∀ j, j < sz → to j = (rwF st so xx yy tr (rdF st tg 12).2 (rdF st tg 12).1 n rw0 (rdF st tg 12).1).2.2 j := by
  obtain ⟨tg0, po0, tg1, po1, lf0, be0, le0, re0, T1, bs0, gg0, bs1, gg1, to0, _, e1, z1, z2, e2, e3, e4, e5, e6⟩ := hok
  obtain ⟨r1, r2, r3⟩ := rt_rd (tg0 := tg0) (po0 := po0) (tgM := tg) hp 12 (Nat.le_refl _)
  have rp := rtF_pos (tg := tg0) (po := po0) h12 h0
  rw [← e1] at r1 r2 r3 rp
  dsimp only at r1 r2 r3 rp
  have l1 := rdF_len (st := st) (tg := tg) 12
  rw [← popL] at l1
  generalize (rdF st tg 12).1 = s9 at *
  generalize (rdF st tg 12).2 = t9 at *
  subst r1
  have hsz : sz ≤ 8 := by omega
  have X : shX st sz t9 po1 := ⟨hsz, fun j hj => ⟨(r2 j hj).2.1, (r2 j hj).2.2⟩, r3⟩
  have eT : T1 = (twF st so xx yy tr po1 (lf0, be0, le0, re0) n).2 := congrArg Prod.snd e2
  have et : tt = (twF st so xx yy tr po1 (lf0, be0, le0, re0) n).1 := congrArg Prod.fst e2
  have hV : hVS st sz n so xx yy tr t9 T1 := by
    intro p L la nx hp1 hnx hb hla hL
    rw [eT]
    exact se_w X bso bxx byy hyx hn (T0 := (lf0, be0, le0, re0)) z2 z1 hnx hb hla hL n (Nat.le_refl _)
  have pw := pw8 sz hsz
  have hB : BSi st sz n so xx yy tr t9 0 bs1 := by
    rw [e3]
    exact wt_e hV hsz btr hn _ _ (by omega) wz_e
  refine ⟨rfl, ?_, ?_, ?_⟩
  · rw [e5, e4, ws_e hV hB (by omega) rp (Or.inl ⟨rfl, rfl⟩) btr hn sz (Nat.le_refl _), ← RS_s hsz (by omega)]
  · rw [et]; exact to_e hyx n (Nat.le_refl _)
  · intro j hj
    rw [e6]
    exact (tr_e hV hsz rp hB btr hn (fun j hj => (r2 j hj).1) sz (Nat.le_refl _)).2.2.2.2.2 j hj
theorem sh_R {st sz n : Nat} {so xx yy tr : Nat → Nat} {tt su : Int32} {to : Nat → Int32} (hok : SHok st so xx yy tr n sz tt su to) (h12 : st < 4096) (h0 : st ≠ 0) (hp : popN st ≤ 8) (bso : ∀ j, j < 40 → so j < 4) (bxx : ∀ j, j < 40 → xx j < 12) (byy : ∀ j, j < 40 → yy j < 12) (btr : ∀ j, j < 40 → tr j ≤ 9) (hyx : ∀ j, j < n → 2 ≤ so j → yy j = xx j) (hn : n ≤ 40) (tg : Nat → Nat) (rw0 : Nat → Int32) (k : Int32) : (if 0 ≤ k.toInt ∧ k.toInt < (sz : Int) then to (tn k) else -9) = (if (0 ≤ k.toInt ∧ k.toInt < ((rdF st tg 12).1 : Int)) then ((rwF st so xx yy tr (rdF st tg 12).2 (rdF st tg 12).1 n rw0 (rdF st tg 12).1).2.2 (tn k)) else -9) := by
  obtain ⟨s1, _, _, s4⟩ := sh_S hok h12 h0 hp bso bxx byy btr hyx hn tg rw0
  by_cases c : 0 ≤ k.toInt ∧ k.toInt < (sz : Int)
  · rw [if_pos c, if_pos (by rw [← s1]; exact c), s4 (tn k) (by unfold tn; omega)]
  · rw [if_neg c, if_neg (by rw [← s1]; exact c)]
