/-- the moves that count, in a line by days, then by numbers: told by what it is, whatever the way to it -/
def fdI (so ot f : Nat → Nat) : Nat → hsT
  | 0 => ([], -9, -9, 0)
  | z + 1 => foF (so (f z)) (nI (ot (f z))) (fdI so ot f z)
def LN (th dy kn go : Nat → Nat) (t d k i c : Nat) (f : Nat → Nat) : Prop := (∀ x, x < c → f x < i ∧ whC th dy kn go t d k (f x)) ∧ (∀ x y, x < y → y < c → dy (f x) < dy (f y) ∨ (dy (f x) = dy (f y) ∧ f x < f y)) ∧ (∀ p, p < i → whC th dy kn go t d k p → ∃ x, x < c ∧ f x = p)
section LL
variable {th ot dy so kn go od : Nat → Nat} {t d k n i c c' z : Nat} {f g : Nat → Nat}
theorem LN_x (h : LN th dy kn go t d k n c f) (h' : LN th dy kn go t d k n c' g) : ∀ x, x < c → x < c' → f x = g x := by
  intro x
  obtain ⟨a1, a2, a3⟩ := h
  obtain ⟨b1, b2, b3⟩ := h'
  induction x using Nat.strongRecOn with
  | ind x ih =>
    intro hx hx'
    obtain ⟨y, hy, ey⟩ := b3 (f x) (a1 x hx).1 (a1 x hx).2
    obtain ⟨w, hw, ew⟩ := a3 (g x) (b1 x hx').1 (b1 x hx').2
    have q1 : ¬ y < x := by
      intro q
      have e1 := ih y q (by omega) (by omega)
      have e2 := a2 y x q hx
      rw [e1, ey] at e2
      omega
    have q2 : ¬ w < x := by
      intro q
      have e1 := ih w q (by omega) (by omega)
      have e2 := b2 w x q hx'
      rw [← e1, ew] at e2
      omega
    by_cases e1 : y = x
    · rw [e1] at ey; exact ey.symm
    · by_cases e2 : w = x
      · rw [e2] at ew; exact ew
      · have r1 := b2 x y (by omega) hy
        have r2 := a2 x w (by omega) hw
        rw [ey] at r1
        rw [ew] at r2
        omega
theorem LN_l (h : LN th dy kn go t d k n c f) (h' : LN th dy kn go t d k n c' g) : ¬ c < c' := by
  intro q
  have e := LN_x h h'
  obtain ⟨a1, a2, a3⟩ := h
  obtain ⟨b1, b2, b3⟩ := h'
  obtain ⟨y, hy, ey⟩ := a3 (g c) (b1 c q).1 (b1 c q).2
  have e1 := e y hy (by omega)
  have e2 := b2 y c hy q
  rw [← e1, ey] at e2
  omega
theorem fdI_c : ∀ c, (∀ x, x < c → f x = g x) → fdI so ot f c = fdI so ot g c := by
  intro c
  induction c with
  | zero => intro _; rfl
  | succ c ih => intro h; simp only [fdI]; rw [h c (by omega), ih (fun x hx => h x (by omega))]
theorem LN_f (h : LN th dy kn go t d k n c f) (h' : LN th dy kn go t d k n c' g) : fdI so ot f c = fdI so ot g c' := by
  have e : c = c' := by
    have q1 := LN_l h h'
    have q2 := LN_l h' h
    omega
  subst e
  exact fdI_c c (fun x hx => LN_x h h' x hx hx)
theorem LN_0 {f : Nat → Nat} : LN th dy kn go t d k 0 0 f := ⟨fun _ h => absurd h (Nat.not_lt_zero _), fun _ _ _ h => absurd h (Nat.not_lt_zero _), fun _ h => absurd h (Nat.not_lt_zero _)⟩
theorem LN_n (h : LN th dy kn go t d k i c f) (q : ¬ whC th dy kn go t d k i) : LN th dy kn go t d k (i + 1) c f := by
  obtain ⟨a1, a2, a3⟩ := h
  refine ⟨fun x hx => ⟨by have := (a1 x hx).1; omega, (a1 x hx).2⟩, a2, fun p hp cp => ?_⟩
  have : p ≠ i := fun e => q (e ▸ cp)
  exact a3 p (by omega) cp
theorem ins_a (h : ∀ x, x < z → g x = f x) {v : Nat} : ∀ x, x < z - 1 → un g z v x = f x := fun x hx => by rw [un_n (by omega)]; exact h x (by omega)
theorem ins_b (hz : 0 < z) (ha : ∀ x, x < z → g x = f x) (h : ∀ x, z < x → x ≤ c → g x = f (x - 1)) : ∀ x, z - 1 < x → x ≤ c → un g z (g (z - 1)) x = f (x - 1) := by
  intro x h1 h2
  by_cases e : x = z
  · rw [e, un_s]; exact ha (z - 1) (by omega)
  · rw [un_n e]; exact h x (by omega) h2
theorem ins_c (hz : 0 < z) (ha : ∀ x, x < z → g x = f x) (h : ∀ x, z ≤ x → x < c → dy i < dy (f x)) (q : dy i < dy (g (z - 1))) : ∀ x, z - 1 ≤ x → x < c → dy i < dy (f x) := by
  intro x h1 h2
  by_cases e : x = z - 1
  · rw [e, ← ha (z - 1) (by omega)]; exact q
  · exact h x (by omega) h2
theorem LN_i (h : LN th dy kn go t d k i c f) (ci : whC th dy kn go t d k i) (hz : z ≤ c) (ha : ∀ x, x < z → g x = f x) (hb : ∀ x, z < x → x ≤ c → g x = f (x - 1)) (hc : ∀ x, z ≤ x → x < c → dy i < dy (f x)) (hq : z = 0 ∨ ¬ dy i < dy (g (z - 1))) : LN th dy kn go t d k (i + 1) (c + 1) (un g z i) := by
  obtain ⟨a1, a2, a3⟩ := h
  have gz : un g z i z = i := un_s
  have gl : ∀ x, x < z → un g z i x = f x := fun x hx => by rw [un_n (by omega)]; exact ha x hx
  have gg : ∀ x, z < x → x ≤ c → un g z i x = f (x - 1) := fun x h1 h2 => by rw [un_n (by omega)]; exact hb x h1 h2
  refine ⟨fun x hx => ?_, fun x y hxy hy => ?_, fun p hp cp => ?_⟩
  · rcases Nat.lt_trichotomy x z with q | q | q
    · rw [gl x q]; have := a1 x (by omega); exact ⟨by omega, this.2⟩
    · subst q; rw [gz]; exact ⟨by omega, ci⟩
    · rw [gg x q (by omega)]; have := a1 (x - 1) (by omega); exact ⟨by omega, this.2⟩
  · rcases Nat.lt_trichotomy x z with q | q | q
    · rw [gl x q]
      rcases Nat.lt_trichotomy y z with w | w | w
      · rw [gl y w]; exact a2 x y hxy (by omega)
      · subst w
        rw [gz]
        have b1 := (a1 x (by omega)).1
        have b2 : dy (f (y - 1)) ≤ dy i := by
          rcases hq with e | e
          · omega
          · rw [ha (y - 1) (by omega)] at e; omega
        by_cases e : x = y - 1
        · rw [← e] at b2; omega
        · have := a2 x (y - 1) (by omega) (by omega); omega
      · rw [gg y w (by omega)]; exact a2 x (y - 1) (by omega) (by omega)
    · subst q
      rw [gz, gg y hxy (by omega)]
      exact Or.inl (hc (y - 1) (by omega) (by omega))
    · rw [gg x q (by omega), gg y (by omega) (by omega)]
      exact a2 (x - 1) (y - 1) (by omega) (by omega)
  · by_cases e : p = i
    · exact ⟨z, by omega, by rw [gz, e]⟩
    · obtain ⟨x, hx, ex⟩ := a3 p (by omega) cp
      rcases Nat.lt_or_ge x z with q | q
      · exact ⟨x, by omega, by rw [gl x q]; exact ex⟩
      · exact ⟨x + 1, by omega, by rw [gg (x + 1) (by omega) (by omega)]; exact ex⟩
end LL
def goU (th ot dy so kn go : Nat → Nat) (t d k n : Nat) (T : hsT) : Prop := ∃ (f : Nat → Nat) (c : Nat), LN th dy kn go t d k n c f ∧ T = fdI so ot f c
noncomputable def gVS (th ot dy so kn go : Nat → Nat) (t d k n : Nat) : hsT := @Classical.epsilon hsT ⟨([], -9, -9, 0)⟩ (goU th ot dy so kn go t d k n)
section GS
variable {th ot dy so kn go od : Nat → Nat} {t d k n : Nat}
theorem gVS_e {T : hsT} (h : goU th ot dy so kn go t d k n T) : T = gVS th ot dy so kn go t d k n := by
  have q := @Classical.epsilon_spec_aux hsT ⟨([], -9, -9, 0)⟩ (goU th ot dy so kn go t d k n) ⟨T, h⟩
  obtain ⟨f, c, l1, e1⟩ := h
  obtain ⟨g, c', l2, e2⟩ := q
  show T = @Classical.epsilon hsT ⟨([], -9, -9, 0)⟩ (goU th ot dy so kn go t d k n)
  rw [e1, e2]
  exact LN_f l1 l2
theorem rpF_L (hod : srt dy od n) : ∀ a, a ≤ n → ∃ (f : Nat → Nat) (c : Nat), rpF th ot dy so kn go od t d k a = fdI so ot f c ∧ (∀ x, x < c → ∃ i, i < a ∧ f x = od i ∧ whC th dy kn go t d k (od i)) ∧ (∀ x y, x < y → y < c → dy (f x) < dy (f y) ∨ (dy (f x) = dy (f y) ∧ f x < f y)) ∧ (∀ i, i < a → whC th dy kn go t d k (od i) → ∃ x, x < c ∧ f x = od i) := by
  intro a
  induction a with
  | zero => intro _; exact ⟨fun _ => 0, 0, rfl, fun _ h => absurd h (Nat.not_lt_zero _), fun _ _ _ h => absurd h (Nat.not_lt_zero _), fun _ h => absurd h (Nat.not_lt_zero _)⟩
  | succ a ih =>
    intro ha
    obtain ⟨f, c, e, q1, q2, q3⟩ := ih (by omega)
    rw [rpF_s]
    by_cases w : whC th dy kn go t d k (od a)
    · refine ⟨un f c (od a), c + 1, ?_, fun x hx => ?_, fun x y hxy hy => ?_, fun i hi ci => ?_⟩
      · rw [if_pos w, e]
        simp only [fdI]
        rw [un_s, fdI_c (f := un f c (od a)) (g := f) c (fun x hx => un_n (by omega))]
      · by_cases ex : x = c
        · rw [ex, un_s]; exact ⟨a, by omega, rfl, w⟩
        · rw [un_n ex]
          obtain ⟨i, b, r⟩ := q1 x (by omega)
          exact ⟨i, by omega, r⟩
      · rw [un_n (by omega : x ≠ c)]
        by_cases ey : y = c
        · rw [ey, un_s]
          obtain ⟨i, b, r, _⟩ := q1 x (by omega)
          rw [r]
          exact hod.2.1 i a b (by omega)
        · rw [un_n ey]; exact q2 x y hxy (by omega)
      · by_cases ei : i = a
        · exact ⟨c, by omega, by rw [un_s, ei]⟩
        · obtain ⟨x, b, r⟩ := q3 i (by omega) ci
          exact ⟨x, by omega, by rw [un_n (by omega)]; exact r⟩
    · refine ⟨f, c, by rw [if_neg w]; exact e, fun x hx => ?_, q2, fun i hi ci => ?_⟩
      · obtain ⟨i, b, r⟩ := q1 x hx
        exact ⟨i, by omega, r⟩
      · have : i ≠ a := fun z => w (z ▸ ci)
        exact q3 i (by omega) ci
theorem rp_S (hod : srt dy od n) : rpF th ot dy so kn go od t d k n = gVS th ot dy so kn go t d k n := by
  obtain ⟨f, c, e, q1, q2, q3⟩ := rpF_L (th := th) (ot := ot) (so := so) (kn := kn) (go := go) (t := t) (d := d) (k := k) hod n (Nat.le_refl _)
  apply gVS_e
  refine ⟨f, c, ⟨fun x hx => ?_, q2, fun p hp cp => ?_⟩, e⟩
  · obtain ⟨i, b, r, w⟩ := q1 x hx
    rw [r]
    exact ⟨hod.1 i b, w⟩
  · obtain ⟨i, b, rfl⟩ := hod.2.2 p hp
    exact q3 i b cp
theorem foF_01 {s : Nat} {p : Int32} {T : hsT} (h : T.2.2.2 = 0 ∨ T.2.2.2 = 1) : (foF s p T).2.2.2 = 0 ∨ (foF s p T).2.2.2 = 1 := by
  unfold foF
  split
  · exact h
  · split
    · split
      · exact h
      · exact h
    · show (if s = 2 then (1 : Int32) else 0) = 0 ∨ (if s = 2 then (1 : Int32) else 0) = 1
      split
      · exact Or.inr rfl
      · exact Or.inl rfl
theorem fdI_01 {f : Nat → Nat} : ∀ c, (fdI so ot f c).2.2.2 = 0 ∨ (fdI so ot f c).2.2.2 = 1 := by
  intro c
  induction c with
  | zero => exact Or.inl rfl
  | succ c ih => exact foF_01 ih
theorem rp_01 (hod : srt dy od n) : (if (rpF th ot dy so kn go od t d k n).2.2.2 = 0 then (0 : Int32) else 1) = (gVS th ot dy so kn go t d k n).2.2.2 := by
  obtain ⟨f, c, e, _⟩ := rpF_L (th := th) (ot := ot) (so := so) (kn := kn) (go := go) (t := t) (d := d) (k := k) hod n (Nat.le_refl _)
  rw [← rp_S hod, e]
  rcases fdI_01 (so := so) (ot := ot) (f := f) c with q | q
  · rw [q]; rfl
  · rw [q]; rfl
/-- the reference's books while it goes along the line -/
def st5 (T : hsT) (o : Nat) (ho ow sl : Int32) (lt : Nat → Int32) : Prop := o = T.1.length ∧ ho = T.2.1 ∧ ow = T.2.2.1 ∧ sl = T.2.2.2 ∧ stk lt T.1
end GS
section S5
variable {so ot f : Nat → Nat} {z o : Nat} {ho ow sl : Int32} {lt : Nat → Int32}
theorem s5_0 : st5 (fdI so ot f 0) 0 (-9) (-9) 0 lt := ⟨rfl, rfl, rfl, rfl, trivial⟩
theorem s5_3 (h : st5 (fdI so ot f z) o ho ow sl lt) (e : so (f z) = 3) : st5 (fdI so ot f (z + 1)) (o + 1) (nI (ot (f z))) ow sl (upd lt o ho) := by
  obtain ⟨h1, h2, h3, h4, h5⟩ := h
  have q : fdI so ot f (z + 1) = ((fdI so ot f z).2.1 :: (fdI so ot f z).1, nI (ot (f z)), (fdI so ot f z).2.2.1, (fdI so ot f z).2.2.2) := by
    simp only [fdI]; unfold foF; rw [if_pos e]
  rw [q]
  refine ⟨by simp [h1], rfl, h3, h4, ?_, ?_⟩
  · rw [← h1, ← h2]; simp [upd]
  · exact stk_up _ _ (by omega) h5
theorem s5_n (h : st5 (fdI so ot f z) o ho ow sl lt) (e : so (f z) = 4) (e0 : o = 0) : st5 (fdI so ot f (z + 1)) o ho ow sl lt := by
  obtain ⟨h1, h2, h3, h4, h5⟩ := h
  have e1 : (fdI so ot f z).1 = [] := List.length_eq_zero_iff.mp (by omega)
  have q : fdI so ot f (z + 1) = fdI so ot f z := by
    simp only [fdI]; unfold foF; rw [if_neg (by omega), if_pos e, e1]
  rw [q]
  exact ⟨h1, h2, h3, h4, h5⟩
theorem s5_4 (h : st5 (fdI so ot f z) o ho ow sl lt) (e : so (f z) = 4) (e0 : ¬ o = 0) : st5 (fdI so ot f (z + 1)) (o - 1) (lt (o - 1)) ow sl lt := by
  obtain ⟨h1, h2, h3, h4, h5⟩ := h
  cases e1 : (fdI so ot f z).1 with
  | nil => rw [e1] at h1; exact absurd h1 e0
  | cons x r =>
    have q : fdI so ot f (z + 1) = (r, x, (fdI so ot f z).2.2.1, (fdI so ot f z).2.2.2) := by
      simp only [fdI]; unfold foF; rw [if_neg (by omega), if_pos e, e1]
    rw [q]
    rw [e1] at h1 h5
    have h6 : o - 1 = r.length := by rw [h1]; simp
    exact ⟨h6, by rw [h6]; exact h5.1, h3, h4, h5.2⟩
theorem s5_2 (h : st5 (fdI so ot f z) o ho ow sl lt) (e : so (f z) = 2) : st5 (fdI so ot f (z + 1)) 0 (nI (ot (f z))) (-9) 1 lt := by
  have q : fdI so ot f (z + 1) = ([], nI (ot (f z)), -9, 1) := by
    simp only [fdI]; unfold foF; rw [if_neg (by omega), if_neg (by omega), if_pos e, if_pos e]
  rw [q]
  exact ⟨rfl, rfl, rfl, rfl, trivial⟩
theorem s5_1 (h : st5 (fdI so ot f z) o ho ow sl lt) (e3 : ¬ so (f z) = 3) (e4 : ¬ so (f z) = 4) (e2 : ¬ so (f z) = 2) : st5 (fdI so ot f (z + 1)) 0 (nI (ot (f z))) (nI (ot (f z))) 0 lt := by
  have q : fdI so ot f (z + 1) = ([], nI (ot (f z)), nI (ot (f z)), 0) := by
    simp only [fdI]; unfold foF; rw [if_neg e3, if_neg e4, if_neg e2, if_neg e2]
  rw [q]
  exact ⟨rfl, rfl, rfl, rfl, trivial⟩
end S5
theorem gs_5 {th ot dy so kn go f : Nat → Nat} {t d k n i c z o : Nat} {ho ow sl : Int32} {lt : Nat → Int32} (hL : LN th dy kn go t d k i c f) (ei : i = n) (h : st5 (fdI so ot f z) o ho ow sl lt) (ez : z = c) : ho = (gVS th ot dy so kn go t d k n).2.1 ∧ ow = (gVS th ot dy so kn go t d k n).2.2.1 ∧ sl = (gVS th ot dy so kn go t d k n).2.2.2 := by
  subst ei; subst ez
  rw [← gVS_e (T := fdI so ot f z) ⟨f, z, hL, rfl⟩]
  exact ⟨h.2.1, h.2.2.1, h.2.2.2.1⟩
theorem wr_dy (k : Int32) : wrF k 0 80000 = dyF k k := by
  unfold wrF dyF
  rw [show (0 : Int32).toInt = 0 from rfl, show (80000 : Int32).toInt = 80000 from rfl]
  (repeat' split) <;> first | rfl | (exfalso; omega)
section HZ
variable {LC : Nat → Nat} {HO : Nat → Int32} {now : Int32}
theorem hs_s {f last : Nat} : hsF LC HO now (f + 1) last = if LC last = 0 then 0 else if HO (LC last - 1) = now then hsF LC HO now f (LC last - 1) else LC last := rfl
theorem hs_1 (hL : ∀ x, LC x ≤ x) : ∀ f last, last < f → hsF LC HO now (f + 1) last = hsF LC HO now f last := by
  intro f
  induction f with
  | zero => intro last h; exact absurd h (Nat.not_lt_zero _)
  | succ f ih =>
    intro last h
    rw [hs_s (f := f + 1) (last := last), hs_s (f := f) (last := last)]
    by_cases e : LC last = 0
    · rw [if_pos e, if_pos e]
    · have b := hL last
      rw [if_neg e, if_neg e, ih (LC last - 1) (by omega)]
theorem hs_f (hL : ∀ x, LC x ≤ x) {last : Nat} : ∀ e, hsF LC HO now (last + 1 + e) last = hsF LC HO now (last + 1) last := by
  intro e
  induction e with
  | zero => rfl
  | succ e ih => rw [← Nat.add_assoc, hs_1 hL _ last (by omega), ih]
theorem hs_fe (hL : ∀ x, LC x ≤ x) {last f : Nat} (h : last < f) : hsF LC HO now f last = hsF LC HO now (last + 1) last := by
  have q := hs_f (HO := HO) (now := now) hL (last := last) (f - (last + 1))
  rw [show last + 1 + (f - (last + 1)) = f by omega] at q
  exact q
/-- from one change to the one ahead of it -/
noncomputable def hzF (LC : Nat → Nat) (HO : Nat → Int32) (now : Int32) (k : Nat) : Nat := hsF LC HO now (k + 1) k
theorem hz_s (hL : ∀ x, LC x ≤ x) (k : Nat) : hzF LC HO now k = if LC k = 0 then 0 else if HO (LC k - 1) = now then hzF LC HO now (LC k - 1) else LC k := by
  unfold hzF
  rw [hs_s (f := k) (last := k)]
  by_cases e : LC k = 0
  · rw [if_pos e, if_pos e]
  · have b := hL k
    rw [if_neg e, if_neg e, hs_fe hL (last := LC k - 1) (f := k) (by omega)]
/-- few steps will do where the changes are few -/
theorem hs_few (hL : ∀ x, LC x ≤ x) {P : Nat → Prop} (hP : ∀ x, LC x ≠ 0 → P (LC x)) : ∀ f last, cnt P (last + 1) < f → hsF LC HO now f last = hzF LC HO now last := by
  intro f
  induction f with
  | zero => intro last h; exact absurd h (Nat.not_lt_zero _)
  | succ f ih =>
    intro last h
    rw [hs_s (f := f) (last := last), hz_s hL]
    by_cases e : LC last = 0
    · rw [if_pos e, if_pos e]
    · have b := hL last
      have q : cnt P (LC last - 1 + 1) < f := by
        rw [show LC last - 1 + 1 = LC last by omega]
        have m : ∀ a N, LC last < N → N ≤ a → cnt P (LC last) + 1 ≤ cnt P N := by
          intro a
          induction a with
          | zero => intro N h1 h2; omega
          | succ a iha =>
            intro N h1 h2
            cases N with
            | zero => omega
            | succ N =>
              rw [cnt]
              by_cases z : N = LC last
              · rw [z, if_pos (hP last e)]; exact Nat.le_refl _
              · have := iha N (by omega) (by omega); omega
        have := m (last + 1) (last + 1) (by omega) (Nat.le_refl _)
        omega
      rw [if_neg e, if_neg e, ih _ q]
end HZ
theorem cnt_or {f g : Nat → Prop} : ∀ N, cnt (fun v => f v ∨ g v) N ≤ cnt f N + cnt g N := by
  intro N
  induction N with
  | zero => exact Nat.le_refl _
  | succ N ih =>
    rw [cnt, cnt, cnt]
    by_cases a : f N
    · rw [if_pos (Or.inl a), if_pos a]; omega
    · by_cases b : g N
      · rw [if_pos (Or.inr b), if_pos b]; omega
      · rw [if_neg (fun q => q.elim a b)]; omega
theorem cnt_one (a : Nat) : ∀ N, cnt (fun v => v = a) N ≤ 1 := by
  have h : ∀ N, cnt (fun v => v = a) N = if a < N then 1 else 0 := by
    intro N
    induction N with
    | zero => rfl
    | succ N ih =>
      rw [cnt, ih]
      by_cases e : N = a
      · rw [if_pos e, if_neg (by omega), if_pos (by omega)]
      · rw [if_neg e]
        by_cases w : a < N
        · rw [if_pos w, if_pos (by omega)]
        · rw [if_neg w, if_neg (by omega)]
  intro N
  rw [h N]
  split <;> omega
/-- a day on which a record came or went -/
def chP (th kn go : Nat → Nat) (t n v : Nat) : Prop := ∃ q, q < n ∧ th q = t ∧ (v = kn q ∨ v = go q)
theorem chP_n {th kn go : Nat → Nat} {t : Nat} : ∀ n N, cnt (chP th kn go t n) N ≤ 2 * n := by
  intro n
  induction n with
  | zero => intro N; rw [cnt_0 (fun D => by rintro ⟨q, h, _⟩; exact absurd h (Nat.not_lt_zero _))]; exact Nat.le_refl _
  | succ n ih =>
    intro N
    have a := cnt_or (f := chP th kn go t n) (g := fun v => v = kn n ∨ v = go n) N
    have b := cnt_or (f := fun v => v = kn n) (g := fun v => v = go n) N
    have c1 := cnt_one (kn n) N
    have c2 := cnt_one (go n) N
    have e := ih N
    have m : ∀ N, cnt (chP th kn go t (n + 1)) N ≤ cnt (fun v => chP th kn go t n v ∨ (v = kn n ∨ v = go n)) N := by
      intro N
      induction N with
      | zero => exact Nat.le_refl _
      | succ N ihN =>
        rw [cnt, cnt]
        by_cases w : chP th kn go t (n + 1) N
        · have w2 : chP th kn go t n N ∨ (N = kn n ∨ N = go n) := by
            obtain ⟨q, h1, h2, h3⟩ := w
            by_cases z : q = n
            · subst z; exact Or.inr h3
            · exact Or.inl ⟨q, by omega, h2, h3⟩
          rw [if_pos w, if_pos w2]; omega
        · rw [if_neg w]; omega
    have := m N
    omega
theorem lc_P {th kn go : Nat → Nat} {t k : Nat} : ∀ n, lcF th kn go t k n ≠ 0 → chP th kn go t n (lcF th kn go t k n) := by
  intro n
  induction n with
  | zero => intro h; exact absurd rfl h
  | succ n ih =>
    intro h
    have up : ∀ v, chP th kn go t n v → chP th kn go t (n + 1) v := fun v ⟨q, h1, h2⟩ => ⟨q, by omega, h2⟩
    rw [lcF_s] at h ⊢
    by_cases e : th n = t
    · rw [if_pos e] at h ⊢
      by_cases a : kn n ≤ k
      · rw [if_pos a] at h ⊢
        by_cases b : go n ≤ k
        · rw [if_pos b] at h ⊢
          rcases (by omega : max (max (lcF th kn go t k n) (kn n)) (go n) = lcF th kn go t k n ∨ max (max (lcF th kn go t k n) (kn n)) (go n) = kn n ∨ max (max (lcF th kn go t k n) (kn n)) (go n) = go n) with q | q | q
          · rw [q] at h ⊢; exact up _ (ih h)
          · rw [q]; exact ⟨n, by omega, e, Or.inl rfl⟩
          · rw [q]; exact ⟨n, by omega, e, Or.inr rfl⟩
        · rw [if_neg b] at h ⊢
          rcases (by omega : max (max (lcF th kn go t k n) (kn n)) 0 = lcF th kn go t k n ∨ max (max (lcF th kn go t k n) (kn n)) 0 = kn n) with q | q
          · rw [q] at h ⊢; exact up _ (ih h)
          · rw [q]; exact ⟨n, by omega, e, Or.inl rfl⟩
      · rw [if_neg a] at h ⊢
        by_cases b : go n ≤ k
        · rw [if_pos b] at h ⊢
          rcases (by omega : max (max (lcF th kn go t k n) 0) (go n) = lcF th kn go t k n ∨ max (max (lcF th kn go t k n) 0) (go n) = go n) with q | q
          · rw [q] at h ⊢; exact up _ (ih h)
          · rw [q]; exact ⟨n, by omega, e, Or.inr rfl⟩
        · rw [if_neg b] at h ⊢
          have q : max (max (lcF th kn go t k n) 0) 0 = lcF th kn go t k n := by omega
          rw [q] at h ⊢; exact up _ (ih h)
    · rw [if_neg e] at h ⊢
      exact up _ (ih h)
/-- since when, both ways of going back -/
noncomputable def siS (th ot dy so kn go : Nat → Nat) (t d k n : Nat) : Nat := hzF (fun x => lcF th kn go t x n) (fun x => (gVS th ot dy so kn go t d x n).2.1) ((gVS th ot dy so kn go t d k n).2.1) k
theorem si_S {th ot dy so kn go od : Nat → Nat} {t d k n : Nat} (hod : srt dy od n) (hn : n ≤ 60) : hsF (fun x => lcF th kn go t x n) (fun x => (rpF th ot dy so kn go od t d x n).2.1) ((rpF th ot dy so kn go od t d k n).2.1) 121 k = siS th ot dy so kn go t d k n := by
  have e : (fun x => (rpF th ot dy so kn go od t d x n).2.1) = fun x => (gVS th ot dy so kn go t d x n).2.1 := by
    funext x; rw [rp_S hod]
  rw [e, rp_S hod]
  have c := chP_n (th := th) (kn := kn) (go := go) (t := t) n (k + 1)
  exact hs_few (fun x => lcF_le n) (P := chP th kn go t n) (fun x => lc_P n) 121 k (by omega)
theorem gM_v {go : Nat → Nat} {q : Nat} : gM go q = go q ∨ (gM go q = 1000000000 ∧ go q = 80001) := by
  unfold gM; split
  · exact Or.inr ⟨rfl, by assumption⟩
  · exact Or.inl rfl
set_option maxHeartbeats 4000000 in
theorem bX9_isSight {l : Launch} {G : xG} {h : List va_E} {sp fa nb ns nm nv sh : Nat} {ho ow sl : Int32} {th kn go : Nat → Nat} {q t k : Nat} (h88 : h[88]? = some (oB 9 (lM G (nI sp) (nI fa) (nI nb) (nI ns) (nI nm) ho ow sl (nI nv) (nI sh)))) (h103 : h[103]? = some (aI 60 (nA th))) (h106 : h[106]? = some (aI 60 (nA kn))) (h107 : h[107]? = some (aI 60 (nA (gM go)))) (bth : ∀ j, j < 60 → th j < 12) (bkn : ∀ j, j < 60 → kn j ≤ 80000) (bgo : ∀ j, j < 60 → go j ≤ 80001) (bq : q < 60) (bt : t < 12) (bk : k ≤ 80000) : CD l G yX9_isSight cX9_isSight 4 (some .boolean) 0 0 0 [.ref (G.1 + 88), .int (nI q), .int (nI t), .int (nI k)] h (some (.int (if (th q = t ∧ kn q ≤ k ∧ k < go q) then 1 else 0))) h := by
  refine cm_ofQ rfl (Nat.le_of_ble_eq_true rfl) [(0, .ref (G.1 + 88)), (1, .int (nI q)), (2, .int (nI t)), (3, .int (nI k))] rfl (fun QF hQF => ?_)
  have bgM : ∀ j, j < 60 → gM go j ≤ 1000000000 := fun j hj => gM_b (bgo j hj)
  have hgc := gM_c (go := go) (k := k) (bgo q bq) bk
  refine aw_aload_n 0 dX9_isSight_0 rfl rfl ?_
  refine aw_get fX9_59 dX9_isSight_1 h88 rfl ?_
  refine aw_iload_n 1 dX9_isSight_4 rfl rfl ?_
  refine aw_iald q (rfl) (by omega) (by decide) dX9_isSight_5 h103 ?_
  refine aw_toe (nI (th q)) (rfl) ?_
  have b2728 := bth q (by omega)
  refine aw_iload_n 2 dX9_isSight_6 rfl rfl ?_
  refine aw_icmp_ne 34 dX9_isSight_7 (by decide) (fun c7 => ?_) (fun c7 => ?_)
  · have d7 := mt (nv_eq (a := th q) (b := t) (rfl) (rfl) (by omega) (by omega)).mpr c7
    refine aw_iconst (0) dX9_isSight_34 (by decide) ?_
    subst hQF
    exact aw_zret rfl rfl dX9_isSight_35 (by decide) (by decide) ⟨by rw [if_neg (by omega)], rfl⟩
  · have d7 := (nv_eq (a := th q) (b := t) (rfl) (rfl) (by omega) (by omega)).mp c7
    refine aw_aload_n 0 dX9_isSight_10 rfl rfl ?_
    refine aw_get fX9_68 dX9_isSight_11 h88 rfl ?_
    refine aw_iload_n 1 dX9_isSight_14 rfl rfl ?_
    refine aw_iald q (rfl) (by omega) (by decide) dX9_isSight_15 h106 ?_
    refine aw_toe (nI (kn q)) (rfl) ?_
    have b2729 := bkn q (by omega)
    refine aw_iload_n 3 dX9_isSight_16 rfl rfl ?_
    refine aw_icmp_gt 34 dX9_isSight_17 (by decide) (fun c17 => ?_) (fun c17 => ?_)
    · have d17 := (nv_lt (a := k) (b := kn q) (rfl) (rfl) (by omega) (by omega)).mp c17
      refine aw_iconst (0) dX9_isSight_34 (by decide) ?_
      subst hQF
      exact aw_zret rfl rfl dX9_isSight_35 (by decide) (by decide) ⟨by rw [if_neg (by omega)], rfl⟩
    · have d17 := mt (nv_lt (a := k) (b := kn q) (rfl) (rfl) (by omega) (by omega)).mpr c17
      refine aw_iload_n 3 dX9_isSight_20 rfl rfl ?_
      refine aw_aload_n 0 dX9_isSight_21 rfl rfl ?_
      refine aw_get fX9_71 dX9_isSight_22 h88 rfl ?_
      refine aw_iload_n 1 dX9_isSight_25 rfl rfl ?_
      refine aw_iald q (rfl) (by omega) (by decide) dX9_isSight_26 h107 ?_
      refine aw_toe (nI ((gM go) q)) (rfl) ?_
      have b2730 := bgM q (by omega)
      refine aw_icmp_ge 34 dX9_isSight_27 (by decide) (fun c27 => ?_) (fun c27 => ?_)
      · have d27 := (nv_le (a := (gM go) q) (b := k) (rfl) (rfl) (by omega) (by omega)).mp c27
        refine aw_iconst (0) dX9_isSight_34 (by decide) ?_
        subst hQF
        exact aw_zret rfl rfl dX9_isSight_35 (by decide) (by decide) ⟨by rw [if_neg (by omega)], rfl⟩
      · have d27 := mt (nv_le (a := (gM go) q) (b := k) (rfl) (rfl) (by omega) (by omega)).mpr c27
        refine aw_iconst (1) dX9_isSight_30 (by decide) ?_
        refine aw_goto 35 dX9_isSight_31 (by decide) ?_
        subst hQF
        exact aw_zret rfl rfl dX9_isSight_35 (by decide) (by decide) ⟨by rw [if_pos (by omega)], rfl⟩
set_option maxHeartbeats 4000000 in
theorem bX9_isMove {l : Launch} {G : xG} {h : List va_E} {sp fa nb ns nm nv sh : Nat} {ho ow sl : Int32} {th kn go : Nat → Nat} {q t k : Nat} (h88 : h[88]? = some (oB 9 (lM G (nI sp) (nI fa) (nI nb) (nI ns) (nI nm) ho ow sl (nI nv) (nI sh)))) (h108 : h[108]? = some (aI 60 (nA th))) (h112 : h[112]? = some (aI 60 (nA kn))) (h113 : h[113]? = some (aI 60 (nA (gM go)))) (bth : ∀ j, j < 60 → th j < 12) (bkn : ∀ j, j < 60 → kn j ≤ 80000) (bgo : ∀ j, j < 60 → go j ≤ 80001) (bq : q < 60) (bt : t < 12) (bk : k ≤ 80000) : CD l G yX9_isMove cX9_isMove 4 (some .boolean) 0 0 0 [.ref (G.1 + 88), .int (nI q), .int (nI t), .int (nI k)] h (some (.int (if (th q = t ∧ kn q ≤ k ∧ k < go q) then 1 else 0))) h := by
  refine cm_ofQ rfl (Nat.le_of_ble_eq_true rfl) [(0, .ref (G.1 + 88)), (1, .int (nI q)), (2, .int (nI t)), (3, .int (nI k))] rfl (fun QF hQF => ?_)
  have bgM : ∀ j, j < 60 → gM go j ≤ 1000000000 := fun j hj => gM_b (bgo j hj)
  have hgc := gM_c (go := go) (k := k) (bgo q bq) bk
  refine aw_aload_n 0 dX9_isMove_0 rfl rfl ?_
  refine aw_get fX9_74 dX9_isMove_1 h88 rfl ?_
  refine aw_iload_n 1 dX9_isMove_4 rfl rfl ?_
  refine aw_iald q (rfl) (by omega) (by decide) dX9_isMove_5 h108 ?_
  refine aw_toe (nI (th q)) (rfl) ?_
  have b2731 := bth q (by omega)
  refine aw_iload_n 2 dX9_isMove_6 rfl rfl ?_
  refine aw_icmp_ne 34 dX9_isMove_7 (by decide) (fun c7 => ?_) (fun c7 => ?_)
  · have d7 := mt (nv_eq (a := th q) (b := t) (rfl) (rfl) (by omega) (by omega)).mpr c7
    refine aw_iconst (0) dX9_isMove_34 (by decide) ?_
    subst hQF
    exact aw_zret rfl rfl dX9_isMove_35 (by decide) (by decide) ⟨by rw [if_neg (by omega)], rfl⟩
  · have d7 := (nv_eq (a := th q) (b := t) (rfl) (rfl) (by omega) (by omega)).mp c7
    refine aw_aload_n 0 dX9_isMove_10 rfl rfl ?_
    refine aw_get fX9_86 dX9_isMove_11 h88 rfl ?_
    refine aw_iload_n 1 dX9_isMove_14 rfl rfl ?_
    refine aw_iald q (rfl) (by omega) (by decide) dX9_isMove_15 h112 ?_
    refine aw_toe (nI (kn q)) (rfl) ?_
    have b2732 := bkn q (by omega)
    refine aw_iload_n 3 dX9_isMove_16 rfl rfl ?_
    refine aw_icmp_gt 34 dX9_isMove_17 (by decide) (fun c17 => ?_) (fun c17 => ?_)
    · have d17 := (nv_lt (a := k) (b := kn q) (rfl) (rfl) (by omega) (by omega)).mp c17
      refine aw_iconst (0) dX9_isMove_34 (by decide) ?_
      subst hQF
      exact aw_zret rfl rfl dX9_isMove_35 (by decide) (by decide) ⟨by rw [if_neg (by omega)], rfl⟩
    · have d17 := mt (nv_lt (a := k) (b := kn q) (rfl) (rfl) (by omega) (by omega)).mpr c17
      refine aw_iload_n 3 dX9_isMove_20 rfl rfl ?_
      refine aw_aload_n 0 dX9_isMove_21 rfl rfl ?_
      refine aw_get fX9_89 dX9_isMove_22 h88 rfl ?_
      refine aw_iload_n 1 dX9_isMove_25 rfl rfl ?_
      refine aw_iald q (rfl) (by omega) (by decide) dX9_isMove_26 h113 ?_
      refine aw_toe (nI ((gM go) q)) (rfl) ?_
      have b2733 := bgM q (by omega)
      refine aw_icmp_ge 34 dX9_isMove_27 (by decide) (fun c27 => ?_) (fun c27 => ?_)
      · have d27 := (nv_le (a := (gM go) q) (b := k) (rfl) (rfl) (by omega) (by omega)).mp c27
        refine aw_iconst (0) dX9_isMove_34 (by decide) ?_
        subst hQF
        exact aw_zret rfl rfl dX9_isMove_35 (by decide) (by decide) ⟨by rw [if_neg (by omega)], rfl⟩
      · have d27 := mt (nv_le (a := (gM go) q) (b := k) (rfl) (rfl) (by omega) (by omega)).mpr c27
        refine aw_iconst (1) dX9_isMove_30 (by decide) ?_
        refine aw_goto 35 dX9_isMove_31 (by decide) ?_
        subst hQF
        exact aw_zret rfl rfl dX9_isMove_35 (by decide) (by decide) ⟨by rw [if_pos (by omega)], rfl⟩
set_option maxHeartbeats 4000000 in
theorem oX9_where {l : Launch} {G : xG} {h : List va_E} {sp fa nb ns nm nv sh : Nat} {ho ow sl : Int32} {rg : Nat → Int32} {th ot dy kn go : Nat → Nat} {t d k : Int32} (h88 : h[88]? = some (oB 9 (lM G (nI sp) (nI fa) (nI nb) (nI ns) (nI nm) ho ow sl (nI nv) (nI sh)))) (h89 : h[89]? = some (aI 7 rg)) (h103 : h[103]? = some (aI 60 (nA th))) (h104 : h[104]? = some (aI 60 (nA ot))) (h105 : h[105]? = some (aI 60 (nA dy))) (h106 : h[106]? = some (aI 60 (nA kn))) (h107 : h[107]? = some (aI 60 (nA (gM go)))) (bth : ∀ j, j < 60 → th j < 12) (bkn : ∀ j, j < 60 → kn j ≤ 80000) (bgo : ∀ j, j < 60 → go j ≤ 80001) (bdy : ∀ j, j < 60 → dy j ≤ 80000) (hn : ns ≤ 60) : CU l G yX9_where cX9_where 7 (some .int) 2 0 0 [.ref (G.1 + 88), .int t, .int d, .int k] h (fun r h1 => ∃ rg1 : Nat → Int32, h1[89]? = some (aI 7 rg1) ∧ rng 89 89 h h1 ∧ whU th ot dy kn go ns t d k r) := by
  refine cm_ofQ rfl (Nat.le_of_ble_eq_true rfl) [(0, .ref (G.1 + 88)), (1, .int t), (2, .int d), (3, .int k)] rfl (fun QF hQF => ?_)
  refine aw_iload_n 1 dX9_where_0 rfl rfl ?_
  refine aw_bipush (12) dX9_where_1 (by decide) ?_
  refine aw_dS [.int t, .int 12] [] lX9_126 sX9_isIn mX9_isIn dX9_where_3 (bX9_isIn (x := t) (n := 12) (by omega)) rfl (Nat.le_of_ble_eq_true rfl) (by decide) (by decide) rfl ?_
  refine aw_if_eq 17 dX9_where_6 (by decide) (fun c6 => ?_) (fun c6 => ?_)
  · have t6 := ite_0 c6
    refine aw_iconst (-1) dX9_where_17 (by decide) ?_
    refine aw_istore [(4, .int (-1)), (0, .ref (G.1 + 88)), (1, .int t), (2, .int d), (3, .int k)] dX9_where_18 (by decide) rfl ?_
    refine aw_iload 0 dX9_where_20 rfl ?_
    refine aw_if_eq 32 dX9_where_22 (by decide) (fun c22 => absurd c22 (by decide)) (fun c22 => ?_)
    refine aw_aload_n 1 dX9_where_25 rfl rfl ?_
    refine aw_iload 0 dX9_where_26 rfl ?_
    refine aw_eV [.int (-1)] [] lX9_130 vX9_refuse mX9_refuse dX9_where_28 (bX9_refuse (sp := sp) (fa := fa) (nb := nb) (ns := ns) (nm := nm) (nv := nv) (sh := sh) (ho := ho) (ow := ow) (sl := sl) (rg := rg) (x := (-1)) (q := 1) h88 h89 (by decide) (by decide)) h88 rfl rfl rfl (Nat.le_of_ble_eq_true rfl) (by decide) (by decide) rfl (fun h2736 q2735 => ?_)
    obtain ⟨rg12734, f2737, k2738⟩ := q2735
    have f2739 := rng_at k2738 (by decide) h88
    have f2740 := rng_at k2738 (by decide) h103
    have f2741 := rng_at k2738 (by decide) h104
    have f2742 := rng_at k2738 (by decide) h105
    have f2743 := rng_at k2738 (by decide) h106
    have f2744 := rng_at k2738 (by decide) h107
    subst hQF
    exact aw_iret rfl dX9_where_31 (by decide) (by decide) ⟨_, rfl, _, f2737, rng_tr (rng_rf 89 89 h) (rng_w k2738 (by decide) (by decide)), by rw [whU, if_neg (by omega)]⟩
  · have t6 := ite_1 c6
    refine aw_iload_n 2 dX9_where_9 rfl rfl ?_
    refine aw_iload_n 3 dX9_where_10 rfl rfl ?_
    refine aw_dS [.int d, .int k] [] lX9_195 sX9_wrongDays mX9_wrongDays dX9_where_11 (bX9_wrongDays (x := d) (k := k) ) rfl (Nat.le_of_ble_eq_true rfl) (by decide) (by decide) rfl ?_
    refine aw_goto 18 dX9_where_14 (by decide) ?_
    refine aw_istore [(4, .int (dyF d k)), (0, .ref (G.1 + 88)), (1, .int t), (2, .int d), (3, .int k)] dX9_where_18 (by decide) rfl ?_
    refine aw_iload 0 dX9_where_20 rfl ?_
    refine aw_if_eq 32 dX9_where_22 (by decide) (fun c22 => ?_) (fun c22 => ?_)
    · have d22 := (j_eq (a := (dyF d k).toInt) (b := (0)) (rfl) (rfl)).mp c22
      have hdd := dyF_0 c22
      obtain ⟨t0, bb_t0, ee_t0⟩ := i_nat (x := t) (N := 12) (by omega) (by omega)
      subst ee_t0
      have tt_t0 : (nI t0).toInt = (t0 : Int) := nI_toInt (by omega)
      have nn_t0 : tn (nI t0) = t0 := tn_nI (by omega)
      obtain ⟨d0, bb_d0, ee_d0⟩ := i_nat (x := d) (N := 80001) (by omega) (by omega)
      subst ee_d0
      have tt_d0 : (nI d0).toInt = (d0 : Int) := nI_toInt (by omega)
      have nn_d0 : tn (nI d0) = d0 := tn_nI (by omega)
      obtain ⟨k0, bb_k0, ee_k0⟩ := i_nat (x := k) (N := 80001) (by omega) (by omega)
      subst ee_k0
      have tt_k0 : (nI k0).toInt = (k0 : Int) := nI_toInt (by omega)
      have nn_k0 : tn (nI k0) = k0 := tn_nI (by omega)
      refine aw_iconst (-1) dX9_where_32 (by decide) ?_
      refine aw_istore [(5, .int (-1)), (4, .int (dyF (nI d0) (nI k0))), (0, .ref (G.1 + 88)), (1, .int (nI t0)), (2, .int (nI d0)), (3, .int (nI k0))] dX9_where_33 (by decide) rfl ?_
      refine aw_iconst (0) dX9_where_35 (by decide) ?_
      refine aw_istore [(6, .int 0), (5, .int (-1)), (4, .int (dyF (nI d0) (nI k0))), (0, .ref (G.1 + 88)), (1, .int (nI t0)), (2, .int (nI d0)), (3, .int (nI k0))] dX9_where_36 (by decide) rfl ?_
      refine aw_lv [(6, .int 0), (5, .int (-1)), (3, .int (nI k0)), (2, .int (nI d0)), (1, .int (nI t0)), (0, .ref (G.1 + 88))] [0, 1, 6, 5, 4, 3] rfl ?_
      suffices L2745 : ∀ (mm : Nat) (i : Nat) (bv : Int32), ns - i < mm → (i ≤ ns) → ((bv = -1 ∧ ∀ p, p < i → ¬ whC th dy kn go t0 d0 k0 p) ∨ ∃ q, bv = nI q ∧ q < i ∧ whI th dy kn go t0 d0 k0 i q) → AW l G yX9_where cX9_where 7 (some .int) (xR 2 0 0) (fun _ _ => True) QF 0 0 38 [(6, .int (nI i)), (5, .int bv), (3, .int (nI k0)), (2, .int (nI d0)), (1, .int (nI t0)), (0, .ref (G.1 + 88))] [] h from L2745 (ns - 0 + 1) 0 (-1) (Nat.lt_succ_self _) (Nat.zero_le _) (Or.inl ⟨rfl, fun p hp => absurd hp (Nat.not_lt_zero _)⟩)
      intro mm
      induction mm with
      | zero =>
        intro i bv hmm hi hv
        exact absurd hmm (Nat.not_lt_zero _)
      | succ mm ih2745 =>
        intro i bv hmm hi hv
        rcases hv with ⟨rfl, hv⟩ | ⟨q, rfl, bq, hv⟩
        · refine aw_iload 0 dX9_where_38 rfl ?_
          refine aw_aload_n 5 dX9_where_40 rfl rfl ?_
          refine aw_get fX9_198 dX9_where_41 h88 rfl ?_
          refine aw_icmp_ge 101 dX9_where_44 (by decide) (fun c44 => ?_) (fun c44 => ?_)
          · have d44 := (nv_le (a := ns) (b := i) (rfl) (rfl) (by omega) (by omega)).mp c44
            refine aw_iload 1 dX9_where_101 rfl ?_
            refine aw_if_ge 111 dX9_where_103 (by decide) (fun c103 => absurd c103 (by decide)) (fun c103 => ?_)
            refine aw_bipush (-9) dX9_where_106 (by decide) ?_
            refine aw_goto 118 dX9_where_108 (by decide) ?_
            subst hQF
            exact aw_iret rfl dX9_where_118 (by decide) (by decide) ⟨_, rfl, _, h89, rng_rf 89 89 h, by rw [whU, if_pos ⟨by omega, by omega⟩, if_pos c22, nn_t0, nn_d0, nn_k0]; exact wh_1 hv (by omega)⟩
          · have d44 := mt (nv_le (a := ns) (b := i) (rfl) (rfl) (by omega) (by omega)).mpr c44
            refine aw_aload_n 5 dX9_where_47 rfl rfl ?_
            refine aw_iload 0 dX9_where_48 rfl ?_
            refine aw_iload_n 4 dX9_where_50 rfl rfl ?_
            refine aw_iload_n 2 dX9_where_51 rfl rfl ?_
            refine aw_dV [.int (nI i), .int (nI t0), .int (nI k0)] [] lX9_205 vX9_isSight mX9_isSight dX9_where_52 (bX9_isSight (sp := sp) (fa := fa) (nb := nb) (ns := ns) (nm := nm) (nv := nv) (sh := sh) (ho := ho) (ow := ow) (sl := sl) (th := th) (kn := kn) (q := i) (t := t0) (k := k0) h88 h103 h106 h107 bth bkn bgo (by omega) (by omega) (by omega)) h88 rfl rfl rfl (Nat.le_of_ble_eq_true rfl) (by decide) (by decide) rfl ?_
            refine aw_if_eq 95 dX9_where_55 (by decide) (fun c55 => ?_) (fun c55 => ?_)
            · have t55 := ite_0 c55
              refine aw_iinc (j := 0) (nI (i + 1)) [(6, .int (nI (i + 1))), (5, .int (-1)), (3, .int (nI k0)), (2, .int (nI d0)), (1, .int (nI t0)), (0, .ref (G.1 + 88))] dX9_where_95 rfl (nv_inc (rfl)) (by decide) rfl ?_
              refine aw_goto 38 dX9_where_98 (by decide) ?_
              refine aw_lv [(6, .int (nI (i + 1))), (5, .int (-1)), (3, .int (nI k0)), (2, .int (nI d0)), (1, .int (nI t0)), (0, .ref (G.1 + 88))] [0, 1, 2, 3, 4, 5] rfl ?_
              exact ih2745 (i + 1) (-1) (by omega) (by omega) (Or.inl ⟨rfl, wh_n hv (fun c => t55 c.2)⟩)
            · have t55 := ite_1 c55
              refine aw_aload_n 5 dX9_where_58 rfl rfl ?_
              refine aw_get fX9_65 dX9_where_59 h88 rfl ?_
              refine aw_iload 0 dX9_where_62 rfl ?_
              refine aw_iald i (rfl) (by omega) (by decide) dX9_where_64 h105 ?_
              refine aw_toe (nI (dy i)) (rfl) ?_
              have b2746 := bdy i (by omega)
              refine aw_iload_n 3 dX9_where_65 rfl rfl ?_
              refine aw_icmp_gt 95 dX9_where_66 (by decide) (fun c66 => ?_) (fun c66 => ?_)
              · have d66 := (nv_lt (a := d0) (b := dy i) (rfl) (rfl) (by omega) (by omega)).mp c66
                refine aw_iinc (j := 0) (nI (i + 1)) [(6, .int (nI (i + 1))), (5, .int (-1)), (3, .int (nI k0)), (2, .int (nI d0)), (1, .int (nI t0)), (0, .ref (G.1 + 88))] dX9_where_95 rfl (nv_inc (rfl)) (by decide) rfl ?_
                refine aw_goto 38 dX9_where_98 (by decide) ?_
                refine aw_lv [(6, .int (nI (i + 1))), (5, .int (-1)), (3, .int (nI k0)), (2, .int (nI d0)), (1, .int (nI t0)), (0, .ref (G.1 + 88))] [0, 1, 2, 3, 4, 5] rfl ?_
                exact ih2745 (i + 1) (-1) (by omega) (by omega) (Or.inl ⟨rfl, wh_n hv (fun c => absurd c.1 (by omega))⟩)
              · have d66 := mt (nv_lt (a := d0) (b := dy i) (rfl) (rfl) (by omega) (by omega)).mpr c66
                refine aw_iload 1 dX9_where_69 rfl ?_
                refine aw_if_lt 91 dX9_where_71 (by decide) (fun c71 => ?_) (fun c71 => absurd (by decide) c71)
                refine aw_iload 0 dX9_where_91 rfl ?_
                refine aw_istore [(5, .int (nI i)), (6, .int (nI i)), (3, .int (nI k0)), (2, .int (nI d0)), (1, .int (nI t0)), (0, .ref (G.1 + 88))] dX9_where_93 (by decide) rfl ?_
                refine aw_iinc (j := 1) (nI (i + 1)) [(6, .int (nI (i + 1))), (5, .int (nI i)), (3, .int (nI k0)), (2, .int (nI d0)), (1, .int (nI t0)), (0, .ref (G.1 + 88))] dX9_where_95 rfl (nv_inc (rfl)) (by decide) rfl ?_
                refine aw_goto 38 dX9_where_98 (by decide) ?_
                refine aw_lv [(6, .int (nI (i + 1))), (5, .int (nI i)), (3, .int (nI k0)), (2, .int (nI d0)), (1, .int (nI t0)), (0, .ref (G.1 + 88))] [0, 1, 2, 3, 4, 5] rfl ?_
                exact ih2745 (i + 1) (nI i) (by omega) (by omega) (Or.inr ⟨i, rfl, by omega, wh_i hv ⟨by omega, t55⟩⟩)
        · refine aw_iload 0 dX9_where_38 rfl ?_
          refine aw_aload_n 5 dX9_where_40 rfl rfl ?_
          refine aw_get fX9_198 dX9_where_41 h88 rfl ?_
          refine aw_icmp_ge 101 dX9_where_44 (by decide) (fun c44 => ?_) (fun c44 => ?_)
          · have d44 := (nv_le (a := ns) (b := i) (rfl) (rfl) (by omega) (by omega)).mp c44
            refine aw_iload 1 dX9_where_101 rfl ?_
            refine aw_if_ge 111 dX9_where_103 (by decide) (fun c103 => ?_) (fun c103 => absurd (by simp only [i_le, (nI_toInt (n := q) (by omega)), (show (0 : Int32).toInt = 0 from rfl)] <;> omega) c103)
            refine aw_aload_n 5 dX9_where_111 rfl rfl ?_
            refine aw_get fX9_62 dX9_where_112 h88 rfl ?_
            refine aw_iload 1 dX9_where_115 rfl ?_
            refine aw_iald q (rfl) (by omega) (by decide) dX9_where_117 h104 ?_
            refine aw_toe (nI (ot q)) (rfl) ?_
            subst hQF
            exact aw_iret rfl dX9_where_118 (by decide) (by decide) ⟨_, rfl, _, h89, rng_rf 89 89 h, by rw [whU, if_pos ⟨by omega, by omega⟩, if_pos c22, nn_t0, nn_d0, nn_k0]; exact wh_2 hv bq (by omega)⟩
          · have d44 := mt (nv_le (a := ns) (b := i) (rfl) (rfl) (by omega) (by omega)).mpr c44
            refine aw_aload_n 5 dX9_where_47 rfl rfl ?_
            refine aw_iload 0 dX9_where_48 rfl ?_
            refine aw_iload_n 4 dX9_where_50 rfl rfl ?_
            refine aw_iload_n 2 dX9_where_51 rfl rfl ?_
            refine aw_dV [.int (nI i), .int (nI t0), .int (nI k0)] [] lX9_205 vX9_isSight mX9_isSight dX9_where_52 (bX9_isSight (sp := sp) (fa := fa) (nb := nb) (ns := ns) (nm := nm) (nv := nv) (sh := sh) (ho := ho) (ow := ow) (sl := sl) (th := th) (kn := kn) (q := i) (t := t0) (k := k0) h88 h103 h106 h107 bth bkn bgo (by omega) (by omega) (by omega)) h88 rfl rfl rfl (Nat.le_of_ble_eq_true rfl) (by decide) (by decide) rfl ?_
            refine aw_if_eq 95 dX9_where_55 (by decide) (fun c55 => ?_) (fun c55 => ?_)
            · have t55 := ite_0 c55
              refine aw_iinc (j := 0) (nI (i + 1)) [(6, .int (nI (i + 1))), (5, .int (nI q)), (3, .int (nI k0)), (2, .int (nI d0)), (1, .int (nI t0)), (0, .ref (G.1 + 88))] dX9_where_95 rfl (nv_inc (rfl)) (by decide) rfl ?_
              refine aw_goto 38 dX9_where_98 (by decide) ?_
              refine aw_lv [(6, .int (nI (i + 1))), (5, .int (nI q)), (3, .int (nI k0)), (2, .int (nI d0)), (1, .int (nI t0)), (0, .ref (G.1 + 88))] [0, 1, 2, 3, 4, 5] rfl ?_
              exact ih2745 (i + 1) (nI q) (by omega) (by omega) (Or.inr ⟨q, rfl, by omega, wh_s hv (fun c => t55 c.2)⟩)
            · have t55 := ite_1 c55
              refine aw_aload_n 5 dX9_where_58 rfl rfl ?_
              refine aw_get fX9_65 dX9_where_59 h88 rfl ?_
              refine aw_iload 0 dX9_where_62 rfl ?_
              refine aw_iald i (rfl) (by omega) (by decide) dX9_where_64 h105 ?_
              refine aw_toe (nI (dy i)) (rfl) ?_
              have b2747 := bdy i (by omega)
              refine aw_iload_n 3 dX9_where_65 rfl rfl ?_
              refine aw_icmp_gt 95 dX9_where_66 (by decide) (fun c66 => ?_) (fun c66 => ?_)
              · have d66 := (nv_lt (a := d0) (b := dy i) (rfl) (rfl) (by omega) (by omega)).mp c66
                refine aw_iinc (j := 0) (nI (i + 1)) [(6, .int (nI (i + 1))), (5, .int (nI q)), (3, .int (nI k0)), (2, .int (nI d0)), (1, .int (nI t0)), (0, .ref (G.1 + 88))] dX9_where_95 rfl (nv_inc (rfl)) (by decide) rfl ?_
                refine aw_goto 38 dX9_where_98 (by decide) ?_
                refine aw_lv [(6, .int (nI (i + 1))), (5, .int (nI q)), (3, .int (nI k0)), (2, .int (nI d0)), (1, .int (nI t0)), (0, .ref (G.1 + 88))] [0, 1, 2, 3, 4, 5] rfl ?_
                exact ih2745 (i + 1) (nI q) (by omega) (by omega) (Or.inr ⟨q, rfl, by omega, wh_s hv (fun c => absurd c.1 (by omega))⟩)
              · have d66 := mt (nv_lt (a := d0) (b := dy i) (rfl) (rfl) (by omega) (by omega)).mpr c66
                refine aw_iload 1 dX9_where_69 rfl ?_
                refine aw_if_lt 91 dX9_where_71 (by decide) (fun c71 => absurd c71 (by simp only [i_lt, (nI_toInt (n := q) (by omega)), (show (0 : Int32).toInt = 0 from rfl)] <;> omega)) (fun c71 => ?_)
                refine aw_aload_n 5 dX9_where_74 rfl rfl ?_
                refine aw_get fX9_65 dX9_where_75 h88 rfl ?_
                refine aw_iload 0 dX9_where_78 rfl ?_
                refine aw_iald i (rfl) (by omega) (by decide) dX9_where_80 h105 ?_
                refine aw_toe (nI (dy i)) (rfl) ?_
                have b2748 := bdy i (by omega)
                refine aw_aload_n 5 dX9_where_81 rfl rfl ?_
                refine aw_get fX9_65 dX9_where_82 h88 rfl ?_
                refine aw_iload 1 dX9_where_85 rfl ?_
                refine aw_iald q (rfl) (by omega) (by decide) dX9_where_87 h105 ?_
                refine aw_toe (nI (dy q)) (rfl) ?_
                have b2749 := bdy q (by omega)
                refine aw_icmp_lt 95 dX9_where_88 (by decide) (fun c88 => ?_) (fun c88 => ?_)
                · have d88 := (nv_lt (a := dy i) (b := dy q) (rfl) (rfl) (by omega) (by omega)).mp c88
                  refine aw_iinc (j := 0) (nI (i + 1)) [(6, .int (nI (i + 1))), (5, .int (nI q)), (3, .int (nI k0)), (2, .int (nI d0)), (1, .int (nI t0)), (0, .ref (G.1 + 88))] dX9_where_95 rfl (nv_inc (rfl)) (by decide) rfl ?_
                  refine aw_goto 38 dX9_where_98 (by decide) ?_
                  refine aw_lv [(6, .int (nI (i + 1))), (5, .int (nI q)), (3, .int (nI k0)), (2, .int (nI d0)), (1, .int (nI t0)), (0, .ref (G.1 + 88))] [0, 1, 2, 3, 4, 5] rfl ?_
                  exact ih2745 (i + 1) (nI q) (by omega) (by omega) (Or.inr ⟨q, rfl, by omega, wh_l hv d88⟩)
                · have d88 := mt (nv_lt (a := dy i) (b := dy q) (rfl) (rfl) (by omega) (by omega)).mpr c88
                  refine aw_iload 0 dX9_where_91 rfl ?_
                  refine aw_istore [(5, .int (nI i)), (6, .int (nI i)), (3, .int (nI k0)), (2, .int (nI d0)), (1, .int (nI t0)), (0, .ref (G.1 + 88))] dX9_where_93 (by decide) rfl ?_
                  refine aw_iinc (j := 1) (nI (i + 1)) [(6, .int (nI (i + 1))), (5, .int (nI i)), (3, .int (nI k0)), (2, .int (nI d0)), (1, .int (nI t0)), (0, .ref (G.1 + 88))] dX9_where_95 rfl (nv_inc (rfl)) (by decide) rfl ?_
                  refine aw_goto 38 dX9_where_98 (by decide) ?_
                  refine aw_lv [(6, .int (nI (i + 1))), (5, .int (nI i)), (3, .int (nI k0)), (2, .int (nI d0)), (1, .int (nI t0)), (0, .ref (G.1 + 88))] [0, 1, 2, 3, 4, 5] rfl ?_
                  exact ih2745 (i + 1) (nI i) (by omega) (by omega) (Or.inr ⟨i, rfl, by omega, wh_g hv ⟨by omega, t55⟩ d88⟩)
    · have d22 := mt (j_eq (a := (dyF d k).toInt) (b := (0)) (rfl) (rfl)).mpr c22
      refine aw_aload_n 1 dX9_where_25 rfl rfl ?_
      refine aw_iload 0 dX9_where_26 rfl ?_
      obtain ⟨q2750, bq2750, eq2750⟩ := Or.resolve_left (dyF_q d k) (by assumption)
      refine aw_eV [.int (dyF d k)] [] lX9_130 vX9_refuse mX9_refuse dX9_where_28 (bX9_refuse (sp := sp) (fa := fa) (nb := nb) (ns := ns) (nm := nm) (nv := nv) (sh := sh) (ho := ho) (ow := ow) (sl := sl) (rg := rg) (x := (dyF d k)) (q := q2750) h88 h89 bq2750 eq2750) h88 rfl rfl rfl (Nat.le_of_ble_eq_true rfl) (by decide) (by decide) rfl (fun h2753 q2752 => ?_)
      obtain ⟨rg12751, f2754, k2755⟩ := q2752
      have f2756 := rng_at k2755 (by decide) h88
      have f2757 := rng_at k2755 (by decide) h103
      have f2758 := rng_at k2755 (by decide) h104
      have f2759 := rng_at k2755 (by decide) h105
      have f2760 := rng_at k2755 (by decide) h106
      have f2761 := rng_at k2755 (by decide) h107
      subst hQF
      exact aw_iret rfl dX9_where_31 (by decide) (by decide) ⟨_, rfl, _, f2754, rng_tr (rng_rf 89 89 h) (rng_w k2755 (by decide) (by decide)), by rw [whU, if_pos (by omega), if_neg c22]⟩
set_option maxHeartbeats 4000000 in
theorem oX9_quarrels {l : Launch} {G : xG} {h : List va_E} {sp fa nb ns nm nv sh : Nat} {ho ow sl : Int32} {rg : Nat → Int32} {th ot dy kn go : Nat → Nat} {t k : Int32} (h88 : h[88]? = some (oB 9 (lM G (nI sp) (nI fa) (nI nb) (nI ns) (nI nm) ho ow sl (nI nv) (nI sh)))) (h89 : h[89]? = some (aI 7 rg)) (h103 : h[103]? = some (aI 60 (nA th))) (h104 : h[104]? = some (aI 60 (nA ot))) (h105 : h[105]? = some (aI 60 (nA dy))) (h106 : h[106]? = some (aI 60 (nA kn))) (h107 : h[107]? = some (aI 60 (nA (gM go)))) (bth : ∀ j, j < 60 → th j < 12) (bkn : ∀ j, j < 60 → kn j ≤ 80000) (bgo : ∀ j, j < 60 → go j ≤ 80001) (bdy : ∀ j, j < 60 → dy j ≤ 80000) (hn : ns ≤ 60) (bot : ∀ j, j < 60 → ot j < 8) : CE l G yX9_quarrels cX9_quarrels 9 (some .int) 2 0 0 [.ref (G.1 + 88), .int t, .int k] h (some (.int (if (0 ≤ t.toInt ∧ t.toInt < 12) then (if dyF k k = 0 then nI (qnS th ot dy kn go (tn t) (tn k) ns) else dyF k k) else -1))) (fun h1 => ∃ rg1 : Nat → Int32, h1[89]? = some (aI 7 rg1) ∧ rng 89 89 h h1) := by
  refine cm_ofQ rfl (Nat.le_of_ble_eq_true rfl) [(0, .ref (G.1 + 88)), (1, .int t), (2, .int k)] rfl (fun QF hQF => ?_)
  refine aw_iload_n 1 dX9_quarrels_0 rfl rfl ?_
  refine aw_bipush (12) dX9_quarrels_1 (by decide) ?_
  refine aw_dS [.int t, .int 12] [] lX9_126 sX9_isIn mX9_isIn dX9_quarrels_3 (bX9_isIn (x := t) (n := 12) (by omega)) rfl (Nat.le_of_ble_eq_true rfl) (by decide) (by decide) rfl ?_
  refine aw_if_eq 19 dX9_quarrels_6 (by decide) (fun c6 => ?_) (fun c6 => ?_)
  · have t6 := ite_0 c6
    refine aw_iconst (-1) dX9_quarrels_19 (by decide) ?_
    refine aw_istore_n [(3, .int (-1)), (0, .ref (G.1 + 88)), (1, .int t), (2, .int k)] dX9_quarrels_20 rfl (by decide) rfl ?_
    refine aw_iload_n 0 dX9_quarrels_21 rfl rfl ?_
    refine aw_if_eq 31 dX9_quarrels_22 (by decide) (fun c22 => absurd c22 (by decide)) (fun c22 => ?_)
    refine aw_aload_n 1 dX9_quarrels_25 rfl rfl ?_
    refine aw_iload_n 0 dX9_quarrels_26 rfl rfl ?_
    refine aw_eV [.int (-1)] [] lX9_130 vX9_refuse mX9_refuse dX9_quarrels_27 (bX9_refuse (sp := sp) (fa := fa) (nb := nb) (ns := ns) (nm := nm) (nv := nv) (sh := sh) (ho := ho) (ow := ow) (sl := sl) (rg := rg) (x := (-1)) (q := 1) h88 h89 (by decide) (by decide)) h88 rfl rfl rfl (Nat.le_of_ble_eq_true rfl) (by decide) (by decide) rfl (fun h2764 q2763 => ?_)
    obtain ⟨rg12762, f2765, k2766⟩ := q2763
    have f2767 := rng_at k2766 (by decide) h88
    have f2768 := rng_at k2766 (by decide) h103
    have f2769 := rng_at k2766 (by decide) h104
    have f2770 := rng_at k2766 (by decide) h105
    have f2771 := rng_at k2766 (by decide) h106
    have f2772 := rng_at k2766 (by decide) h107
    subst hQF
    exact aw_iret rfl dX9_quarrels_30 (by decide) (by decide) ⟨by rw [if_neg (by omega)], _, f2765, rng_tr (rng_rf 89 89 h) (rng_w k2766 (by decide) (by decide))⟩
  · have t6 := ite_1 c6
    refine aw_iload_n 2 dX9_quarrels_9 rfl rfl ?_
    refine aw_iconst (0) dX9_quarrels_10 (by decide) ?_
    refine aw_ldc (80000) kX9_194 dX9_quarrels_11 ?_
    refine aw_dS [.int k, .int 0, .int 80000] [] lX9_137 sX9_wrong mX9_wrong dX9_quarrels_13 (bX9_wrong (x := k) (y := 0) (z := 80000) ) rfl (Nat.le_of_ble_eq_true rfl) (by decide) (by decide) rfl ?_
    refine aw_goto 20 dX9_quarrels_16 (by decide) ?_
    refine aw_istore_n [(3, .int (wrF k 0 80000)), (0, .ref (G.1 + 88)), (1, .int t), (2, .int k)] dX9_quarrels_20 rfl (by decide) rfl ?_
    refine aw_iload_n 0 dX9_quarrels_21 rfl rfl ?_
    refine aw_if_eq 31 dX9_quarrels_22 (by decide) (fun c22 => ?_) (fun c22 => ?_)
    · have d22 := (j_eq (a := (wrF k 0 80000).toInt) (b := (0)) (rfl) (rfl)).mp c22
      have hw : 0 ≤ k.toInt ∧ k.toInt ≤ 80000 := wrF_0 c22
      obtain ⟨t0, bb_t0, ee_t0⟩ := i_nat (x := t) (N := 12) (by omega) (by omega)
      subst ee_t0
      have tt_t0 : (nI t0).toInt = (t0 : Int) := nI_toInt (by omega)
      have nn_t0 : tn (nI t0) = t0 := tn_nI (by omega)
      obtain ⟨k0, bb_k0, ee_k0⟩ := i_nat (x := k) (N := 80001) (by omega) (by omega)
      subst ee_k0
      have tt_k0 : (nI k0).toInt = (k0 : Int) := nI_toInt (by omega)
      have nn_k0 : tn (nI k0) = k0 := tn_nI (by omega)
      refine aw_iconst (0) dX9_quarrels_31 (by decide) ?_
      refine aw_istore [(4, .int 0), (3, .int (wrF (nI k0) 0 80000)), (0, .ref (G.1 + 88)), (1, .int (nI t0)), (2, .int (nI k0))] dX9_quarrels_32 (by decide) rfl ?_
      refine aw_iconst (0) dX9_quarrels_34 (by decide) ?_
      refine aw_istore [(5, .int 0), (4, .int 0), (3, .int (wrF (nI k0) 0 80000)), (0, .ref (G.1 + 88)), (1, .int (nI t0)), (2, .int (nI k0))] dX9_quarrels_35 (by decide) rfl ?_
      refine aw_lv [(5, .int 0), (4, .int 0), (2, .int (nI k0)), (1, .int (nI t0)), (0, .ref (G.1 + 88))] [0, 1, 5, 4, 3] rfl ?_
      suffices L2773 : ∀ (mm : Nat) (i : Nat) (c : Nat), ns - i < mm → (i ≤ ns) → (c = qnF th ot dy kn go t0 k0 ns i) → AW l G yX9_quarrels cX9_quarrels 9 (some .int) (xR 2 0 0) (fun _ _ => True) QF 0 0 37 [(5, .int (nI i)), (4, .int (nI c)), (2, .int (nI k0)), (1, .int (nI t0)), (0, .ref (G.1 + 88))] [] h from L2773 (ns - 0 + 1) 0 0 (Nat.lt_succ_self _) (Nat.zero_le _) (qn_0.symm)
      intro mm
      induction mm with
      | zero =>
        intro i c hmm hi hc
        exact absurd hmm (Nat.not_lt_zero _)
      | succ mm ih2773 =>
        intro i c hmm hi hc
        refine aw_iload 0 dX9_quarrels_37 rfl ?_
        refine aw_aload_n 4 dX9_quarrels_39 rfl rfl ?_
        refine aw_get fX9_198 dX9_quarrels_40 h88 rfl ?_
        refine aw_icmp_ge 189 dX9_quarrels_43 (by decide) (fun c43 => ?_) (fun c43 => ?_)
        · have d43 := (nv_le (a := ns) (b := i) (rfl) (rfl) (by omega) (by omega)).mp c43
          refine aw_iload 1 dX9_quarrels_189 rfl ?_
          subst hQF
          exact aw_iret rfl dX9_quarrels_191 (by decide) (by decide) ⟨by rw [if_pos ⟨by omega, by omega⟩, if_pos (by rw [← wr_dy]; exact c22), nn_t0, nn_k0, hc, qn_e (by omega)], _, h89, rng_rf 89 89 h⟩
        · have d43 := mt (nv_le (a := ns) (b := i) (rfl) (rfl) (by omega) (by omega)).mpr c43
          refine aw_aload_n 4 dX9_quarrels_46 rfl rfl ?_
          refine aw_iload 0 dX9_quarrels_47 rfl ?_
          refine aw_iload_n 3 dX9_quarrels_49 rfl rfl ?_
          refine aw_iload_n 2 dX9_quarrels_50 rfl rfl ?_
          refine aw_dV [.int (nI i), .int (nI t0), .int (nI k0)] [] lX9_205 vX9_isSight mX9_isSight dX9_quarrels_51 (bX9_isSight (sp := sp) (fa := fa) (nb := nb) (ns := ns) (nm := nm) (nv := nv) (sh := sh) (ho := ho) (ow := ow) (sl := sl) (th := th) (kn := kn) (q := i) (t := t0) (k := k0) h88 h103 h106 h107 bth bkn bgo (by omega) (by omega) (by omega)) h88 rfl rfl rfl (Nat.le_of_ble_eq_true rfl) (by decide) (by decide) rfl ?_
          refine aw_if_ne 60 dX9_quarrels_54 (by decide) (fun c54 => ?_) (fun c54 => ?_)
          · have t54 := ite_1 c54
            refine aw_iconst (1) dX9_quarrels_60 (by decide) ?_
            refine aw_istore [(6, .int 1), (5, .int (nI i)), (4, .int (nI c)), (2, .int (nI k0)), (1, .int (nI t0)), (0, .ref (G.1 + 88))] dX9_quarrels_61 (by decide) rfl ?_
            refine aw_iconst (0) dX9_quarrels_63 (by decide) ?_
            refine aw_istore [(7, .int 0), (6, .int 1), (5, .int (nI i)), (4, .int (nI c)), (2, .int (nI k0)), (1, .int (nI t0)), (0, .ref (G.1 + 88))] dX9_quarrels_64 (by decide) rfl ?_
            refine aw_iconst (0) dX9_quarrels_66 (by decide) ?_
            refine aw_istore [(8, .int 0), (7, .int 0), (6, .int 1), (5, .int (nI i)), (4, .int (nI c)), (2, .int (nI k0)), (1, .int (nI t0)), (0, .ref (G.1 + 88))] dX9_quarrels_67 (by decide) rfl ?_
            refine aw_lv [(8, .int 0), (7, .int 0), (6, .int 1), (5, .int (nI i)), (4, .int (nI c)), (2, .int (nI k0)), (1, .int (nI t0)), (0, .ref (G.1 + 88))] [0, 1, 2, 3, 4, 5, 6, 7] rfl ?_
            suffices L2774 : ∀ (mm : Nat) (j : Nat) (gv : Int32) (fv : Int32), ns - j < mm → (j ≤ ns) → (gv = if (dqF th ot dy kn go t0 k0 i j = true) then 1 else 0) → (fv = if (fqF th dy kn go t0 k0 i j = true) then 1 else 0) → AW l G yX9_quarrels cX9_quarrels 9 (some .int) (xR 2 0 0) (fun _ _ => True) QF 0 0 69 [(8, .int (nI j)), (7, .int gv), (6, .int fv), (5, .int (nI i)), (4, .int (nI c)), (2, .int (nI k0)), (1, .int (nI t0)), (0, .ref (G.1 + 88))] [] h from L2774 (ns - 0 + 1) 0 0 1 (Nat.lt_succ_self _) (Nat.zero_le _) (rfl) (rfl)
            intro mm
            induction mm with
            | zero =>
              intro j gv fv hmm hj hg hf
              exact absurd hmm (Nat.not_lt_zero _)
            | succ mm ih2774 =>
              intro j gv fv hmm hj hg hf
              subst hg
              subst hf
              · refine aw_iload 0 dX9_quarrels_69 rfl ?_
                refine aw_aload_n 7 dX9_quarrels_71 rfl rfl ?_
                refine aw_get fX9_198 dX9_quarrels_72 h88 rfl ?_
                refine aw_icmp_ge 163 dX9_quarrels_75 (by decide) (fun c75 => ?_) (fun c75 => ?_)
                · have d75 := (nv_le (a := ns) (b := j) (rfl) (rfl) (by omega) (by omega)).mp c75
                  refine aw_iload 4 dX9_quarrels_163 rfl ?_
                  refine aw_iload 2 dX9_quarrels_165 rfl ?_
                  refine aw_if_eq 179 dX9_quarrels_167 (by decide) (fun c167 => ?_) (fun c167 => ?_)
                  · have t167 := ite_0 c167
                    refine aw_iconst (0) dX9_quarrels_179 (by decide) ?_
                    refine aw_iadd dX9_quarrels_180 ?_
                    refine aw_toe (nI (c + 0)) (nv_add (rfl) (rfl)) ?_
                    refine aw_istore [(4, .int (nI (c + 0))), (8, .int (nI j)), (7, .int (if (dqF th ot dy kn go t0 k0 i j = true) then 1 else 0)), (6, .int (if (fqF th dy kn go t0 k0 i j = true) then 1 else 0)), (5, .int (nI i)), (2, .int (nI k0)), (1, .int (nI t0)), (0, .ref (G.1 + 88))] dX9_quarrels_181 (by decide) rfl ?_
                    refine aw_iinc (j := 4) (nI (i + 1)) [(5, .int (nI (i + 1))), (4, .int (nI (c + 0))), (8, .int (nI j)), (7, .int (if (dqF th ot dy kn go t0 k0 i j = true) then 1 else 0)), (6, .int (if (fqF th dy kn go t0 k0 i j = true) then 1 else 0)), (2, .int (nI k0)), (1, .int (nI t0)), (0, .ref (G.1 + 88))] dX9_quarrels_183 rfl (nv_inc (rfl)) (by decide) rfl ?_
                    refine aw_goto 37 dX9_quarrels_186 (by decide) ?_
                    refine aw_lv [(5, .int (nI (i + 1))), (4, .int (nI (c + 0))), (2, .int (nI k0)), (1, .int (nI t0)), (0, .ref (G.1 + 88))] [0, 1, 5, 6, 7] rfl ?_
                    exact ih2773 (i + 1) (c + 0) (by omega) (by omega) (hc.trans (qn_m t54 (by omega) (Or.inl (by rw [← (show j = ns by omega)]; exact t167))).symm)
                  · have t167 := ite_1 c167
                    refine aw_iload 1 dX9_quarrels_170 rfl ?_
                    refine aw_if_eq 179 dX9_quarrels_172 (by decide) (fun c172 => ?_) (fun c172 => ?_)
                    · have t172 := ite_0 c172
                      refine aw_iconst (0) dX9_quarrels_179 (by decide) ?_
                      refine aw_iadd dX9_quarrels_180 ?_
                      refine aw_toe (nI (c + 0)) (nv_add (rfl) (rfl)) ?_
                      refine aw_istore [(4, .int (nI (c + 0))), (8, .int (nI j)), (7, .int (if (dqF th ot dy kn go t0 k0 i j = true) then 1 else 0)), (6, .int (if (fqF th dy kn go t0 k0 i j = true) then 1 else 0)), (5, .int (nI i)), (2, .int (nI k0)), (1, .int (nI t0)), (0, .ref (G.1 + 88))] dX9_quarrels_181 (by decide) rfl ?_
                      refine aw_iinc (j := 4) (nI (i + 1)) [(5, .int (nI (i + 1))), (4, .int (nI (c + 0))), (8, .int (nI j)), (7, .int (if (dqF th ot dy kn go t0 k0 i j = true) then 1 else 0)), (6, .int (if (fqF th dy kn go t0 k0 i j = true) then 1 else 0)), (2, .int (nI k0)), (1, .int (nI t0)), (0, .ref (G.1 + 88))] dX9_quarrels_183 rfl (nv_inc (rfl)) (by decide) rfl ?_
                      refine aw_goto 37 dX9_quarrels_186 (by decide) ?_
                      refine aw_lv [(5, .int (nI (i + 1))), (4, .int (nI (c + 0))), (2, .int (nI k0)), (1, .int (nI t0)), (0, .ref (G.1 + 88))] [0, 1, 5, 6, 7] rfl ?_
                      exact ih2773 (i + 1) (c + 0) (by omega) (by omega) (hc.trans (qn_m t54 (by omega) (Or.inr (by rw [← (show j = ns by omega)]; exact t172))).symm)
                    · have t172 := ite_1 c172
                      refine aw_iconst (1) dX9_quarrels_175 (by decide) ?_
                      refine aw_goto 180 dX9_quarrels_176 (by decide) ?_
                      refine aw_iadd dX9_quarrels_180 ?_
                      refine aw_toe (nI (c + 1)) (nv_add (rfl) (rfl)) ?_
                      refine aw_istore [(4, .int (nI (c + 1))), (8, .int (nI j)), (7, .int (if (dqF th ot dy kn go t0 k0 i j = true) then 1 else 0)), (6, .int (if (fqF th dy kn go t0 k0 i j = true) then 1 else 0)), (5, .int (nI i)), (2, .int (nI k0)), (1, .int (nI t0)), (0, .ref (G.1 + 88))] dX9_quarrels_181 (by decide) rfl ?_
                      refine aw_iinc (j := 4) (nI (i + 1)) [(5, .int (nI (i + 1))), (4, .int (nI (c + 1))), (8, .int (nI j)), (7, .int (if (dqF th ot dy kn go t0 k0 i j = true) then 1 else 0)), (6, .int (if (fqF th dy kn go t0 k0 i j = true) then 1 else 0)), (2, .int (nI k0)), (1, .int (nI t0)), (0, .ref (G.1 + 88))] dX9_quarrels_183 rfl (nv_inc (rfl)) (by decide) rfl ?_
                      refine aw_goto 37 dX9_quarrels_186 (by decide) ?_
                      refine aw_lv [(5, .int (nI (i + 1))), (4, .int (nI (c + 1))), (2, .int (nI k0)), (1, .int (nI t0)), (0, .ref (G.1 + 88))] [0, 1, 5, 6, 7] rfl ?_
                      exact ih2773 (i + 1) (c + 1) (by omega) (by omega) (by rw [qn_y (bdy i (by omega)) t54 (by omega) (by rw [← (show j = ns by omega)]; exact t167) (by rw [← (show j = ns by omega)]; exact t172), hc])
                · have d75 := mt (nv_le (a := ns) (b := j) (rfl) (rfl) (by omega) (by omega)).mpr c75
                  refine aw_aload_n 7 dX9_quarrels_78 rfl rfl ?_
                  refine aw_iload 0 dX9_quarrels_79 rfl ?_
                  refine aw_iload_n 6 dX9_quarrels_81 rfl rfl ?_
                  refine aw_iload_n 5 dX9_quarrels_82 rfl rfl ?_
                  refine aw_dV [.int (nI j), .int (nI t0), .int (nI k0)] [] lX9_205 vX9_isSight mX9_isSight dX9_quarrels_83 (bX9_isSight (sp := sp) (fa := fa) (nb := nb) (ns := ns) (nm := nm) (nv := nv) (sh := sh) (ho := ho) (ow := ow) (sl := sl) (th := th) (kn := kn) (q := j) (t := t0) (k := k0) h88 h103 h106 h107 bth bkn bgo (by omega) (by omega) (by omega)) h88 rfl rfl rfl (Nat.le_of_ble_eq_true rfl) (by decide) (by decide) rfl ?_
                  refine aw_if_eq 157 dX9_quarrels_86 (by decide) (fun c86 => ?_) (fun c86 => ?_)
                  · have t86 := ite_0 c86
                    refine aw_iinc (j := 0) (nI (j + 1)) [(8, .int (nI (j + 1))), (7, .int (if (dqF th ot dy kn go t0 k0 i j = true) then 1 else 0)), (6, .int (if (fqF th dy kn go t0 k0 i j = true) then 1 else 0)), (5, .int (nI i)), (4, .int (nI c)), (2, .int (nI k0)), (1, .int (nI t0)), (0, .ref (G.1 + 88))] dX9_quarrels_157 rfl (nv_inc (rfl)) (by decide) rfl ?_
                    refine aw_goto 69 dX9_quarrels_160 (by decide) ?_
                    refine aw_lv [(8, .int (nI (j + 1))), (7, .int (if (dqF th ot dy kn go t0 k0 i j = true) then 1 else 0)), (6, .int (if (fqF th dy kn go t0 k0 i j = true) then 1 else 0)), (5, .int (nI i)), (4, .int (nI c)), (2, .int (nI k0)), (1, .int (nI t0)), (0, .ref (G.1 + 88))] [0, 1, 2, 3, 4, 5, 6, 7] rfl ?_
                    exact ih2774 (j + 1) (if (dqF th ot dy kn go t0 k0 i j = true) then 1 else 0) (if (fqF th dy kn go t0 k0 i j = true) then 1 else 0) (by omega) (by omega) (by rw [dq_k (fun c => t86 c.1)]) (by rw [fq_k (fun c => t86 c.1)])
                  · have t86 := ite_1 c86
                    refine aw_aload_n 7 dX9_quarrels_89 rfl rfl ?_
                    refine aw_get fX9_65 dX9_quarrels_90 h88 rfl ?_
                    refine aw_iload 0 dX9_quarrels_93 rfl ?_
                    refine aw_iald j (rfl) (by omega) (by decide) dX9_quarrels_95 h105 ?_
                    refine aw_toe (nI (dy j)) (rfl) ?_
                    have b2775 := bdy j (by omega)
                    refine aw_aload_n 7 dX9_quarrels_96 rfl rfl ?_
                    refine aw_get fX9_65 dX9_quarrels_97 h88 rfl ?_
                    refine aw_iload 3 dX9_quarrels_100 rfl ?_
                    refine aw_iald i (rfl) (by omega) (by decide) dX9_quarrels_102 h105 ?_
                    refine aw_toe (nI (dy i)) (rfl) ?_
                    have b2776 := bdy i (by omega)
                    refine aw_icmp_eq 109 dX9_quarrels_103 (by decide) (fun c103 => ?_) (fun c103 => ?_)
                    · have d103 := (nv_eq (a := dy j) (b := dy i) (rfl) (rfl) (by omega) (by omega)).mp c103
                      refine aw_iload 2 dX9_quarrels_109 rfl ?_
                      refine aw_if_eq 125 dX9_quarrels_111 (by decide) (fun c111 => ?_) (fun c111 => ?_)
                      · have t111 := ite_0 c111
                        refine aw_iconst (0) dX9_quarrels_125 (by decide) ?_
                        refine aw_istore [(6, .int 0), (8, .int (nI j)), (7, .int (if (dqF th ot dy kn go t0 k0 i j = true) then 1 else 0)), (5, .int (nI i)), (4, .int (nI c)), (2, .int (nI k0)), (1, .int (nI t0)), (0, .ref (G.1 + 88))] dX9_quarrels_126 (by decide) rfl ?_
                        refine aw_iload 2 dX9_quarrels_128 rfl ?_
                        refine aw_if_ne 150 dX9_quarrels_130 (by decide) (fun c130 => ?_) (fun c130 => ?_)
                        · have t130 := ite_1 c130
                          refine aw_iconst (1) dX9_quarrels_150 (by decide) ?_
                          refine aw_goto 155 dX9_quarrels_151 (by decide) ?_
                          refine aw_istore [(7, .int 1), (6, .int 0), (8, .int (nI j)), (5, .int (nI i)), (4, .int (nI c)), (2, .int (nI k0)), (1, .int (nI t0)), (0, .ref (G.1 + 88))] dX9_quarrels_155 (by decide) rfl ?_
                          refine aw_iinc (j := 2) (nI (j + 1)) [(8, .int (nI (j + 1))), (7, .int 1), (6, .int 0), (5, .int (nI i)), (4, .int (nI c)), (2, .int (nI k0)), (1, .int (nI t0)), (0, .ref (G.1 + 88))] dX9_quarrels_157 rfl (nv_inc (rfl)) (by decide) rfl ?_
                          refine aw_goto 69 dX9_quarrels_160 (by decide) ?_
                          refine aw_lv [(8, .int (nI (j + 1))), (7, .int 1), (6, .int 0), (5, .int (nI i)), (4, .int (nI c)), (2, .int (nI k0)), (1, .int (nI t0)), (0, .ref (G.1 + 88))] [0, 1, 2, 3, 4, 5, 6, 7] rfl ?_
                          exact ih2774 (j + 1) 1 0 (by omega) (by omega) (dq_1 (Or.inl t130)) (fq_0 t86 d103 (Or.inl t111))
                        · have t130 := ite_0 c130
                          refine aw_aload_n 7 dX9_quarrels_133 rfl rfl ?_
                          refine aw_get fX9_62 dX9_quarrels_134 h88 rfl ?_
                          refine aw_iload 1 dX9_quarrels_137 rfl ?_
                          refine aw_iald j (rfl) (by omega) (by decide) dX9_quarrels_139 h104 ?_
                          refine aw_toe (nI (ot j)) (rfl) ?_
                          have b2777 := bot j (by omega)
                          refine aw_aload_n 7 dX9_quarrels_140 rfl rfl ?_
                          refine aw_get fX9_62 dX9_quarrels_141 h88 rfl ?_
                          refine aw_iload 3 dX9_quarrels_144 rfl ?_
                          refine aw_iald i (rfl) (by omega) (by decide) dX9_quarrels_146 h104 ?_
                          refine aw_toe (nI (ot i)) (rfl) ?_
                          have b2778 := bot i (by omega)
                          refine aw_icmp_eq 154 dX9_quarrels_147 (by decide) (fun c147 => ?_) (fun c147 => ?_)
                          · have d147 := (nv_eq (a := ot j) (b := ot i) (rfl) (rfl) (by omega) (by omega)).mp c147
                            refine aw_iconst (0) dX9_quarrels_154 (by decide) ?_
                            refine aw_istore [(7, .int 0), (6, .int 0), (8, .int (nI j)), (5, .int (nI i)), (4, .int (nI c)), (2, .int (nI k0)), (1, .int (nI t0)), (0, .ref (G.1 + 88))] dX9_quarrels_155 (by decide) rfl ?_
                            refine aw_iinc (j := 2) (nI (j + 1)) [(8, .int (nI (j + 1))), (7, .int 0), (6, .int 0), (5, .int (nI i)), (4, .int (nI c)), (2, .int (nI k0)), (1, .int (nI t0)), (0, .ref (G.1 + 88))] dX9_quarrels_157 rfl (nv_inc (rfl)) (by decide) rfl ?_
                            refine aw_goto 69 dX9_quarrels_160 (by decide) ?_
                            refine aw_lv [(8, .int (nI (j + 1))), (7, .int 0), (6, .int 0), (5, .int (nI i)), (4, .int (nI c)), (2, .int (nI k0)), (1, .int (nI t0)), (0, .ref (G.1 + 88))] [0, 1, 2, 3, 4, 5, 6, 7] rfl ?_
                            exact ih2774 (j + 1) 0 0 (by omega) (by omega) (dq_0 t130 d147) (fq_0 t86 d103 (Or.inl t111))
                          · have d147 := mt (nv_eq (a := ot j) (b := ot i) (rfl) (rfl) (by omega) (by omega)).mpr c147
                            refine aw_iconst (1) dX9_quarrels_150 (by decide) ?_
                            refine aw_goto 155 dX9_quarrels_151 (by decide) ?_
                            refine aw_istore [(7, .int 1), (6, .int 0), (8, .int (nI j)), (5, .int (nI i)), (4, .int (nI c)), (2, .int (nI k0)), (1, .int (nI t0)), (0, .ref (G.1 + 88))] dX9_quarrels_155 (by decide) rfl ?_
                            refine aw_iinc (j := 2) (nI (j + 1)) [(8, .int (nI (j + 1))), (7, .int 1), (6, .int 0), (5, .int (nI i)), (4, .int (nI c)), (2, .int (nI k0)), (1, .int (nI t0)), (0, .ref (G.1 + 88))] dX9_quarrels_157 rfl (nv_inc (rfl)) (by decide) rfl ?_
                            refine aw_goto 69 dX9_quarrels_160 (by decide) ?_
                            refine aw_lv [(8, .int (nI (j + 1))), (7, .int 1), (6, .int 0), (5, .int (nI i)), (4, .int (nI c)), (2, .int (nI k0)), (1, .int (nI t0)), (0, .ref (G.1 + 88))] [0, 1, 2, 3, 4, 5, 6, 7] rfl ?_
                            exact ih2774 (j + 1) 1 0 (by omega) (by omega) (dq_1 (Or.inr ⟨t86, d103, d147⟩)) (fq_0 t86 d103 (Or.inl t111))
                      · have t111 := ite_1 c111
                        refine aw_iload 0 dX9_quarrels_114 rfl ?_
                        refine aw_iload 3 dX9_quarrels_116 rfl ?_
                        refine aw_icmp_lt 125 dX9_quarrels_118 (by decide) (fun c118 => ?_) (fun c118 => ?_)
                        · have d118 := (nv_lt (a := j) (b := i) (rfl) (rfl) (by omega) (by omega)).mp c118
                          refine aw_iconst (0) dX9_quarrels_125 (by decide) ?_
                          refine aw_istore [(6, .int 0), (8, .int (nI j)), (7, .int (if (dqF th ot dy kn go t0 k0 i j = true) then 1 else 0)), (5, .int (nI i)), (4, .int (nI c)), (2, .int (nI k0)), (1, .int (nI t0)), (0, .ref (G.1 + 88))] dX9_quarrels_126 (by decide) rfl ?_
                          refine aw_iload 2 dX9_quarrels_128 rfl ?_
                          refine aw_if_ne 150 dX9_quarrels_130 (by decide) (fun c130 => ?_) (fun c130 => ?_)
                          · have t130 := ite_1 c130
                            refine aw_iconst (1) dX9_quarrels_150 (by decide) ?_
                            refine aw_goto 155 dX9_quarrels_151 (by decide) ?_
                            refine aw_istore [(7, .int 1), (6, .int 0), (8, .int (nI j)), (5, .int (nI i)), (4, .int (nI c)), (2, .int (nI k0)), (1, .int (nI t0)), (0, .ref (G.1 + 88))] dX9_quarrels_155 (by decide) rfl ?_
                            refine aw_iinc (j := 2) (nI (j + 1)) [(8, .int (nI (j + 1))), (7, .int 1), (6, .int 0), (5, .int (nI i)), (4, .int (nI c)), (2, .int (nI k0)), (1, .int (nI t0)), (0, .ref (G.1 + 88))] dX9_quarrels_157 rfl (nv_inc (rfl)) (by decide) rfl ?_
                            refine aw_goto 69 dX9_quarrels_160 (by decide) ?_
                            refine aw_lv [(8, .int (nI (j + 1))), (7, .int 1), (6, .int 0), (5, .int (nI i)), (4, .int (nI c)), (2, .int (nI k0)), (1, .int (nI t0)), (0, .ref (G.1 + 88))] [0, 1, 2, 3, 4, 5, 6, 7] rfl ?_
                            exact ih2774 (j + 1) 1 0 (by omega) (by omega) (dq_1 (Or.inl t130)) (fq_0 t86 d103 (Or.inr d118))
                          · have t130 := ite_0 c130
                            refine aw_aload_n 7 dX9_quarrels_133 rfl rfl ?_
                            refine aw_get fX9_62 dX9_quarrels_134 h88 rfl ?_
                            refine aw_iload 1 dX9_quarrels_137 rfl ?_
                            refine aw_iald j (rfl) (by omega) (by decide) dX9_quarrels_139 h104 ?_
                            refine aw_toe (nI (ot j)) (rfl) ?_
                            have b2779 := bot j (by omega)
                            refine aw_aload_n 7 dX9_quarrels_140 rfl rfl ?_
                            refine aw_get fX9_62 dX9_quarrels_141 h88 rfl ?_
                            refine aw_iload 3 dX9_quarrels_144 rfl ?_
                            refine aw_iald i (rfl) (by omega) (by decide) dX9_quarrels_146 h104 ?_
                            refine aw_toe (nI (ot i)) (rfl) ?_
                            have b2780 := bot i (by omega)
                            refine aw_icmp_eq 154 dX9_quarrels_147 (by decide) (fun c147 => ?_) (fun c147 => ?_)
                            · have d147 := (nv_eq (a := ot j) (b := ot i) (rfl) (rfl) (by omega) (by omega)).mp c147
                              refine aw_iconst (0) dX9_quarrels_154 (by decide) ?_
                              refine aw_istore [(7, .int 0), (6, .int 0), (8, .int (nI j)), (5, .int (nI i)), (4, .int (nI c)), (2, .int (nI k0)), (1, .int (nI t0)), (0, .ref (G.1 + 88))] dX9_quarrels_155 (by decide) rfl ?_
                              refine aw_iinc (j := 2) (nI (j + 1)) [(8, .int (nI (j + 1))), (7, .int 0), (6, .int 0), (5, .int (nI i)), (4, .int (nI c)), (2, .int (nI k0)), (1, .int (nI t0)), (0, .ref (G.1 + 88))] dX9_quarrels_157 rfl (nv_inc (rfl)) (by decide) rfl ?_
                              refine aw_goto 69 dX9_quarrels_160 (by decide) ?_
                              refine aw_lv [(8, .int (nI (j + 1))), (7, .int 0), (6, .int 0), (5, .int (nI i)), (4, .int (nI c)), (2, .int (nI k0)), (1, .int (nI t0)), (0, .ref (G.1 + 88))] [0, 1, 2, 3, 4, 5, 6, 7] rfl ?_
                              exact ih2774 (j + 1) 0 0 (by omega) (by omega) (dq_0 t130 d147) (fq_0 t86 d103 (Or.inr d118))
                            · have d147 := mt (nv_eq (a := ot j) (b := ot i) (rfl) (rfl) (by omega) (by omega)).mpr c147
                              refine aw_iconst (1) dX9_quarrels_150 (by decide) ?_
                              refine aw_goto 155 dX9_quarrels_151 (by decide) ?_
                              refine aw_istore [(7, .int 1), (6, .int 0), (8, .int (nI j)), (5, .int (nI i)), (4, .int (nI c)), (2, .int (nI k0)), (1, .int (nI t0)), (0, .ref (G.1 + 88))] dX9_quarrels_155 (by decide) rfl ?_
                              refine aw_iinc (j := 2) (nI (j + 1)) [(8, .int (nI (j + 1))), (7, .int 1), (6, .int 0), (5, .int (nI i)), (4, .int (nI c)), (2, .int (nI k0)), (1, .int (nI t0)), (0, .ref (G.1 + 88))] dX9_quarrels_157 rfl (nv_inc (rfl)) (by decide) rfl ?_
                              refine aw_goto 69 dX9_quarrels_160 (by decide) ?_
                              refine aw_lv [(8, .int (nI (j + 1))), (7, .int 1), (6, .int 0), (5, .int (nI i)), (4, .int (nI c)), (2, .int (nI k0)), (1, .int (nI t0)), (0, .ref (G.1 + 88))] [0, 1, 2, 3, 4, 5, 6, 7] rfl ?_
                              exact ih2774 (j + 1) 1 0 (by omega) (by omega) (dq_1 (Or.inr ⟨t86, d103, d147⟩)) (fq_0 t86 d103 (Or.inr d118))
                        · have d118 := mt (nv_lt (a := j) (b := i) (rfl) (rfl) (by omega) (by omega)).mpr c118
                          refine aw_iconst (1) dX9_quarrels_121 (by decide) ?_
                          refine aw_goto 126 dX9_quarrels_122 (by decide) ?_
                          refine aw_istore [(6, .int 1), (8, .int (nI j)), (7, .int (if (dqF th ot dy kn go t0 k0 i j = true) then 1 else 0)), (5, .int (nI i)), (4, .int (nI c)), (2, .int (nI k0)), (1, .int (nI t0)), (0, .ref (G.1 + 88))] dX9_quarrels_126 (by decide) rfl ?_
                          refine aw_iload 2 dX9_quarrels_128 rfl ?_
                          refine aw_if_ne 150 dX9_quarrels_130 (by decide) (fun c130 => ?_) (fun c130 => ?_)
                          · have t130 := ite_1 c130
                            refine aw_iconst (1) dX9_quarrels_150 (by decide) ?_
                            refine aw_goto 155 dX9_quarrels_151 (by decide) ?_
                            refine aw_istore [(7, .int 1), (6, .int 1), (8, .int (nI j)), (5, .int (nI i)), (4, .int (nI c)), (2, .int (nI k0)), (1, .int (nI t0)), (0, .ref (G.1 + 88))] dX9_quarrels_155 (by decide) rfl ?_
                            refine aw_iinc (j := 2) (nI (j + 1)) [(8, .int (nI (j + 1))), (7, .int 1), (6, .int 1), (5, .int (nI i)), (4, .int (nI c)), (2, .int (nI k0)), (1, .int (nI t0)), (0, .ref (G.1 + 88))] dX9_quarrels_157 rfl (nv_inc (rfl)) (by decide) rfl ?_
                            refine aw_goto 69 dX9_quarrels_160 (by decide) ?_
                            refine aw_lv [(8, .int (nI (j + 1))), (7, .int 1), (6, .int 1), (5, .int (nI i)), (4, .int (nI c)), (2, .int (nI k0)), (1, .int (nI t0)), (0, .ref (G.1 + 88))] [0, 1, 2, 3, 4, 5, 6, 7] rfl ?_
                            exact ih2774 (j + 1) 1 1 (by omega) (by omega) (dq_1 (Or.inl t130)) (fq_1 t111 d118)
                          · have t130 := ite_0 c130
                            refine aw_aload_n 7 dX9_quarrels_133 rfl rfl ?_
                            refine aw_get fX9_62 dX9_quarrels_134 h88 rfl ?_
                            refine aw_iload 1 dX9_quarrels_137 rfl ?_
                            refine aw_iald j (rfl) (by omega) (by decide) dX9_quarrels_139 h104 ?_
                            refine aw_toe (nI (ot j)) (rfl) ?_
                            have b2781 := bot j (by omega)
                            refine aw_aload_n 7 dX9_quarrels_140 rfl rfl ?_
                            refine aw_get fX9_62 dX9_quarrels_141 h88 rfl ?_
                            refine aw_iload 3 dX9_quarrels_144 rfl ?_
                            refine aw_iald i (rfl) (by omega) (by decide) dX9_quarrels_146 h104 ?_
                            refine aw_toe (nI (ot i)) (rfl) ?_
                            have b2782 := bot i (by omega)
                            refine aw_icmp_eq 154 dX9_quarrels_147 (by decide) (fun c147 => ?_) (fun c147 => ?_)
                            · have d147 := (nv_eq (a := ot j) (b := ot i) (rfl) (rfl) (by omega) (by omega)).mp c147
                              refine aw_iconst (0) dX9_quarrels_154 (by decide) ?_
                              refine aw_istore [(7, .int 0), (6, .int 1), (8, .int (nI j)), (5, .int (nI i)), (4, .int (nI c)), (2, .int (nI k0)), (1, .int (nI t0)), (0, .ref (G.1 + 88))] dX9_quarrels_155 (by decide) rfl ?_
                              refine aw_iinc (j := 2) (nI (j + 1)) [(8, .int (nI (j + 1))), (7, .int 0), (6, .int 1), (5, .int (nI i)), (4, .int (nI c)), (2, .int (nI k0)), (1, .int (nI t0)), (0, .ref (G.1 + 88))] dX9_quarrels_157 rfl (nv_inc (rfl)) (by decide) rfl ?_
                              refine aw_goto 69 dX9_quarrels_160 (by decide) ?_
                              refine aw_lv [(8, .int (nI (j + 1))), (7, .int 0), (6, .int 1), (5, .int (nI i)), (4, .int (nI c)), (2, .int (nI k0)), (1, .int (nI t0)), (0, .ref (G.1 + 88))] [0, 1, 2, 3, 4, 5, 6, 7] rfl ?_
                              exact ih2774 (j + 1) 0 1 (by omega) (by omega) (dq_0 t130 d147) (fq_1 t111 d118)
                            · have d147 := mt (nv_eq (a := ot j) (b := ot i) (rfl) (rfl) (by omega) (by omega)).mpr c147
                              refine aw_iconst (1) dX9_quarrels_150 (by decide) ?_
                              refine aw_goto 155 dX9_quarrels_151 (by decide) ?_
                              refine aw_istore [(7, .int 1), (6, .int 1), (8, .int (nI j)), (5, .int (nI i)), (4, .int (nI c)), (2, .int (nI k0)), (1, .int (nI t0)), (0, .ref (G.1 + 88))] dX9_quarrels_155 (by decide) rfl ?_
                              refine aw_iinc (j := 2) (nI (j + 1)) [(8, .int (nI (j + 1))), (7, .int 1), (6, .int 1), (5, .int (nI i)), (4, .int (nI c)), (2, .int (nI k0)), (1, .int (nI t0)), (0, .ref (G.1 + 88))] dX9_quarrels_157 rfl (nv_inc (rfl)) (by decide) rfl ?_
                              refine aw_goto 69 dX9_quarrels_160 (by decide) ?_
                              refine aw_lv [(8, .int (nI (j + 1))), (7, .int 1), (6, .int 1), (5, .int (nI i)), (4, .int (nI c)), (2, .int (nI k0)), (1, .int (nI t0)), (0, .ref (G.1 + 88))] [0, 1, 2, 3, 4, 5, 6, 7] rfl ?_
                              exact ih2774 (j + 1) 1 1 (by omega) (by omega) (dq_1 (Or.inr ⟨t86, d103, d147⟩)) (fq_1 t111 d118)
                    · have d103 := mt (nv_eq (a := dy j) (b := dy i) (rfl) (rfl) (by omega) (by omega)).mpr c103
                      refine aw_goto 157 dX9_quarrels_106 (by decide) ?_
                      refine aw_iinc (j := 0) (nI (j + 1)) [(8, .int (nI (j + 1))), (7, .int (if (dqF th ot dy kn go t0 k0 i j = true) then 1 else 0)), (6, .int (if (fqF th dy kn go t0 k0 i j = true) then 1 else 0)), (5, .int (nI i)), (4, .int (nI c)), (2, .int (nI k0)), (1, .int (nI t0)), (0, .ref (G.1 + 88))] dX9_quarrels_157 rfl (nv_inc (rfl)) (by decide) rfl ?_
                      refine aw_goto 69 dX9_quarrels_160 (by decide) ?_
                      refine aw_lv [(8, .int (nI (j + 1))), (7, .int (if (dqF th ot dy kn go t0 k0 i j = true) then 1 else 0)), (6, .int (if (fqF th dy kn go t0 k0 i j = true) then 1 else 0)), (5, .int (nI i)), (4, .int (nI c)), (2, .int (nI k0)), (1, .int (nI t0)), (0, .ref (G.1 + 88))] [0, 1, 2, 3, 4, 5, 6, 7] rfl ?_
                      exact ih2774 (j + 1) (if (dqF th ot dy kn go t0 k0 i j = true) then 1 else 0) (if (fqF th dy kn go t0 k0 i j = true) then 1 else 0) (by omega) (by omega) (by rw [dq_k (fun c => d103 c.2)]) (by rw [fq_k (fun c => d103 c.2)])
          · have t54 := ite_0 c54
            refine aw_goto 183 dX9_quarrels_57 (by decide) ?_
            refine aw_iinc (j := 0) (nI (i + 1)) [(5, .int (nI (i + 1))), (4, .int (nI c)), (2, .int (nI k0)), (1, .int (nI t0)), (0, .ref (G.1 + 88))] dX9_quarrels_183 rfl (nv_inc (rfl)) (by decide) rfl ?_
            refine aw_goto 37 dX9_quarrels_186 (by decide) ?_
            refine aw_lv [(5, .int (nI (i + 1))), (4, .int (nI c)), (2, .int (nI k0)), (1, .int (nI t0)), (0, .ref (G.1 + 88))] [0, 1, 2, 3, 4] rfl ?_
            exact ih2773 (i + 1) c (by omega) (by omega) (hc.trans (qn_n t54).symm)
    · have d22 := mt (j_eq (a := (wrF k 0 80000).toInt) (b := (0)) (rfl) (rfl)).mpr c22
      refine aw_aload_n 1 dX9_quarrels_25 rfl rfl ?_
      refine aw_iload_n 0 dX9_quarrels_26 rfl rfl ?_
      obtain ⟨q2783, bq2783, eq2783⟩ := Or.resolve_left (wrF_q k 0 80000) (by assumption)
      refine aw_eV [.int (wrF k 0 80000)] [] lX9_130 vX9_refuse mX9_refuse dX9_quarrels_27 (bX9_refuse (sp := sp) (fa := fa) (nb := nb) (ns := ns) (nm := nm) (nv := nv) (sh := sh) (ho := ho) (ow := ow) (sl := sl) (rg := rg) (x := (wrF k 0 80000)) (q := q2783) h88 h89 bq2783 eq2783) h88 rfl rfl rfl (Nat.le_of_ble_eq_true rfl) (by decide) (by decide) rfl (fun h2786 q2785 => ?_)
      obtain ⟨rg12784, f2787, k2788⟩ := q2785
      have f2789 := rng_at k2788 (by decide) h88
      have f2790 := rng_at k2788 (by decide) h103
      have f2791 := rng_at k2788 (by decide) h104
      have f2792 := rng_at k2788 (by decide) h105
      have f2793 := rng_at k2788 (by decide) h106
      have f2794 := rng_at k2788 (by decide) h107
      subst hQF
      exact aw_iret rfl dX9_quarrels_30 (by decide) (by decide) ⟨by rw [if_pos (by omega), if_neg (by rw [← wr_dy]; exact c22), wr_dy], _, f2787, rng_tr (rng_rf 89 89 h) (rng_w k2788 (by decide) (by decide))⟩
set_option maxHeartbeats 4000000 in
theorem bX9_goes {l : Launch} {G : xG} {h : List va_E} {sp fa nb ns nm nv sh : Nat} {ho ow sl : Int32} {th ot dy kn go : Nat → Nat} {so ln : Nat → Nat} {lt : Nat → Int32} {t d k : Nat} (h88 : h[88]? = some (oB 9 (lM G (nI sp) (nI fa) (nI nb) (nI ns) (nI nm) ho ow sl (nI nv) (nI sh)))) (h108 : h[108]? = some (aI 60 (nA th))) (h109 : h[109]? = some (aI 60 (nA ot))) (h110 : h[110]? = some (aI 60 (nA dy))) (h111 : h[111]? = some (aI 60 (nA so))) (h112 : h[112]? = some (aI 60 (nA kn))) (h113 : h[113]? = some (aI 60 (nA (gM go)))) (h114 : h[114]? = some (aI 60 (nA ln))) (h115 : h[115]? = some (aI 60 lt)) (bth : ∀ j, j < 60 → th j < 12) (bkn : ∀ j, j < 60 → kn j ≤ 80000) (bgo : ∀ j, j < 60 → go j ≤ 80001) (bdy : ∀ j, j < 60 → dy j ≤ 80000) (hln : ∀ j, j < 60 → ln j < 60) (hn : nm ≤ 60) (bso : ∀ j, j < 60 → so j < 5) (bt : t < 12) (bd : d ≤ 80000) (bk : k ≤ 80000) : CE l G yX9_goes cX9_goes 9 none 1 0 0 [.ref (G.1 + 88), .int (nI t), .int (nI d), .int (nI k)] h none (fun h1 => ∃ ho1 : Int32, ∃ ow1 : Int32, ∃ sl1 : Int32, ∃ ln1 : Nat → Nat, ∃ lt1 : Nat → Int32, h1[88]? = some (oB 9 (lM G (nI sp) (nI fa) (nI nb) (nI ns) (nI nm) ho1 ow1 sl1 (nI nv) (nI sh))) ∧ h1[114]? = some (aI 60 (nA ln1)) ∧ h1[115]? = some (aI 60 lt1) ∧ rg2 88 88 114 115 h h1 ∧ (∀ j, j < 60 → ln1 j < 60) ∧ (ho1 = (gVS th ot dy so kn go t d k nm).2.1 ∧ ow1 = (gVS th ot dy so kn go t d k nm).2.2.1 ∧ sl1 = (gVS th ot dy so kn go t d k nm).2.2.2)) := by
  refine cm_ofQ rfl (Nat.le_of_ble_eq_true rfl) [(0, .ref (G.1 + 88)), (1, .int (nI t)), (2, .int (nI d)), (3, .int (nI k))] rfl (fun QF hQF => ?_)
  refine aw_iconst (0) dX9_goes_0 (by decide) ?_
  refine aw_istore [(4, .int 0), (0, .ref (G.1 + 88)), (1, .int (nI t)), (2, .int (nI d)), (3, .int (nI k))] dX9_goes_1 (by decide) rfl ?_
  refine aw_iconst (0) dX9_goes_3 (by decide) ?_
  refine aw_istore [(5, .int 0), (4, .int 0), (0, .ref (G.1 + 88)), (1, .int (nI t)), (2, .int (nI d)), (3, .int (nI k))] dX9_goes_4 (by decide) rfl ?_
  refine aw_lv [(5, .int 0), (4, .int 0), (3, .int (nI k)), (2, .int (nI d)), (1, .int (nI t)), (0, .ref (G.1 + 88))] [0, 1, 5, 4, 3, 2] rfl ?_
  suffices L2806 : ∀ (mm : Nat) (i : Nat) (c : Nat) (ln1 : Nat → Nat) (h2795 : List va_E), nm - i < mm → (i ≤ nm) → (c ≤ i) → (∀ j, j < 60 → ln1 j < 60) → (LN th dy kn go t d k i c ln1) → h2795[88]? = some (oB 9 (lM G (nI sp) (nI fa) (nI nb) (nI ns) (nI nm) ho ow sl (nI nv) (nI sh))) → h2795[108]? = some (aI 60 (nA th)) → h2795[109]? = some (aI 60 (nA ot)) → h2795[110]? = some (aI 60 (nA dy)) → h2795[111]? = some (aI 60 (nA so)) → h2795[112]? = some (aI 60 (nA kn)) → h2795[113]? = some (aI 60 (nA (gM go))) → h2795[114]? = some (aI 60 (nA ln1)) → h2795[115]? = some (aI 60 lt) → rg2 88 88 114 115 h h2795 → AW l G yX9_goes cX9_goes 9 none (xR 1 0 0) (fun _ _ => True) QF 0 0 6 [(5, .int (nI i)), (4, .int (nI c)), (3, .int (nI k)), (2, .int (nI d)), (1, .int (nI t)), (0, .ref (G.1 + 88))] [] h2795 from L2806 (nm - 0 + 1) 0 0 ln _ (Nat.lt_succ_self _) (Nat.zero_le _) (Nat.zero_le _) (hln) (LN_0) h88 h108 h109 h110 h111 h112 h113 h114 h115 (rg2_rf 88 88 114 115 h)
  intro mm
  induction mm with
  | zero =>
    intro i c ln1 h2795 hmm hi hc hl1 hL f2796 f2797 f2798 f2799 f2800 f2801 f2802 f2803 f2804 k2805
    exact absurd hmm (Nat.not_lt_zero _)
  | succ mm ih2806 =>
    intro i c ln1 h2795 hmm hi hc hl1 hL f2796 f2797 f2798 f2799 f2800 f2801 f2802 f2803 f2804 k2805
    refine aw_iload 0 dX9_goes_6 rfl ?_
    refine aw_aload_n 5 dX9_goes_8 rfl rfl ?_
    refine aw_get fX9_202 dX9_goes_9 f2796 rfl ?_
    refine aw_icmp_ge 113 dX9_goes_12 (by decide) (fun c12 => ?_) (fun c12 => ?_)
    · have d12 := (nv_le (a := nm) (b := i) (rfl) (rfl) (by omega) (by omega)).mp c12
      refine aw_aload_n 5 dX9_goes_113 rfl rfl ?_
      refine aw_bipush (-9) dX9_goes_114 (by decide) ?_
      refine aw_putQ fX9_211 dX9_goes_116 (lM G (nI sp) (nI fa) (nI nb) (nI ns) (nI nm) (-9) ow sl (nI nv) (nI sh)) f2796 rfl rfl rfl (Nat.le_of_ble_eq_true rfl) rfl ?_
      refine aw_aload_n 5 dX9_goes_119 rfl rfl ?_
      refine aw_bipush (-9) dX9_goes_120 (by decide) ?_
      refine aw_putQ fX9_214 dX9_goes_122 (lM G (nI sp) (nI fa) (nI nb) (nI ns) (nI nm) (-9) (-9) sl (nI nv) (nI sh)) (gs f2796) rfl rfl rfl (Nat.le_of_ble_eq_true rfl) rfl ?_
      refine aw_aload_n 5 dX9_goes_125 rfl rfl ?_
      refine aw_iconst (0) dX9_goes_126 (by decide) ?_
      refine aw_putQ fX9_217 dX9_goes_127 (lM G (nI sp) (nI fa) (nI nb) (nI ns) (nI nm) (-9) (-9) 0 (nI nv) (nI sh)) (gs (gs f2796)) rfl rfl rfl (Nat.le_of_ble_eq_true rfl) rfl ?_
      refine aw_iconst (0) dX9_goes_130 (by decide) ?_
      refine aw_istore [(5, .int 0), (4, .int (nI c)), (3, .int (nI k)), (2, .int (nI d)), (1, .int (nI t)), (0, .ref (G.1 + 88))] dX9_goes_131 (by decide) rfl ?_
      refine aw_iconst (0) dX9_goes_133 (by decide) ?_
      refine aw_istore [(6, .int 0), (5, .int 0), (4, .int (nI c)), (3, .int (nI k)), (2, .int (nI d)), (1, .int (nI t)), (0, .ref (G.1 + 88))] dX9_goes_134 (by decide) rfl ?_
      refine aw_lv [(6, .int 0), (5, .int 0), (4, .int (nI c)), (3, .int (nI k)), (2, .int (nI d)), (1, .int (nI t)), (0, .ref (G.1 + 88))] [0, 1, 2, 3, 4, 5, 6] rfl ?_
      suffices L2818 : ∀ (mm : Nat) (z : Nat) (o : Nat) (ho1 : Int32) (ow1 : Int32) (sl1 : Int32) (lt1 : Nat → Int32) (h2807 : List va_E), c - z < mm → (z ≤ c) → (o ≤ z) → (st5 (fdI so ot ln1 z) o ho1 ow1 sl1 lt1) → h2807[88]? = some (oB 9 (lM G (nI sp) (nI fa) (nI nb) (nI ns) (nI nm) ho1 ow1 sl1 (nI nv) (nI sh))) → h2807[108]? = some (aI 60 (nA th)) → h2807[109]? = some (aI 60 (nA ot)) → h2807[110]? = some (aI 60 (nA dy)) → h2807[111]? = some (aI 60 (nA so)) → h2807[112]? = some (aI 60 (nA kn)) → h2807[113]? = some (aI 60 (nA (gM go))) → h2807[114]? = some (aI 60 (nA ln1)) → h2807[115]? = some (aI 60 lt1) → rg2 88 88 114 115 h h2807 → AW l G yX9_goes cX9_goes 9 none (xR 1 0 0) (fun _ _ => True) QF 0 0 136 [(6, .int (nI z)), (5, .int (nI o)), (4, .int (nI c)), (3, .int (nI k)), (2, .int (nI d)), (1, .int (nI t)), (0, .ref (G.1 + 88))] [] h2807 from L2818 (c - 0 + 1) 0 0 (-9) (-9) 0 lt _ (Nat.lt_succ_self _) (Nat.zero_le _) (Nat.le_refl _) (s5_0) (gs (gs (gs f2796))) (gn (by decide) (gn (by decide) (gn (by decide) (f2797)))) (gn (by decide) (gn (by decide) (gn (by decide) (f2798)))) (gn (by decide) (gn (by decide) (gn (by decide) (f2799)))) (gn (by decide) (gn (by decide) (gn (by decide) (f2800)))) (gn (by decide) (gn (by decide) (gn (by decide) (f2801)))) (gn (by decide) (gn (by decide) (gn (by decide) (f2802)))) (gn (by decide) (gn (by decide) (gn (by decide) (f2803)))) (gn (by decide) (gn (by decide) (gn (by decide) (f2804)))) (rg2_set (rg2_set (rg2_set (k2805) (by decide)) (by decide)) (by decide))
      intro mm
      induction mm with
      | zero =>
        intro z o ho1 ow1 sl1 lt1 h2807 hmm hz ho_ h5 f2808 f2809 f2810 f2811 f2812 f2813 f2814 f2815 f2816 k2817
        exact absurd hmm (Nat.not_lt_zero _)
      | succ mm ih2818 =>
        intro z o ho1 ow1 sl1 lt1 h2807 hmm hz ho_ h5 f2808 f2809 f2810 f2811 f2812 f2813 f2814 f2815 f2816 k2817
        refine aw_iload 0 dX9_goes_136 rfl ?_
        refine aw_iload 2 dX9_goes_138 rfl ?_
        refine aw_icmp_ge 278 dX9_goes_140 (by decide) (fun c140 => ?_) (fun c140 => ?_)
        · have d140 := (nv_le (a := c) (b := z) (rfl) (rfl) (by omega) (by omega)).mp c140
          subst hQF
          exact aw_vret rfl dX9_goes_278 (by decide) (by decide) ⟨rfl, _, _, _, _, _, f2808, f2815, f2816, k2817, hl1, gs_5 hL (by omega) h5 (by omega)⟩
        · have d140 := mt (nv_le (a := c) (b := z) (rfl) (rfl) (by omega) (by omega)).mpr c140
          refine aw_aload_n 6 dX9_goes_143 rfl rfl ?_
          refine aw_get fX9_83 dX9_goes_144 f2808 rfl ?_
          refine aw_aload_n 6 dX9_goes_147 rfl rfl ?_
          refine aw_get fX9_92 dX9_goes_148 f2808 rfl ?_
          refine aw_iload 0 dX9_goes_151 rfl ?_
          refine aw_iald z (rfl) (by omega) (by decide) dX9_goes_153 f2815 ?_
          refine aw_toe (nI (ln1 z)) (rfl) ?_
          have b2819 := hl1 z (by omega)
          refine aw_iald (ln1 z) (rfl) (by omega) (by decide) dX9_goes_154 f2812 ?_
          refine aw_toe (nI (so (ln1 z))) (rfl) ?_
          have b2820 := bso (ln1 z) (by omega)
          refine aw_istore [(7, .int (nI (so (ln1 z)))), (6, .int (nI z)), (5, .int (nI o)), (4, .int (nI c)), (3, .int (nI k)), (2, .int (nI d)), (1, .int (nI t)), (0, .ref (G.1 + 88))] dX9_goes_155 (by decide) rfl ?_
          refine aw_aload_n 7 dX9_goes_157 rfl rfl ?_
          refine aw_get fX9_77 dX9_goes_158 f2808 rfl ?_
          refine aw_aload_n 7 dX9_goes_161 rfl rfl ?_
          refine aw_get fX9_92 dX9_goes_162 f2808 rfl ?_
          refine aw_iload 1 dX9_goes_165 rfl ?_
          refine aw_iald z (rfl) (by omega) (by decide) dX9_goes_167 f2815 ?_
          refine aw_toe (nI (ln1 z)) (rfl) ?_
          have b2821 := hl1 z (by omega)
          refine aw_iald (ln1 z) (rfl) (by omega) (by decide) dX9_goes_168 f2810 ?_
          refine aw_toe (nI (ot (ln1 z))) (rfl) ?_
          refine aw_istore [(8, .int (nI (ot (ln1 z)))), (7, .int (nI (so (ln1 z)))), (6, .int (nI z)), (5, .int (nI o)), (4, .int (nI c)), (3, .int (nI k)), (2, .int (nI d)), (1, .int (nI t)), (0, .ref (G.1 + 88))] dX9_goes_169 (by decide) rfl ?_
          refine aw_iload 1 dX9_goes_171 rfl ?_
          refine aw_iconst (3) dX9_goes_173 (by decide) ?_
          refine aw_icmp_ne 200 dX9_goes_174 (by decide) (fun c174 => ?_) (fun c174 => ?_)
          · have d174 := mt (nv_eq (a := so (ln1 z)) (b := 3) (rfl) (rfl) (by omega) (by omega)).mpr c174
            refine aw_iload 1 dX9_goes_200 rfl ?_
            refine aw_iconst (4) dX9_goes_202 (by decide) ?_
            refine aw_icmp_ne 231 dX9_goes_203 (by decide) (fun c203 => ?_) (fun c203 => ?_)
            · have d203 := mt (nv_eq (a := so (ln1 z)) (b := 4) (rfl) (rfl) (by omega) (by omega)).mpr c203
              refine aw_aload_n 8 dX9_goes_231 rfl rfl ?_
              refine aw_iload 0 dX9_goes_232 rfl ?_
              refine aw_putQ fX9_211 dX9_goes_234 (lM G (nI sp) (nI fa) (nI nb) (nI ns) (nI nm) (nI (ot (ln1 z))) ow1 sl1 (nI nv) (nI sh)) f2808 rfl rfl rfl (Nat.le_of_ble_eq_true rfl) rfl ?_
              refine aw_iconst (0) dX9_goes_237 (by decide) ?_
              refine aw_istore [(5, .int 0), (8, .int (nI (ot (ln1 z)))), (7, .int (nI (so (ln1 z)))), (6, .int (nI z)), (4, .int (nI c)), (3, .int (nI k)), (2, .int (nI d)), (1, .int (nI t)), (0, .ref (G.1 + 88))] dX9_goes_238 (by decide) rfl ?_
              refine aw_aload_n 8 dX9_goes_240 rfl rfl ?_
              refine aw_iload 2 dX9_goes_241 rfl ?_
              refine aw_iconst (2) dX9_goes_243 (by decide) ?_
              refine aw_icmp_ne 252 dX9_goes_244 (by decide) (fun c244 => ?_) (fun c244 => ?_)
              · have d244 := mt (nv_eq (a := so (ln1 z)) (b := 2) (rfl) (rfl) (by omega) (by omega)).mpr c244
                refine aw_iload 1 dX9_goes_252 rfl ?_
                refine aw_putQ fX9_214 dX9_goes_254 (lM G (nI sp) (nI fa) (nI nb) (nI ns) (nI nm) (nI (ot (ln1 z))) (nI (ot (ln1 z))) sl1 (nI nv) (nI sh)) (gs f2808) rfl rfl rfl (Nat.le_of_ble_eq_true rfl) rfl ?_
                refine aw_aload_n 8 dX9_goes_257 rfl rfl ?_
                refine aw_iload 2 dX9_goes_258 rfl ?_
                refine aw_iconst (2) dX9_goes_260 (by decide) ?_
                refine aw_icmp_ne 268 dX9_goes_261 (by decide) (fun c261 => ?_) (fun c261 => absurd c261 (c244))
                refine aw_iconst (0) dX9_goes_268 (by decide) ?_
                refine aw_putQ fX9_217 dX9_goes_269 (lM G (nI sp) (nI fa) (nI nb) (nI ns) (nI nm) (nI (ot (ln1 z))) (nI (ot (ln1 z))) 0 (nI nv) (nI sh)) (gs (gs f2808)) rfl rfl rfl (Nat.le_of_ble_eq_true rfl) rfl ?_
                refine aw_iinc (j := 3) (nI (z + 1)) [(6, .int (nI (z + 1))), (5, .int 0), (8, .int (nI (ot (ln1 z)))), (7, .int (nI (so (ln1 z)))), (4, .int (nI c)), (3, .int (nI k)), (2, .int (nI d)), (1, .int (nI t)), (0, .ref (G.1 + 88))] dX9_goes_272 rfl (nv_inc (rfl)) (by decide) rfl ?_
                refine aw_goto 136 dX9_goes_275 (by decide) ?_
                refine aw_lv [(6, .int (nI (z + 1))), (5, .int 0), (4, .int (nI c)), (3, .int (nI k)), (2, .int (nI d)), (1, .int (nI t)), (0, .ref (G.1 + 88))] [0, 1, 4, 5, 6, 7, 8] rfl ?_
                exact ih2818 (z + 1) 0 (nI (ot (ln1 z))) (nI (ot (ln1 z))) 0 lt1 _ (by omega) (by omega) (by omega) (s5_1 h5 d174 d203 d244) (gs (gs (gs f2808))) (gn (by decide) (gn (by decide) (gn (by decide) (f2809)))) (gn (by decide) (gn (by decide) (gn (by decide) (f2810)))) (gn (by decide) (gn (by decide) (gn (by decide) (f2811)))) (gn (by decide) (gn (by decide) (gn (by decide) (f2812)))) (gn (by decide) (gn (by decide) (gn (by decide) (f2813)))) (gn (by decide) (gn (by decide) (gn (by decide) (f2814)))) (gn (by decide) (gn (by decide) (gn (by decide) (f2815)))) (gn (by decide) (gn (by decide) (gn (by decide) (f2816)))) (rg2_set (rg2_set (rg2_set (k2817) (by decide)) (by decide)) (by decide))
              · have d244 := (nv_eq (a := so (ln1 z)) (b := 2) (rfl) (rfl) (by omega) (by omega)).mp c244
                refine aw_bipush (-9) dX9_goes_247 (by decide) ?_
                refine aw_goto 254 dX9_goes_249 (by decide) ?_
                refine aw_putQ fX9_214 dX9_goes_254 (lM G (nI sp) (nI fa) (nI nb) (nI ns) (nI nm) (nI (ot (ln1 z))) (-9) sl1 (nI nv) (nI sh)) (gs f2808) rfl rfl rfl (Nat.le_of_ble_eq_true rfl) rfl ?_
                refine aw_aload_n 8 dX9_goes_257 rfl rfl ?_
                refine aw_iload 2 dX9_goes_258 rfl ?_
                refine aw_iconst (2) dX9_goes_260 (by decide) ?_
                refine aw_icmp_ne 268 dX9_goes_261 (by decide) (fun c261 => absurd (c244) c261) (fun c261 => ?_)
                refine aw_iconst (1) dX9_goes_264 (by decide) ?_
                refine aw_goto 269 dX9_goes_265 (by decide) ?_
                refine aw_putQ fX9_217 dX9_goes_269 (lM G (nI sp) (nI fa) (nI nb) (nI ns) (nI nm) (nI (ot (ln1 z))) (-9) 1 (nI nv) (nI sh)) (gs (gs f2808)) rfl rfl rfl (Nat.le_of_ble_eq_true rfl) rfl ?_
                refine aw_iinc (j := 3) (nI (z + 1)) [(6, .int (nI (z + 1))), (5, .int 0), (8, .int (nI (ot (ln1 z)))), (7, .int (nI (so (ln1 z)))), (4, .int (nI c)), (3, .int (nI k)), (2, .int (nI d)), (1, .int (nI t)), (0, .ref (G.1 + 88))] dX9_goes_272 rfl (nv_inc (rfl)) (by decide) rfl ?_
                refine aw_goto 136 dX9_goes_275 (by decide) ?_
                refine aw_lv [(6, .int (nI (z + 1))), (5, .int 0), (4, .int (nI c)), (3, .int (nI k)), (2, .int (nI d)), (1, .int (nI t)), (0, .ref (G.1 + 88))] [0, 1, 4, 5, 6, 7, 8] rfl ?_
                exact ih2818 (z + 1) 0 (nI (ot (ln1 z))) (-9) 1 lt1 _ (by omega) (by omega) (by omega) (s5_2 h5 d244) (gs (gs (gs f2808))) (gn (by decide) (gn (by decide) (gn (by decide) (f2809)))) (gn (by decide) (gn (by decide) (gn (by decide) (f2810)))) (gn (by decide) (gn (by decide) (gn (by decide) (f2811)))) (gn (by decide) (gn (by decide) (gn (by decide) (f2812)))) (gn (by decide) (gn (by decide) (gn (by decide) (f2813)))) (gn (by decide) (gn (by decide) (gn (by decide) (f2814)))) (gn (by decide) (gn (by decide) (gn (by decide) (f2815)))) (gn (by decide) (gn (by decide) (gn (by decide) (f2816)))) (rg2_set (rg2_set (rg2_set (k2817) (by decide)) (by decide)) (by decide))
            · have d203 := (nv_eq (a := so (ln1 z)) (b := 4) (rfl) (rfl) (by omega) (by omega)).mp c203
              refine aw_iload 3 dX9_goes_206 rfl ?_
              refine aw_if_ne 214 dX9_goes_208 (by decide) (fun c208 => ?_) (fun c208 => ?_)
              · have d208 := mt (nv_eq (a := o) (b := 0) (rfl) (rfl) (by omega) (by omega)).mpr c208
                refine aw_iinc (j := 3) (nI (o - 1)) [(5, .int (nI (o - 1))), (8, .int (nI (ot (ln1 z)))), (7, .int (nI (so (ln1 z)))), (6, .int (nI z)), (4, .int (nI c)), (3, .int (nI k)), (2, .int (nI d)), (1, .int (nI t)), (0, .ref (G.1 + 88))] dX9_goes_214 rfl (nv_dm (rfl) (by omega)) (by decide) rfl ?_
                refine aw_aload_n 8 dX9_goes_217 rfl rfl ?_
                refine aw_aload_n 8 dX9_goes_218 rfl rfl ?_
                refine aw_get fX9_95 dX9_goes_219 f2808 rfl ?_
                refine aw_iload 0 dX9_goes_222 rfl ?_
                refine aw_iald (o - 1) (rfl) (by omega) (by decide) dX9_goes_224 f2816 ?_
                refine aw_putQ fX9_211 dX9_goes_225 (lM G (nI sp) (nI fa) (nI nb) (nI ns) (nI nm) (lt1 (o - 1)) ow1 sl1 (nI nv) (nI sh)) f2808 rfl rfl rfl (Nat.le_of_ble_eq_true rfl) rfl ?_
                refine aw_goto 272 dX9_goes_228 (by decide) ?_
                refine aw_iinc (j := 3) (nI (z + 1)) [(6, .int (nI (z + 1))), (5, .int (nI (o - 1))), (8, .int (nI (ot (ln1 z)))), (7, .int (nI (so (ln1 z)))), (4, .int (nI c)), (3, .int (nI k)), (2, .int (nI d)), (1, .int (nI t)), (0, .ref (G.1 + 88))] dX9_goes_272 rfl (nv_inc (rfl)) (by decide) rfl ?_
                refine aw_goto 136 dX9_goes_275 (by decide) ?_
                refine aw_lv [(6, .int (nI (z + 1))), (5, .int (nI (o - 1))), (4, .int (nI c)), (3, .int (nI k)), (2, .int (nI d)), (1, .int (nI t)), (0, .ref (G.1 + 88))] [0, 1, 4, 5, 6, 7, 8] rfl ?_
                exact ih2818 (z + 1) (o - 1) (lt1 (o - 1)) ow1 sl1 lt1 _ (by omega) (by omega) (by omega) (s5_4 h5 d203 (by omega)) (gs f2808) (gn (by decide) (f2809)) (gn (by decide) (f2810)) (gn (by decide) (f2811)) (gn (by decide) (f2812)) (gn (by decide) (f2813)) (gn (by decide) (f2814)) (gn (by decide) (f2815)) (gn (by decide) (f2816)) (rg2_set (k2817) (by decide))
              · have d208 := (nv_eq (a := o) (b := 0) (rfl) (rfl) (by omega) (by omega)).mp c208
                refine aw_goto 272 dX9_goes_211 (by decide) ?_
                refine aw_iinc (j := 2) (nI (z + 1)) [(6, .int (nI (z + 1))), (8, .int (nI (ot (ln1 z)))), (7, .int (nI (so (ln1 z)))), (5, .int (nI o)), (4, .int (nI c)), (3, .int (nI k)), (2, .int (nI d)), (1, .int (nI t)), (0, .ref (G.1 + 88))] dX9_goes_272 rfl (nv_inc (rfl)) (by decide) rfl ?_
                refine aw_goto 136 dX9_goes_275 (by decide) ?_
                refine aw_lv [(6, .int (nI (z + 1))), (5, .int (nI o)), (4, .int (nI c)), (3, .int (nI k)), (2, .int (nI d)), (1, .int (nI t)), (0, .ref (G.1 + 88))] [0, 3, 4, 5, 6, 7, 8] rfl ?_
                exact ih2818 (z + 1) o ho1 ow1 sl1 lt1 _ (by omega) (by omega) (by omega) (s5_n h5 d203 (by omega)) f2808 f2809 f2810 f2811 f2812 f2813 f2814 f2815 f2816 (k2817)
          · have d174 := (nv_eq (a := so (ln1 z)) (b := 3) (rfl) (rfl) (by omega) (by omega)).mp c174
            refine aw_aload_n 8 dX9_goes_177 rfl rfl ?_
            refine aw_get fX9_95 dX9_goes_178 f2808 rfl ?_
            refine aw_iload 3 dX9_goes_181 rfl ?_
            refine aw_aload_n 8 dX9_goes_183 rfl rfl ?_
            refine aw_get fX9_211 dX9_goes_184 f2808 rfl ?_
            refine aw_iast o (rfl) (by omega) (by decide) dX9_goes_187 f2816 ?_
            refine aw_iinc (j := 3) (nI (o + 1)) [(5, .int (nI (o + 1))), (8, .int (nI (ot (ln1 z)))), (7, .int (nI (so (ln1 z)))), (6, .int (nI z)), (4, .int (nI c)), (3, .int (nI k)), (2, .int (nI d)), (1, .int (nI t)), (0, .ref (G.1 + 88))] dX9_goes_188 rfl (nv_inc (rfl)) (by decide) rfl ?_
            refine aw_aload_n 8 dX9_goes_191 rfl rfl ?_
            refine aw_iload 1 dX9_goes_192 rfl ?_
            refine aw_putQ fX9_211 dX9_goes_194 (lM G (nI sp) (nI fa) (nI nb) (nI ns) (nI nm) (nI (ot (ln1 z))) ow1 sl1 (nI nv) (nI sh)) (gn (by decide) (f2808)) rfl rfl rfl (Nat.le_of_ble_eq_true rfl) rfl ?_
            refine aw_goto 272 dX9_goes_197 (by decide) ?_
            refine aw_iinc (j := 3) (nI (z + 1)) [(6, .int (nI (z + 1))), (5, .int (nI (o + 1))), (8, .int (nI (ot (ln1 z)))), (7, .int (nI (so (ln1 z)))), (4, .int (nI c)), (3, .int (nI k)), (2, .int (nI d)), (1, .int (nI t)), (0, .ref (G.1 + 88))] dX9_goes_272 rfl (nv_inc (rfl)) (by decide) rfl ?_
            refine aw_goto 136 dX9_goes_275 (by decide) ?_
            refine aw_lv [(6, .int (nI (z + 1))), (5, .int (nI (o + 1))), (4, .int (nI c)), (3, .int (nI k)), (2, .int (nI d)), (1, .int (nI t)), (0, .ref (G.1 + 88))] [0, 1, 4, 5, 6, 7, 8] rfl ?_
            exact ih2818 (z + 1) (o + 1) (nI (ot (ln1 z))) ow1 sl1 (upd lt1 o ho1) _ (by omega) (by omega) (by omega) (s5_3 h5 d174) (gs (gn (by decide) (f2808))) (gn (by decide) (gn (by decide) (f2809))) (gn (by decide) (gn (by decide) (f2810))) (gn (by decide) (gn (by decide) (f2811))) (gn (by decide) (gn (by decide) (f2812))) (gn (by decide) (gn (by decide) (f2813))) (gn (by decide) (gn (by decide) (f2814))) (gn (by decide) (gn (by decide) (f2815))) (gn (by decide) (gs f2816)) (rg2_set (rg2_set (k2817) (by decide)) (by decide))
    · have d12 := mt (nv_le (a := nm) (b := i) (rfl) (rfl) (by omega) (by omega)).mpr c12
      refine aw_aload_n 5 dX9_goes_15 rfl rfl ?_
      refine aw_iload 0 dX9_goes_16 rfl ?_
      refine aw_iload_n 4 dX9_goes_18 rfl rfl ?_
      refine aw_iload_n 2 dX9_goes_19 rfl rfl ?_
      refine aw_dV [.int (nI i), .int (nI t), .int (nI k)] [] lX9_208 vX9_isMove mX9_isMove dX9_goes_20 (bX9_isMove (sp := sp) (fa := fa) (nb := nb) (ns := ns) (nm := nm) (nv := nv) (sh := sh) (ho := ho) (ow := ow) (sl := sl) (th := th) (kn := kn) (q := i) (t := t) (k := k) f2796 f2797 f2801 f2802 bth bkn bgo (by omega) (by omega) (by omega)) f2796 rfl rfl rfl (Nat.le_of_ble_eq_true rfl) (by decide) (by decide) rfl ?_
      refine aw_if_eq 107 dX9_goes_23 (by decide) (fun c23 => ?_) (fun c23 => ?_)
      · have t23 := ite_0 c23
        refine aw_iinc (j := 0) (nI (i + 1)) [(5, .int (nI (i + 1))), (4, .int (nI c)), (3, .int (nI k)), (2, .int (nI d)), (1, .int (nI t)), (0, .ref (G.1 + 88))] dX9_goes_107 rfl (nv_inc (rfl)) (by decide) rfl ?_
        refine aw_goto 6 dX9_goes_110 (by decide) ?_
        refine aw_lv [(5, .int (nI (i + 1))), (4, .int (nI c)), (3, .int (nI k)), (2, .int (nI d)), (1, .int (nI t)), (0, .ref (G.1 + 88))] [0, 1, 2, 3, 4, 5] rfl ?_
        exact ih2806 (i + 1) c ln1 _ (by omega) (by omega) (by omega) (hl1) (LN_n hL (fun q => t23 q.2)) f2796 f2797 f2798 f2799 f2800 f2801 f2802 f2803 f2804 (k2805)
      · have t23 := ite_1 c23
        refine aw_aload_n 5 dX9_goes_26 rfl rfl ?_
        refine aw_get fX9_80 dX9_goes_27 f2796 rfl ?_
        refine aw_iload 0 dX9_goes_30 rfl ?_
        refine aw_iald i (rfl) (by omega) (by decide) dX9_goes_32 f2799 ?_
        refine aw_toe (nI (dy i)) (rfl) ?_
        have b2822 := bdy i (by omega)
        refine aw_iload_n 3 dX9_goes_33 rfl rfl ?_
        refine aw_icmp_le 40 dX9_goes_34 (by decide) (fun c34 => ?_) (fun c34 => ?_)
        · have d34 := (nv_le (a := dy i) (b := d) (rfl) (rfl) (by omega) (by omega)).mp c34
          refine aw_iload 1 dX9_goes_40 rfl ?_
          refine aw_istore [(6, .int (nI c)), (5, .int (nI i)), (4, .int (nI c)), (3, .int (nI k)), (2, .int (nI d)), (1, .int (nI t)), (0, .ref (G.1 + 88))] dX9_goes_42 (by decide) rfl ?_
          refine aw_lv [(6, .int (nI c)), (5, .int (nI i)), (4, .int (nI c)), (3, .int (nI k)), (2, .int (nI d)), (1, .int (nI t)), (0, .ref (G.1 + 88))] [0, 1, 2, 3, 4, 5, 6] rfl ?_
          suffices L2834 : ∀ (mm : Nat) (z : Nat) (ln2 : Nat → Nat) (h2823 : List va_E), z < mm → (z ≤ c) → (∀ j, j < 60 → ln2 j < 60) → (∀ x, x < z → ln2 x = ln1 x) → (∀ x, z < x → x ≤ c → ln2 x = ln1 (x - 1)) → (∀ x, z ≤ x → x < c → dy i < dy (ln1 x)) → h2823[88]? = some (oB 9 (lM G (nI sp) (nI fa) (nI nb) (nI ns) (nI nm) ho ow sl (nI nv) (nI sh))) → h2823[108]? = some (aI 60 (nA th)) → h2823[109]? = some (aI 60 (nA ot)) → h2823[110]? = some (aI 60 (nA dy)) → h2823[111]? = some (aI 60 (nA so)) → h2823[112]? = some (aI 60 (nA kn)) → h2823[113]? = some (aI 60 (nA (gM go))) → h2823[114]? = some (aI 60 (nA ln2)) → h2823[115]? = some (aI 60 lt) → rg2 88 88 114 115 h h2823 → AW l G yX9_goes cX9_goes 9 none (xR 1 0 0) (fun _ _ => True) QF 0 0 44 [(6, .int (nI z)), (5, .int (nI i)), (4, .int (nI c)), (3, .int (nI k)), (2, .int (nI d)), (1, .int (nI t)), (0, .ref (G.1 + 88))] [] h2823 from L2834 (c + 1) c ln1 _ (Nat.lt_succ_self _) (Nat.le_refl _) (hl1) (fun _ _ => rfl) (fun x h8 h9 => absurd h8 (by omega)) (fun x h8 h9 => absurd h8 (by omega)) f2796 f2797 f2798 f2799 f2800 f2801 f2802 f2803 f2804 (k2805)
          intro mm
          induction mm with
          | zero =>
            intro z ln2 h2823 hmm hz hl2 hza hzb hzc f2824 f2825 f2826 f2827 f2828 f2829 f2830 f2831 f2832 k2833
            exact absurd hmm (Nat.not_lt_zero _)
          | succ mm ih2834 =>
            intro z ln2 h2823 hmm hz hl2 hza hzb hzc f2824 f2825 f2826 f2827 f2828 f2829 f2830 f2831 f2832 k2833
            refine aw_iload 0 dX9_goes_44 rfl ?_
            refine aw_if_le 95 dX9_goes_46 (by decide) (fun c46 => ?_) (fun c46 => ?_)
            · have d46 := (nv_le (a := z) (b := 0) (rfl) (rfl) (by omega) (by omega)).mp c46
              refine aw_aload_n 6 dX9_goes_95 rfl rfl ?_
              refine aw_get fX9_92 dX9_goes_96 f2824 rfl ?_
              refine aw_iload 0 dX9_goes_99 rfl ?_
              refine aw_iload 1 dX9_goes_101 rfl ?_
              refine aw_iast z (rfl) (by omega) (by decide) dX9_goes_103 f2831 ?_
              rw [nA_u (f := ln2) (i := z) (x := (nI i)) (v := i) (rfl)]
              refine aw_iinc (j := 2) (nI (c + 1)) [(4, .int (nI (c + 1))), (6, .int (nI z)), (5, .int (nI i)), (3, .int (nI k)), (2, .int (nI d)), (1, .int (nI t)), (0, .ref (G.1 + 88))] dX9_goes_104 rfl (nv_inc (rfl)) (by decide) rfl ?_
              refine aw_iinc (j := 2) (nI (i + 1)) [(5, .int (nI (i + 1))), (4, .int (nI (c + 1))), (6, .int (nI z)), (3, .int (nI k)), (2, .int (nI d)), (1, .int (nI t)), (0, .ref (G.1 + 88))] dX9_goes_107 rfl (nv_inc (rfl)) (by decide) rfl ?_
              refine aw_goto 6 dX9_goes_110 (by decide) ?_
              refine aw_lv [(5, .int (nI (i + 1))), (4, .int (nI (c + 1))), (3, .int (nI k)), (2, .int (nI d)), (1, .int (nI t)), (0, .ref (G.1 + 88))] [0, 1, 3, 4, 5, 6] rfl ?_
              exact ih2806 (i + 1) (c + 1) (un ln2 z i) _ (by omega) (by omega) (by omega) (un_lt hl2 (by omega)) (LN_i hL ⟨by omega, t23⟩ hz hza hzb hzc (Or.inl (by omega))) (gn (by decide) (f2824)) (gn (by decide) (f2825)) (gn (by decide) (f2826)) (gn (by decide) (f2827)) (gn (by decide) (f2828)) (gn (by decide) (f2829)) (gn (by decide) (f2830)) (gs f2831) (gn (by decide) (f2832)) (rg2_set (k2833) (by decide))
            · have d46 := mt (nv_le (a := z) (b := 0) (rfl) (rfl) (by omega) (by omega)).mpr c46
              refine aw_aload_n 6 dX9_goes_49 rfl rfl ?_
              refine aw_get fX9_80 dX9_goes_50 f2824 rfl ?_
              refine aw_aload_n 6 dX9_goes_53 rfl rfl ?_
              refine aw_get fX9_92 dX9_goes_54 f2824 rfl ?_
              refine aw_iload 0 dX9_goes_57 rfl ?_
              refine aw_iconst (1) dX9_goes_59 (by decide) ?_
              refine aw_isub dX9_goes_60 ?_
              refine aw_toe (nI (z - 1)) (nv_sub (rfl) (rfl) (by omega)) ?_
              refine aw_iald (z - 1) (rfl) (by omega) (by decide) dX9_goes_61 f2831 ?_
              refine aw_toe (nI (ln2 (z - 1))) (rfl) ?_
              have b2835 := hl2 (z - 1) (by omega)
              refine aw_iald (ln2 (z - 1)) (rfl) (by omega) (by decide) dX9_goes_62 f2827 ?_
              refine aw_toe (nI (dy (ln2 (z - 1)))) (rfl) ?_
              have b2836 := bdy (ln2 (z - 1)) (by omega)
              refine aw_aload_n 6 dX9_goes_63 rfl rfl ?_
              refine aw_get fX9_80 dX9_goes_64 f2824 rfl ?_
              refine aw_iload 1 dX9_goes_67 rfl ?_
              refine aw_iald i (rfl) (by omega) (by decide) dX9_goes_69 f2827 ?_
              refine aw_toe (nI (dy i)) (rfl) ?_
              have b2837 := bdy i (by omega)
              refine aw_icmp_le 95 dX9_goes_70 (by decide) (fun c70 => ?_) (fun c70 => ?_)
              · have d70 := (nv_le (a := dy (ln2 (z - 1))) (b := dy i) (rfl) (rfl) (by omega) (by omega)).mp c70
                refine aw_aload_n 6 dX9_goes_95 rfl rfl ?_
                refine aw_get fX9_92 dX9_goes_96 f2824 rfl ?_
                refine aw_iload 0 dX9_goes_99 rfl ?_
                refine aw_iload 1 dX9_goes_101 rfl ?_
                refine aw_iast z (rfl) (by omega) (by decide) dX9_goes_103 f2831 ?_
                rw [nA_u (f := ln2) (i := z) (x := (nI i)) (v := i) (rfl)]
                refine aw_iinc (j := 2) (nI (c + 1)) [(4, .int (nI (c + 1))), (6, .int (nI z)), (5, .int (nI i)), (3, .int (nI k)), (2, .int (nI d)), (1, .int (nI t)), (0, .ref (G.1 + 88))] dX9_goes_104 rfl (nv_inc (rfl)) (by decide) rfl ?_
                refine aw_iinc (j := 2) (nI (i + 1)) [(5, .int (nI (i + 1))), (4, .int (nI (c + 1))), (6, .int (nI z)), (3, .int (nI k)), (2, .int (nI d)), (1, .int (nI t)), (0, .ref (G.1 + 88))] dX9_goes_107 rfl (nv_inc (rfl)) (by decide) rfl ?_
                refine aw_goto 6 dX9_goes_110 (by decide) ?_
                refine aw_lv [(5, .int (nI (i + 1))), (4, .int (nI (c + 1))), (3, .int (nI k)), (2, .int (nI d)), (1, .int (nI t)), (0, .ref (G.1 + 88))] [0, 1, 3, 4, 5, 6] rfl ?_
                exact ih2806 (i + 1) (c + 1) (un ln2 z i) _ (by omega) (by omega) (by omega) (un_lt hl2 (by omega)) (LN_i hL ⟨by omega, t23⟩ hz hza hzb hzc (Or.inr (by omega))) (gn (by decide) (f2824)) (gn (by decide) (f2825)) (gn (by decide) (f2826)) (gn (by decide) (f2827)) (gn (by decide) (f2828)) (gn (by decide) (f2829)) (gn (by decide) (f2830)) (gs f2831) (gn (by decide) (f2832)) (rg2_set (k2833) (by decide))
              · have d70 := mt (nv_le (a := dy (ln2 (z - 1))) (b := dy i) (rfl) (rfl) (by omega) (by omega)).mpr c70
                refine aw_aload_n 6 dX9_goes_73 rfl rfl ?_
                refine aw_get fX9_92 dX9_goes_74 f2824 rfl ?_
                refine aw_iload 0 dX9_goes_77 rfl ?_
                refine aw_aload_n 6 dX9_goes_79 rfl rfl ?_
                refine aw_get fX9_92 dX9_goes_80 f2824 rfl ?_
                refine aw_iload 0 dX9_goes_83 rfl ?_
                refine aw_iconst (1) dX9_goes_85 (by decide) ?_
                refine aw_isub dX9_goes_86 ?_
                refine aw_toe (nI (z - 1)) (nv_sub (rfl) (rfl) (by omega)) ?_
                refine aw_iald (z - 1) (rfl) (by omega) (by decide) dX9_goes_87 f2831 ?_
                refine aw_toe (nI (ln2 (z - 1))) (rfl) ?_
                have b2838 := hl2 (z - 1) (by omega)
                refine aw_iast z (rfl) (by omega) (by decide) dX9_goes_88 f2831 ?_
                rw [nA_u (f := ln2) (i := z) (x := (nI (ln2 (z - 1)))) (v := ln2 (z - 1)) (rfl)]
                refine aw_iinc (j := 0) (nI (z - 1)) [(6, .int (nI (z - 1))), (5, .int (nI i)), (4, .int (nI c)), (3, .int (nI k)), (2, .int (nI d)), (1, .int (nI t)), (0, .ref (G.1 + 88))] dX9_goes_89 rfl (nv_dm (rfl) (by omega)) (by decide) rfl ?_
                refine aw_goto 44 dX9_goes_92 (by decide) ?_
                refine aw_lv [(6, .int (nI (z - 1))), (5, .int (nI i)), (4, .int (nI c)), (3, .int (nI k)), (2, .int (nI d)), (1, .int (nI t)), (0, .ref (G.1 + 88))] [0, 1, 2, 3, 4, 5, 6] rfl ?_
                exact ih2834 (z - 1) (un ln2 z (ln2 (z - 1))) _ (by omega) (by omega) (un_lt hl2 (by omega)) (ins_a hza) (ins_b (by omega) hza hzb) (ins_c (by omega) hza hzc (by omega)) (gn (by decide) (f2824)) (gn (by decide) (f2825)) (gn (by decide) (f2826)) (gn (by decide) (f2827)) (gn (by decide) (f2828)) (gn (by decide) (f2829)) (gn (by decide) (f2830)) (gs f2831) (gn (by decide) (f2832)) (rg2_set (k2833) (by decide))
        · have d34 := mt (nv_le (a := dy i) (b := d) (rfl) (rfl) (by omega) (by omega)).mpr c34
          refine aw_goto 107 dX9_goes_37 (by decide) ?_
          refine aw_iinc (j := 0) (nI (i + 1)) [(5, .int (nI (i + 1))), (4, .int (nI c)), (3, .int (nI k)), (2, .int (nI d)), (1, .int (nI t)), (0, .ref (G.1 + 88))] dX9_goes_107 rfl (nv_inc (rfl)) (by decide) rfl ?_
          refine aw_goto 6 dX9_goes_110 (by decide) ?_
          refine aw_lv [(5, .int (nI (i + 1))), (4, .int (nI c)), (3, .int (nI k)), (2, .int (nI d)), (1, .int (nI t)), (0, .ref (G.1 + 88))] [0, 1, 2, 3, 4, 5] rfl ?_
          exact ih2806 (i + 1) c ln1 _ (by omega) (by omega) (by omega) (hl1) (LN_n hL (fun q => absurd q.1 (by omega))) f2796 f2797 f2798 f2799 f2800 f2801 f2802 f2803 f2804 (k2805)
set_option maxHeartbeats 4000000 in
theorem oX9_holds {l : Launch} {G : xG} {h : List va_E} {sp fa nb ns nm nv sh : Nat} {ho ow sl : Int32} {rg : Nat → Int32} {th ot dy kn go : Nat → Nat} {so ln : Nat → Nat} {lt : Nat → Int32} {t d k v : Int32} (h88 : h[88]? = some (oB 9 (lM G (nI sp) (nI fa) (nI nb) (nI ns) (nI nm) ho ow sl (nI nv) (nI sh)))) (h89 : h[89]? = some (aI 7 rg)) (h108 : h[108]? = some (aI 60 (nA th))) (h109 : h[109]? = some (aI 60 (nA ot))) (h110 : h[110]? = some (aI 60 (nA dy))) (h111 : h[111]? = some (aI 60 (nA so))) (h112 : h[112]? = some (aI 60 (nA kn))) (h113 : h[113]? = some (aI 60 (nA (gM go)))) (h114 : h[114]? = some (aI 60 (nA ln))) (h115 : h[115]? = some (aI 60 lt)) (bth : ∀ j, j < 60 → th j < 12) (bkn : ∀ j, j < 60 → kn j ≤ 80000) (bgo : ∀ j, j < 60 → go j ≤ 80001) (bdy : ∀ j, j < 60 → dy j ≤ 80000) (hln : ∀ j, j < 60 → ln j < 60) (hn : nm ≤ 60) (bso : ∀ j, j < 60 → so j < 5) : CE l G yX9_holds cX9_holds 6 (some .int) 2 0 0 [.ref (G.1 + 88), .int t, .int d, .int k, .int v] h (some (.int (if (0 ≤ t.toInt ∧ t.toInt < 12) then (if v.toInt < 0 ∨ 2 < v.toInt then -2 else if dyF d k = 0 then (if v.toInt = 0 then (gVS th ot dy so kn go (tn t) (tn d) (tn k) nm).2.1 else if v.toInt = 1 then (gVS th ot dy so kn go (tn t) (tn d) (tn k) nm).2.2.1 else (gVS th ot dy so kn go (tn t) (tn d) (tn k) nm).2.2.2) else dyF d k) else -1))) (fun h1 => ∃ ho1 : Int32, ∃ ow1 : Int32, ∃ sl1 : Int32, ∃ ln1 : Nat → Nat, ∃ lt1 : Nat → Int32, ∃ rg1 : Nat → Int32, h1[88]? = some (oB 9 (lM G (nI sp) (nI fa) (nI nb) (nI ns) (nI nm) ho1 ow1 sl1 (nI nv) (nI sh))) ∧ h1[114]? = some (aI 60 (nA ln1)) ∧ h1[115]? = some (aI 60 lt1) ∧ h1[89]? = some (aI 7 rg1) ∧ rg2 88 89 114 115 h h1 ∧ (∀ j, j < 60 → ln1 j < 60)) := by
  refine cm_ofQ rfl (Nat.le_of_ble_eq_true rfl) [(0, .ref (G.1 + 88)), (1, .int t), (2, .int d), (3, .int k), (4, .int v)] rfl (fun QF hQF => ?_)
  refine aw_iload_n 1 dX9_holds_0 rfl rfl ?_
  refine aw_bipush (12) dX9_holds_1 (by decide) ?_
  refine aw_dS [.int t, .int 12] [] lX9_126 sX9_isIn mX9_isIn dX9_holds_3 (bX9_isIn (x := t) (n := 12) (by omega)) rfl (Nat.le_of_ble_eq_true rfl) (by decide) (by decide) rfl ?_
  refine aw_if_ne 13 dX9_holds_6 (by decide) (fun c6 => ?_) (fun c6 => ?_)
  · have t6 := ite_1 c6
    refine aw_iload 4 dX9_holds_13 rfl ?_
    refine aw_iconst (3) dX9_holds_15 (by decide) ?_
    refine aw_dS [.int v, .int 3] [] lX9_126 sX9_isIn mX9_isIn dX9_holds_16 (bX9_isIn (x := v) (n := 3) (by omega)) rfl (Nat.le_of_ble_eq_true rfl) (by decide) (by decide) rfl ?_
    refine aw_if_ne 27 dX9_holds_19 (by decide) (fun c19 => ?_) (fun c19 => ?_)
    · have t19 := ite_1 c19
      refine aw_iload_n 2 dX9_holds_27 rfl rfl ?_
      refine aw_iload_n 3 dX9_holds_28 rfl rfl ?_
      refine aw_dS [.int d, .int k] [] lX9_195 sX9_wrongDays mX9_wrongDays dX9_holds_29 (bX9_wrongDays (x := d) (k := k) ) rfl (Nat.le_of_ble_eq_true rfl) (by decide) (by decide) rfl ?_
      refine aw_istore [(5, .int (dyF d k)), (0, .ref (G.1 + 88)), (1, .int t), (2, .int d), (3, .int k), (4, .int v)] dX9_holds_32 (by decide) rfl ?_
      refine aw_iload 0 dX9_holds_34 rfl ?_
      refine aw_if_eq 46 dX9_holds_36 (by decide) (fun c36 => ?_) (fun c36 => ?_)
      · have d36 := (j_eq (a := (dyF d k).toInt) (b := (0)) (rfl) (rfl)).mp c36
        have hdd := dyF_0 c36
        obtain ⟨t0, bb_t0, ee_t0⟩ := i_nat (x := t) (N := 12) (by omega) (by omega)
        subst ee_t0
        have tt_t0 : (nI t0).toInt = (t0 : Int) := nI_toInt (by omega)
        have nn_t0 : tn (nI t0) = t0 := tn_nI (by omega)
        obtain ⟨d0, bb_d0, ee_d0⟩ := i_nat (x := d) (N := 80001) (by omega) (by omega)
        subst ee_d0
        have tt_d0 : (nI d0).toInt = (d0 : Int) := nI_toInt (by omega)
        have nn_d0 : tn (nI d0) = d0 := tn_nI (by omega)
        obtain ⟨k0, bb_k0, ee_k0⟩ := i_nat (x := k) (N := 80001) (by omega) (by omega)
        subst ee_k0
        have tt_k0 : (nI k0).toInt = (k0 : Int) := nI_toInt (by omega)
        have nn_k0 : tn (nI k0) = k0 := tn_nI (by omega)
        refine aw_aload_n 1 dX9_holds_46 rfl rfl ?_
        refine aw_iload_n 2 dX9_holds_47 rfl rfl ?_
        refine aw_iload_n 3 dX9_holds_48 rfl rfl ?_
        refine aw_iload_n 4 dX9_holds_49 rfl rfl ?_
        refine aw_eW [.int (nI t0), .int (nI d0), .int (nI k0)] [] lX9_220 vX9_goes mX9_goes dX9_holds_50 (bX9_goes (sp := sp) (fa := fa) (nb := nb) (ns := ns) (nm := nm) (nv := nv) (sh := sh) (ho := ho) (ow := ow) (sl := sl) (th := th) (ot := ot) (dy := dy) (kn := kn) (so := so) (ln := ln) (lt := lt) (t := t0) (d := d0) (k := k0) h88 h108 h109 h110 h111 h112 h113 h114 h115 bth bkn bgo bdy hln (by omega) bso (by omega) (by omega) (by omega)) h88 rfl rfl rfl (Nat.le_of_ble_eq_true rfl) (by decide) (by decide) rfl (fun h2845 q2844 => ?_)
        obtain ⟨ho12839, ow12840, sl12841, ln12842, lt12843, f2846, f2847, f2848, k2849, p2850, p2851⟩ := q2844
        have f2852 := rg2_at k2849 (by decide) h89
        have f2853 := rg2_at k2849 (by decide) h108
        have f2854 := rg2_at k2849 (by decide) h109
        have f2855 := rg2_at k2849 (by decide) h110
        have f2856 := rg2_at k2849 (by decide) h111
        have f2857 := rg2_at k2849 (by decide) h112
        have f2858 := rg2_at k2849 (by decide) h113
        refine aw_iload 5 dX9_holds_53 rfl ?_
        refine aw_if_ne 65 dX9_holds_55 (by decide) (fun c55 => ?_) (fun c55 => ?_)
        · have d55 := mt (j_eq (a := v.toInt) (b := (0)) (rfl) (rfl)).mpr c55
          refine aw_iload 5 dX9_holds_65 rfl ?_
          refine aw_iconst (1) dX9_holds_67 (by decide) ?_
          refine aw_icmp_ne 78 dX9_holds_68 (by decide) (fun c68 => ?_) (fun c68 => ?_)
          · have d68 := mt (j_eq (a := v.toInt) (b := (1)) (rfl) (rfl)).mpr c68
            refine aw_aload_n 1 dX9_holds_78 rfl rfl ?_
            refine aw_get fX9_217 dX9_holds_79 f2846 rfl ?_
            subst hQF
            exact aw_iret rfl dX9_holds_82 (by decide) (by decide) ⟨by rw [if_pos ⟨by omega, by omega⟩, if_neg (by omega), if_pos c36, if_neg (by omega), if_neg (by omega), nn_t0, nn_d0, nn_k0, p2851.2.2], _, _, _, _, _, _, f2846, f2847, f2848, f2852, rg2_tr (rg2_rf 88 89 114 115 h) (rg2_w2 k2849 (by decide) (by decide)), p2850⟩
          · have d68 := (j_eq (a := v.toInt) (b := (1)) (rfl) (rfl)).mp c68
            refine aw_aload_n 1 dX9_holds_71 rfl rfl ?_
            refine aw_get fX9_214 dX9_holds_72 f2846 rfl ?_
            refine aw_goto 82 dX9_holds_75 (by decide) ?_
            subst hQF
            exact aw_iret rfl dX9_holds_82 (by decide) (by decide) ⟨by rw [if_pos ⟨by omega, by omega⟩, if_neg (by omega), if_pos c36, if_neg (by omega), if_pos (by omega), nn_t0, nn_d0, nn_k0, p2851.2.1], _, _, _, _, _, _, f2846, f2847, f2848, f2852, rg2_tr (rg2_rf 88 89 114 115 h) (rg2_w2 k2849 (by decide) (by decide)), p2850⟩
        · have d55 := (j_eq (a := v.toInt) (b := (0)) (rfl) (rfl)).mp c55
          refine aw_aload_n 1 dX9_holds_58 rfl rfl ?_
          refine aw_get fX9_211 dX9_holds_59 f2846 rfl ?_
          refine aw_goto 82 dX9_holds_62 (by decide) ?_
          subst hQF
          exact aw_iret rfl dX9_holds_82 (by decide) (by decide) ⟨by rw [if_pos ⟨by omega, by omega⟩, if_neg (by omega), if_pos c36, if_pos (by omega), nn_t0, nn_d0, nn_k0, p2851.1], _, _, _, _, _, _, f2846, f2847, f2848, f2852, rg2_tr (rg2_rf 88 89 114 115 h) (rg2_w2 k2849 (by decide) (by decide)), p2850⟩
      · have d36 := mt (j_eq (a := (dyF d k).toInt) (b := (0)) (rfl) (rfl)).mpr c36
        refine aw_aload_n 1 dX9_holds_39 rfl rfl ?_
        refine aw_iload 0 dX9_holds_40 rfl ?_
        obtain ⟨q2859, bq2859, eq2859⟩ := Or.resolve_left (dyF_q d k) (by assumption)
        refine aw_eV [.int (dyF d k)] [] lX9_130 vX9_refuse mX9_refuse dX9_holds_42 (bX9_refuse (sp := sp) (fa := fa) (nb := nb) (ns := ns) (nm := nm) (nv := nv) (sh := sh) (ho := ho) (ow := ow) (sl := sl) (rg := rg) (x := (dyF d k)) (q := q2859) h88 h89 bq2859 eq2859) h88 rfl rfl rfl (Nat.le_of_ble_eq_true rfl) (by decide) (by decide) rfl (fun h2862 q2861 => ?_)
        obtain ⟨rg12860, f2863, k2864⟩ := q2861
        have f2865 := rng_at k2864 (by decide) h88
        have f2866 := rng_at k2864 (by decide) h108
        have f2867 := rng_at k2864 (by decide) h109
        have f2868 := rng_at k2864 (by decide) h110
        have f2869 := rng_at k2864 (by decide) h111
        have f2870 := rng_at k2864 (by decide) h112
        have f2871 := rng_at k2864 (by decide) h113
        have f2872 := rng_at k2864 (by decide) h114
        have f2873 := rng_at k2864 (by decide) h115
        subst hQF
        exact aw_iret rfl dX9_holds_45 (by decide) (by decide) ⟨by rw [if_pos (by omega), if_neg (by omega), if_neg c36], _, _, _, _, _, _, f2865, f2872, f2873, f2863, rg2_tr (rg2_rf 88 89 114 115 h) (rg2_w k2864 (by decide)), hln⟩
    · have t19 := ite_0 c19
      refine aw_bipush (-2) dX9_holds_22 (by decide) ?_
      refine aw_goto 32 dX9_holds_24 (by decide) ?_
      refine aw_istore [(5, .int (-2)), (0, .ref (G.1 + 88)), (1, .int t), (2, .int d), (3, .int k), (4, .int v)] dX9_holds_32 (by decide) rfl ?_
      refine aw_iload 0 dX9_holds_34 rfl ?_
      refine aw_if_eq 46 dX9_holds_36 (by decide) (fun c36 => absurd c36 (by decide)) (fun c36 => ?_)
      refine aw_aload_n 1 dX9_holds_39 rfl rfl ?_
      refine aw_iload 0 dX9_holds_40 rfl ?_
      refine aw_eV [.int (-2)] [] lX9_130 vX9_refuse mX9_refuse dX9_holds_42 (bX9_refuse (sp := sp) (fa := fa) (nb := nb) (ns := ns) (nm := nm) (nv := nv) (sh := sh) (ho := ho) (ow := ow) (sl := sl) (rg := rg) (x := (-2)) (q := 2) h88 h89 (by decide) (by decide)) h88 rfl rfl rfl (Nat.le_of_ble_eq_true rfl) (by decide) (by decide) rfl (fun h2876 q2875 => ?_)
      obtain ⟨rg12874, f2877, k2878⟩ := q2875
      have f2879 := rng_at k2878 (by decide) h88
      have f2880 := rng_at k2878 (by decide) h108
      have f2881 := rng_at k2878 (by decide) h109
      have f2882 := rng_at k2878 (by decide) h110
      have f2883 := rng_at k2878 (by decide) h111
      have f2884 := rng_at k2878 (by decide) h112
      have f2885 := rng_at k2878 (by decide) h113
      have f2886 := rng_at k2878 (by decide) h114
      have f2887 := rng_at k2878 (by decide) h115
      subst hQF
      exact aw_iret rfl dX9_holds_45 (by decide) (by decide) ⟨by rw [if_pos (by omega), if_pos (by omega)], _, _, _, _, _, _, f2879, f2886, f2887, f2877, rg2_tr (rg2_rf 88 89 114 115 h) (rg2_w k2878 (by decide)), hln⟩
  · have t6 := ite_0 c6
    refine aw_iconst (-1) dX9_holds_9 (by decide) ?_
    refine aw_goto 32 dX9_holds_10 (by decide) ?_
    refine aw_istore [(5, .int (-1)), (0, .ref (G.1 + 88)), (1, .int t), (2, .int d), (3, .int k), (4, .int v)] dX9_holds_32 (by decide) rfl ?_
    refine aw_iload 0 dX9_holds_34 rfl ?_
    refine aw_if_eq 46 dX9_holds_36 (by decide) (fun c36 => absurd c36 (by decide)) (fun c36 => ?_)
    refine aw_aload_n 1 dX9_holds_39 rfl rfl ?_
    refine aw_iload 0 dX9_holds_40 rfl ?_
    refine aw_eV [.int (-1)] [] lX9_130 vX9_refuse mX9_refuse dX9_holds_42 (bX9_refuse (sp := sp) (fa := fa) (nb := nb) (ns := ns) (nm := nm) (nv := nv) (sh := sh) (ho := ho) (ow := ow) (sl := sl) (rg := rg) (x := (-1)) (q := 1) h88 h89 (by decide) (by decide)) h88 rfl rfl rfl (Nat.le_of_ble_eq_true rfl) (by decide) (by decide) rfl (fun h2890 q2889 => ?_)
    obtain ⟨rg12888, f2891, k2892⟩ := q2889
    have f2893 := rng_at k2892 (by decide) h88
    have f2894 := rng_at k2892 (by decide) h108
    have f2895 := rng_at k2892 (by decide) h109
    have f2896 := rng_at k2892 (by decide) h110
    have f2897 := rng_at k2892 (by decide) h111
    have f2898 := rng_at k2892 (by decide) h112
    have f2899 := rng_at k2892 (by decide) h113
    have f2900 := rng_at k2892 (by decide) h114
    have f2901 := rng_at k2892 (by decide) h115
    subst hQF
    exact aw_iret rfl dX9_holds_45 (by decide) (by decide) ⟨by rw [if_neg (by omega)], _, _, _, _, _, _, f2893, f2900, f2901, f2891, rg2_tr (rg2_rf 88 89 114 115 h) (rg2_w k2892 (by decide)), hln⟩
set_option maxHeartbeats 4000000 in
theorem bX9_changed {l : Launch} {G : xG} {h : List va_E} {sp fa nb ns nm nv sh : Nat} {ho ow sl : Int32} {th kn go : Nat → Nat} {t k : Nat} (h88 : h[88]? = some (oB 9 (lM G (nI sp) (nI fa) (nI nb) (nI ns) (nI nm) ho ow sl (nI nv) (nI sh)))) (h108 : h[108]? = some (aI 60 (nA th))) (h112 : h[112]? = some (aI 60 (nA kn))) (h113 : h[113]? = some (aI 60 (nA (gM go)))) (bth : ∀ j, j < 60 → th j < 12) (bkn : ∀ j, j < 60 → kn j ≤ 80000) (bgo : ∀ j, j < 60 → go j ≤ 80001) (hn : nm ≤ 60) (bt : t < 12) (bk : k ≤ 80000) : CD l G yX9_changed cX9_changed 5 (some .int) 1 0 0 [.ref (G.1 + 88), .int (nI t), .int (nI k)] h (some (.int (nI (lcF th kn go t k nm)))) h := by
  refine cm_ofQ rfl (Nat.le_of_ble_eq_true rfl) [(0, .ref (G.1 + 88)), (1, .int (nI t)), (2, .int (nI k))] rfl (fun QF hQF => ?_)
  have bgM : ∀ j, j < 60 → gM go j ≤ 1000000000 := fun j hj => gM_b (bgo j hj)
  refine aw_iconst (0) dX9_changed_0 (by decide) ?_
  refine aw_istore_n [(3, .int 0), (0, .ref (G.1 + 88)), (1, .int (nI t)), (2, .int (nI k))] dX9_changed_1 rfl (by decide) rfl ?_
  refine aw_iconst (0) dX9_changed_2 (by decide) ?_
  refine aw_istore [(4, .int 0), (3, .int 0), (0, .ref (G.1 + 88)), (1, .int (nI t)), (2, .int (nI k))] dX9_changed_3 (by decide) rfl ?_
  refine aw_lv [(4, .int 0), (3, .int 0), (2, .int (nI k)), (1, .int (nI t)), (0, .ref (G.1 + 88))] [0, 1, 4, 3, 2] rfl ?_
  suffices L2902 : ∀ (mm : Nat) (i : Nat) (b : Nat), nm - i < mm → (i ≤ nm) → (b = lcF th kn go t k i) → AW l G yX9_changed cX9_changed 5 (some .int) (xR 1 0 0) (fun _ _ => True) QF 0 0 5 [(4, .int (nI i)), (3, .int (nI b)), (2, .int (nI k)), (1, .int (nI t)), (0, .ref (G.1 + 88))] [] h from L2902 (nm - 0 + 1) 0 0 (Nat.lt_succ_self _) (Nat.zero_le _) (rfl)
  intro mm
  induction mm with
  | zero =>
    intro i b hmm hi hb
    exact absurd hmm (Nat.not_lt_zero _)
  | succ mm ih2902 =>
    intro i b hmm hi hb
    have b9 := lcF_le (th := th) (kn := kn) (go := go) (t := t) (k := k) i
    refine aw_iload 0 dX9_changed_5 rfl ?_
    refine aw_aload_n 4 dX9_changed_7 rfl rfl ?_
    refine aw_get fX9_202 dX9_changed_8 h88 rfl ?_
    refine aw_icmp_ge 80 dX9_changed_11 (by decide) (fun c11 => ?_) (fun c11 => ?_)
    · have d11 := (nv_le (a := nm) (b := i) (rfl) (rfl) (by omega) (by omega)).mp c11
      refine aw_iload_n 1 dX9_changed_80 rfl rfl ?_
      subst hQF
      exact aw_iret rfl dX9_changed_81 (by decide) (by decide) ⟨by rw [hb, show i = nm by omega], rfl⟩
    · have d11 := mt (nv_le (a := nm) (b := i) (rfl) (rfl) (by omega) (by omega)).mpr c11
      refine aw_aload_n 4 dX9_changed_14 rfl rfl ?_
      refine aw_get fX9_74 dX9_changed_15 h88 rfl ?_
      refine aw_iload 0 dX9_changed_18 rfl ?_
      refine aw_iald i (rfl) (by omega) (by decide) dX9_changed_20 h108 ?_
      refine aw_toe (nI (th i)) (rfl) ?_
      have b2903 := bth i (by omega)
      refine aw_iload_n 3 dX9_changed_21 rfl rfl ?_
      refine aw_icmp_eq 28 dX9_changed_22 (by decide) (fun c22 => ?_) (fun c22 => ?_)
      · have d22 := (nv_eq (a := th i) (b := t) (rfl) (rfl) (by omega) (by omega)).mp c22
        refine aw_aload_n 4 dX9_changed_28 rfl rfl ?_
        refine aw_get fX9_86 dX9_changed_29 h88 rfl ?_
        refine aw_iload 0 dX9_changed_32 rfl ?_
        refine aw_iald i (rfl) (by omega) (by decide) dX9_changed_34 h112 ?_
        refine aw_toe (nI (kn i)) (rfl) ?_
        have b2904 := bkn i (by omega)
        refine aw_iload_n 2 dX9_changed_35 rfl rfl ?_
        refine aw_icmp_gt 51 dX9_changed_36 (by decide) (fun c36 => ?_) (fun c36 => ?_)
        · have d36 := (nv_lt (a := k) (b := kn i) (rfl) (rfl) (by omega) (by omega)).mp c36
          refine aw_aload_n 4 dX9_changed_51 rfl rfl ?_
          refine aw_get fX9_89 dX9_changed_52 h88 rfl ?_
          refine aw_iload 0 dX9_changed_55 rfl ?_
          refine aw_iald i (rfl) (by omega) (by decide) dX9_changed_57 h113 ?_
          refine aw_toe (nI ((gM go) i)) (rfl) ?_
          have b2905 := bgM i (by omega)
          refine aw_iload_n 2 dX9_changed_58 rfl rfl ?_
          refine aw_icmp_gt 74 dX9_changed_59 (by decide) (fun c59 => ?_) (fun c59 => ?_)
          · have d59 := (nv_lt (a := k) (b := (gM go) i) (rfl) (rfl) (by omega) (by omega)).mp c59
            refine aw_iinc (j := 0) (nI (i + 1)) [(4, .int (nI (i + 1))), (3, .int (nI b)), (2, .int (nI k)), (1, .int (nI t)), (0, .ref (G.1 + 88))] dX9_changed_74 rfl (nv_inc (rfl)) (by decide) rfl ?_
            refine aw_goto 5 dX9_changed_77 (by decide) ?_
            refine aw_lv [(4, .int (nI (i + 1))), (3, .int (nI b)), (2, .int (nI k)), (1, .int (nI t)), (0, .ref (G.1 + 88))] [0, 1, 2, 3, 4] rfl ?_
            have e2 := gM_v (go := go) (q := i)
            exact ih2902 (i + 1) b (by omega) (by omega) (by rw [lcF_s]; (repeat' split) <;> omega)
          · have d59 := mt (nv_lt (a := k) (b := (gM go) i) (rfl) (rfl) (by omega) (by omega)).mpr c59
            refine aw_iload_n 1 dX9_changed_62 rfl rfl ?_
            refine aw_aload_n 4 dX9_changed_63 rfl rfl ?_
            refine aw_get fX9_89 dX9_changed_64 h88 rfl ?_
            refine aw_iload 0 dX9_changed_67 rfl ?_
            refine aw_iald i (rfl) (by omega) (by decide) dX9_changed_69 h113 ?_
            refine aw_toe (nI ((gM go) i)) (rfl) ?_
            have b2906 := bgM i (by omega)
            refine aw_mmax lX9_162 dX9_changed_70 (Nat.le_of_ble_eq_true rfl) (by decide) (by decide) ?_
            refine aw_toe (nI (max b ((gM go) i))) (nv_max (rfl) (rfl) (by omega) (by omega)) ?_
            refine aw_istore_n [(3, .int (nI (max b ((gM go) i)))), (4, .int (nI i)), (2, .int (nI k)), (1, .int (nI t)), (0, .ref (G.1 + 88))] dX9_changed_73 rfl (by decide) rfl ?_
            refine aw_iinc (j := 1) (nI (i + 1)) [(4, .int (nI (i + 1))), (3, .int (nI (max b ((gM go) i)))), (2, .int (nI k)), (1, .int (nI t)), (0, .ref (G.1 + 88))] dX9_changed_74 rfl (nv_inc (rfl)) (by decide) rfl ?_
            refine aw_goto 5 dX9_changed_77 (by decide) ?_
            refine aw_lv [(4, .int (nI (i + 1))), (3, .int (nI (max b ((gM go) i)))), (2, .int (nI k)), (1, .int (nI t)), (0, .ref (G.1 + 88))] [0, 1, 2, 3, 4] rfl ?_
            have e2 := gM_v (go := go) (q := i)
            exact ih2902 (i + 1) (max b ((gM go) i)) (by omega) (by omega) (by rw [lcF_s]; (repeat' split) <;> omega)
        · have d36 := mt (nv_lt (a := k) (b := kn i) (rfl) (rfl) (by omega) (by omega)).mpr c36
          refine aw_iload_n 1 dX9_changed_39 rfl rfl ?_
          refine aw_aload_n 4 dX9_changed_40 rfl rfl ?_
          refine aw_get fX9_86 dX9_changed_41 h88 rfl ?_
          refine aw_iload 0 dX9_changed_44 rfl ?_
          refine aw_iald i (rfl) (by omega) (by decide) dX9_changed_46 h112 ?_
          refine aw_toe (nI (kn i)) (rfl) ?_
          have b2907 := bkn i (by omega)
          refine aw_mmax lX9_162 dX9_changed_47 (Nat.le_of_ble_eq_true rfl) (by decide) (by decide) ?_
          refine aw_toe (nI (max b (kn i))) (nv_max (rfl) (rfl) (by omega) (by omega)) ?_
          refine aw_istore_n [(3, .int (nI (max b (kn i)))), (4, .int (nI i)), (2, .int (nI k)), (1, .int (nI t)), (0, .ref (G.1 + 88))] dX9_changed_50 rfl (by decide) rfl ?_
          refine aw_aload_n 4 dX9_changed_51 rfl rfl ?_
          refine aw_get fX9_89 dX9_changed_52 h88 rfl ?_
          refine aw_iload 1 dX9_changed_55 rfl ?_
          refine aw_iald i (rfl) (by omega) (by decide) dX9_changed_57 h113 ?_
          refine aw_toe (nI ((gM go) i)) (rfl) ?_
          have b2908 := bgM i (by omega)
          refine aw_iload_n 2 dX9_changed_58 rfl rfl ?_
          refine aw_icmp_gt 74 dX9_changed_59 (by decide) (fun c59 => ?_) (fun c59 => ?_)
          · have d59 := (nv_lt (a := k) (b := (gM go) i) (rfl) (rfl) (by omega) (by omega)).mp c59
            refine aw_iinc (j := 1) (nI (i + 1)) [(4, .int (nI (i + 1))), (3, .int (nI (max b (kn i)))), (2, .int (nI k)), (1, .int (nI t)), (0, .ref (G.1 + 88))] dX9_changed_74 rfl (nv_inc (rfl)) (by decide) rfl ?_
            refine aw_goto 5 dX9_changed_77 (by decide) ?_
            refine aw_lv [(4, .int (nI (i + 1))), (3, .int (nI (max b (kn i)))), (2, .int (nI k)), (1, .int (nI t)), (0, .ref (G.1 + 88))] [0, 1, 2, 3, 4] rfl ?_
            have e2 := gM_v (go := go) (q := i)
            exact ih2902 (i + 1) (max b (kn i)) (by omega) (by omega) (by rw [lcF_s]; (repeat' split) <;> omega)
          · have d59 := mt (nv_lt (a := k) (b := (gM go) i) (rfl) (rfl) (by omega) (by omega)).mpr c59
            refine aw_iload_n 0 dX9_changed_62 rfl rfl ?_
            refine aw_aload_n 4 dX9_changed_63 rfl rfl ?_
            refine aw_get fX9_89 dX9_changed_64 h88 rfl ?_
            refine aw_iload 1 dX9_changed_67 rfl ?_
            refine aw_iald i (rfl) (by omega) (by decide) dX9_changed_69 h113 ?_
            refine aw_toe (nI ((gM go) i)) (rfl) ?_
            have b2909 := bgM i (by omega)
            refine aw_mmax lX9_162 dX9_changed_70 (Nat.le_of_ble_eq_true rfl) (by decide) (by decide) ?_
            refine aw_toe (nI (max (max b (kn i)) ((gM go) i))) (nv_max (rfl) (rfl) (by omega) (by omega)) ?_
            refine aw_istore_n [(3, .int (nI (max (max b (kn i)) ((gM go) i)))), (4, .int (nI i)), (2, .int (nI k)), (1, .int (nI t)), (0, .ref (G.1 + 88))] dX9_changed_73 rfl (by decide) rfl ?_
            refine aw_iinc (j := 1) (nI (i + 1)) [(4, .int (nI (i + 1))), (3, .int (nI (max (max b (kn i)) ((gM go) i)))), (2, .int (nI k)), (1, .int (nI t)), (0, .ref (G.1 + 88))] dX9_changed_74 rfl (nv_inc (rfl)) (by decide) rfl ?_
            refine aw_goto 5 dX9_changed_77 (by decide) ?_
            refine aw_lv [(4, .int (nI (i + 1))), (3, .int (nI (max (max b (kn i)) ((gM go) i)))), (2, .int (nI k)), (1, .int (nI t)), (0, .ref (G.1 + 88))] [0, 1, 2, 3, 4] rfl ?_
            have e2 := gM_v (go := go) (q := i)
            exact ih2902 (i + 1) (max (max b (kn i)) ((gM go) i)) (by omega) (by omega) (by rw [lcF_s]; (repeat' split) <;> omega)
      · have d22 := mt (nv_eq (a := th i) (b := t) (rfl) (rfl) (by omega) (by omega)).mpr c22
        refine aw_goto 74 dX9_changed_25 (by decide) ?_
        refine aw_iinc (j := 0) (nI (i + 1)) [(4, .int (nI (i + 1))), (3, .int (nI b)), (2, .int (nI k)), (1, .int (nI t)), (0, .ref (G.1 + 88))] dX9_changed_74 rfl (nv_inc (rfl)) (by decide) rfl ?_
        refine aw_goto 5 dX9_changed_77 (by decide) ?_
        refine aw_lv [(4, .int (nI (i + 1))), (3, .int (nI b)), (2, .int (nI k)), (1, .int (nI t)), (0, .ref (G.1 + 88))] [0, 1, 2, 3, 4] rfl ?_
        have e2 := gM_v (go := go) (q := i)
        exact ih2902 (i + 1) b (by omega) (by omega) (by rw [lcF_s]; (repeat' split) <;> omega)
