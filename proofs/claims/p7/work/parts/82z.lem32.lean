/-- the moves that count, in a line by days, then by numbers: told by what it is, whatever the way to it -/
def fdI (so ot f : Nat → Nat) : Nat → hsT
  | 0 => ([], -9, -9, 0)
  | z + 1 => foF (so (f z)) (nI (ot (f z))) (fdI so ot f z)
def LN (th dy kn go : Nat → Nat) (t d k i c : Nat) (f : Nat → Nat) : Prop := (∀ x, x < c → f x < i ∧ whC th dy kn go t d k (f x)) ∧ (∀ x y, x < y → y < c → dy (f x) < dy (f y) ∨ (dy (f x) = dy (f y) ∧ f x < f y)) ∧ (∀ p, p < i → whC th dy kn go t d k p → ∃ x, x < c ∧ f x = p)
section LL
variable {th ot dy so kn go od : Nat → Nat} {t d k n i c c' z : Nat} {f g : Nat → Nat}
theorem LN_x (h : LN th dy kn go t d k n c f) (h' : LN th dy kn go t d k n c' g) : ∀ x, x < c → x < c' → f x = g x := by
  intro x
  obtain ⟨a1, a2, a3⟩ := h
  obtain ⟨b1, b2, b3⟩ := h'
  induction x using Nat.strongRecOn with
  | ind x ih =>
    intro hx hx'
    obtain ⟨y, hy, ey⟩ := b3 (f x) (a1 x hx).1 (a1 x hx).2
    obtain ⟨w, hw, ew⟩ := a3 (g x) (b1 x hx').1 (b1 x hx').2
    have q1 : ¬ y < x := by
      intro q
      have e1 := ih y q (by omega) (by omega)
      have e2 := a2 y x q hx
      rw [e1, ey] at e2
      omega
    have q2 : ¬ w < x := by
      intro q
      have e1 := ih w q (by omega) (by omega)
      have e2 := b2 w x q hx'
      rw [← e1, ew] at e2
      omega
    by_cases e1 : y = x
    · rw [e1] at ey; exact ey.symm
    · by_cases e2 : w = x
      · rw [e2] at ew; exact ew
      · have r1 := b2 x y (by omega) hy
        have r2 := a2 x w (by omega) hw
        rw [ey] at r1
        rw [ew] at r2
        omega
theorem LN_l (h : LN th dy kn go t d k n c f) (h' : LN th dy kn go t d k n c' g) : ¬ c < c' := by
  intro q
  have e := LN_x h h'
  obtain ⟨a1, a2, a3⟩ := h
  obtain ⟨b1, b2, b3⟩ := h'
  obtain ⟨y, hy, ey⟩ := a3 (g c) (b1 c q).1 (b1 c q).2
  have e1 := e y hy (by omega)
  have e2 := b2 y c hy q
  rw [← e1, ey] at e2
  omega
theorem fdI_c : ∀ c, (∀ x, x < c → f x = g x) → fdI so ot f c = fdI so ot g c := by
  intro c
  induction c with
  | zero => intro _; rfl
  | succ c ih => intro h; simp only [fdI]; rw [h c (by omega), ih (fun x hx => h x (by omega))]
theorem LN_f (h : LN th dy kn go t d k n c f) (h' : LN th dy kn go t d k n c' g) : fdI so ot f c = fdI so ot g c' := by
  have e : c = c' := by
    have q1 := LN_l h h'
    have q2 := LN_l h' h
    omega
  subst e
  exact fdI_c c (fun x hx => LN_x h h' x hx hx)
theorem LN_0 {f : Nat → Nat} : LN th dy kn go t d k 0 0 f := ⟨fun _ h => absurd h (Nat.not_lt_zero _), fun _ _ _ h => absurd h (Nat.not_lt_zero _), fun _ h => absurd h (Nat.not_lt_zero _)⟩
theorem LN_n (h : LN th dy kn go t d k i c f) (q : ¬ whC th dy kn go t d k i) : LN th dy kn go t d k (i + 1) c f := by
  obtain ⟨a1, a2, a3⟩ := h
  refine ⟨fun x hx => ⟨by have := (a1 x hx).1; omega, (a1 x hx).2⟩, a2, fun p hp cp => ?_⟩
  have : p ≠ i := fun e => q (e ▸ cp)
  exact a3 p (by omega) cp
theorem ins_a (h : ∀ x, x < z → g x = f x) {v : Nat} : ∀ x, x < z - 1 → un g z v x = f x := fun x hx => by rw [un_n (by omega)]; exact h x (by omega)
theorem ins_b (hz : 0 < z) (ha : ∀ x, x < z → g x = f x) (h : ∀ x, z < x → x ≤ c → g x = f (x - 1)) : ∀ x, z - 1 < x → x ≤ c → un g z (g (z - 1)) x = f (x - 1) := by
  intro x h1 h2
  by_cases e : x = z
  · rw [e, un_s]; exact ha (z - 1) (by omega)
  · rw [un_n e]; exact h x (by omega) h2
theorem ins_c (hz : 0 < z) (ha : ∀ x, x < z → g x = f x) (h : ∀ x, z ≤ x → x < c → dy i < dy (f x)) (q : dy i < dy (g (z - 1))) : ∀ x, z - 1 ≤ x → x < c → dy i < dy (f x) := by
  intro x h1 h2
  by_cases e : x = z - 1
  · rw [e, ← ha (z - 1) (by omega)]; exact q
  · exact h x (by omega) h2
theorem LN_i (h : LN th dy kn go t d k i c f) (ci : whC th dy kn go t d k i) (hz : z ≤ c) (ha : ∀ x, x < z → g x = f x) (hb : ∀ x, z < x → x ≤ c → g x = f (x - 1)) (hc : ∀ x, z ≤ x → x < c → dy i < dy (f x)) (hq : z = 0 ∨ ¬ dy i < dy (g (z - 1))) : LN th dy kn go t d k (i + 1) (c + 1) (un g z i) := by
  obtain ⟨a1, a2, a3⟩ := h
  have gz : un g z i z = i := un_s
  have gl : ∀ x, x < z → un g z i x = f x := fun x hx => by rw [un_n (by omega)]; exact ha x hx
  have gg : ∀ x, z < x → x ≤ c → un g z i x = f (x - 1) := fun x h1 h2 => by rw [un_n (by omega)]; exact hb x h1 h2
  refine ⟨fun x hx => ?_, fun x y hxy hy => ?_, fun p hp cp => ?_⟩
  · rcases Nat.lt_trichotomy x z with q | q | q
    · rw [gl x q]; have := a1 x (by omega); exact ⟨by omega, this.2⟩
    · subst q; rw [gz]; exact ⟨by omega, ci⟩
    · rw [gg x q (by omega)]; have := a1 (x - 1) (by omega); exact ⟨by omega, this.2⟩
  · rcases Nat.lt_trichotomy x z with q | q | q
    · rw [gl x q]
      rcases Nat.lt_trichotomy y z with w | w | w
      · rw [gl y w]; exact a2 x y hxy (by omega)
      · subst w
        rw [gz]
        have b1 := (a1 x (by omega)).1
        have b2 : dy (f (y - 1)) ≤ dy i := by
          rcases hq with e | e
          · omega
          · rw [ha (y - 1) (by omega)] at e; omega
        by_cases e : x = y - 1
        · rw [← e] at b2; omega
        · have := a2 x (y - 1) (by omega) (by omega); omega
      · rw [gg y w (by omega)]; exact a2 x (y - 1) (by omega) (by omega)
    · subst q
      rw [gz, gg y hxy (by omega)]
      exact Or.inl (hc (y - 1) (by omega) (by omega))
    · rw [gg x q (by omega), gg y (by omega) (by omega)]
      exact a2 (x - 1) (y - 1) (by omega) (by omega)
  · by_cases e : p = i
    · exact ⟨z, by omega, by rw [gz, e]⟩
    · obtain ⟨x, hx, ex⟩ := a3 p (by omega) cp
      rcases Nat.lt_or_ge x z with q | q
      · exact ⟨x, by omega, by rw [gl x q]; exact ex⟩
      · exact ⟨x + 1, by omega, by rw [gg (x + 1) (by omega) (by omega)]; exact ex⟩
end LL
def goU (th ot dy so kn go : Nat → Nat) (t d k n : Nat) (T : hsT) : Prop := ∃ (f : Nat → Nat) (c : Nat), LN th dy kn go t d k n c f ∧ T = fdI so ot f c
noncomputable def gVS (th ot dy so kn go : Nat → Nat) (t d k n : Nat) : hsT := @Classical.epsilon hsT ⟨([], -9, -9, 0)⟩ (goU th ot dy so kn go t d k n)
section GS
variable {th ot dy so kn go od : Nat → Nat} {t d k n : Nat}
theorem gVS_e {T : hsT} (h : goU th ot dy so kn go t d k n T) : T = gVS th ot dy so kn go t d k n := by
  have q := @Classical.epsilon_spec_aux hsT ⟨([], -9, -9, 0)⟩ (goU th ot dy so kn go t d k n) ⟨T, h⟩
  obtain ⟨f, c, l1, e1⟩ := h
  obtain ⟨g, c', l2, e2⟩ := q
  show T = @Classical.epsilon hsT ⟨([], -9, -9, 0)⟩ (goU th ot dy so kn go t d k n)
  rw [e1, e2]
  exact LN_f l1 l2
theorem rpF_L (hod : srt dy od n) : ∀ a, a ≤ n → ∃ (f : Nat → Nat) (c : Nat), rpF th ot dy so kn go od t d k a = fdI so ot f c ∧ (∀ x, x < c → ∃ i, i < a ∧ f x = od i ∧ whC th dy kn go t d k (od i)) ∧ (∀ x y, x < y → y < c → dy (f x) < dy (f y) ∨ (dy (f x) = dy (f y) ∧ f x < f y)) ∧ (∀ i, i < a → whC th dy kn go t d k (od i) → ∃ x, x < c ∧ f x = od i) := by
  intro a
  induction a with
  | zero => intro _; exact ⟨fun _ => 0, 0, rfl, fun _ h => absurd h (Nat.not_lt_zero _), fun _ _ _ h => absurd h (Nat.not_lt_zero _), fun _ h => absurd h (Nat.not_lt_zero _)⟩
  | succ a ih =>
    intro ha
    obtain ⟨f, c, e, q1, q2, q3⟩ := ih (by omega)
    rw [rpF_s]
    by_cases w : whC th dy kn go t d k (od a)
    · refine ⟨un f c (od a), c + 1, ?_, fun x hx => ?_, fun x y hxy hy => ?_, fun i hi ci => ?_⟩
      · rw [if_pos w, e]
        simp only [fdI]
        rw [un_s, fdI_c (f := un f c (od a)) (g := f) c (fun x hx => un_n (by omega))]
      · by_cases ex : x = c
        · rw [ex, un_s]; exact ⟨a, by omega, rfl, w⟩
        · rw [un_n ex]
          obtain ⟨i, b, r⟩ := q1 x (by omega)
          exact ⟨i, by omega, r⟩
      · rw [un_n (by omega : x ≠ c)]
        by_cases ey : y = c
        · rw [ey, un_s]
          obtain ⟨i, b, r, _⟩ := q1 x (by omega)
          rw [r]
          exact hod.2.1 i a b (by omega)
        · rw [un_n ey]; exact q2 x y hxy (by omega)
      · by_cases ei : i = a
        · exact ⟨c, by omega, by rw [un_s, ei]⟩
        · obtain ⟨x, b, r⟩ := q3 i (by omega) ci
          exact ⟨x, by omega, by rw [un_n (by omega)]; exact r⟩
    · refine ⟨f, c, by rw [if_neg w]; exact e, fun x hx => ?_, q2, fun i hi ci => ?_⟩
      · obtain ⟨i, b, r⟩ := q1 x hx
        exact ⟨i, by omega, r⟩
      · have : i ≠ a := fun z => w (z ▸ ci)
        exact q3 i (by omega) ci
theorem rp_S (hod : srt dy od n) : rpF th ot dy so kn go od t d k n = gVS th ot dy so kn go t d k n := by
  obtain ⟨f, c, e, q1, q2, q3⟩ := rpF_L (th := th) (ot := ot) (so := so) (kn := kn) (go := go) (t := t) (d := d) (k := k) hod n (Nat.le_refl _)
  apply gVS_e
  refine ⟨f, c, ⟨fun x hx => ?_, q2, fun p hp cp => ?_⟩, e⟩
  · obtain ⟨i, b, r, w⟩ := q1 x hx
    rw [r]
    exact ⟨hod.1 i b, w⟩
  · obtain ⟨i, b, rfl⟩ := hod.2.2 p hp
    exact q3 i b cp
theorem foF_01 {s : Nat} {p : Int32} {T : hsT} (h : T.2.2.2 = 0 ∨ T.2.2.2 = 1) : (foF s p T).2.2.2 = 0 ∨ (foF s p T).2.2.2 = 1 := by
  unfold foF
  split
  · exact h
  · split
    · split
      · exact h
      · exact h
    · show (if s = 2 then (1 : Int32) else 0) = 0 ∨ (if s = 2 then (1 : Int32) else 0) = 1
      split
      · exact Or.inr rfl
      · exact Or.inl rfl
theorem fdI_01 {f : Nat → Nat} : ∀ c, (fdI so ot f c).2.2.2 = 0 ∨ (fdI so ot f c).2.2.2 = 1 := by
  intro c
  induction c with
  | zero => exact Or.inl rfl
  | succ c ih => exact foF_01 ih
theorem rp_01 (hod : srt dy od n) : (if (rpF th ot dy so kn go od t d k n).2.2.2 = 0 then (0 : Int32) else 1) = (gVS th ot dy so kn go t d k n).2.2.2 := by
  obtain ⟨f, c, e, _⟩ := rpF_L (th := th) (ot := ot) (so := so) (kn := kn) (go := go) (t := t) (d := d) (k := k) hod n (Nat.le_refl _)
  rw [← rp_S hod, e]
  rcases fdI_01 (so := so) (ot := ot) (f := f) c with q | q
  · rw [q]; rfl
  · rw [q]; rfl
/-- the reference's books while it goes along the line -/
def st5 (T : hsT) (o : Nat) (ho ow sl : Int32) (lt : Nat → Int32) : Prop := o = T.1.length ∧ ho = T.2.1 ∧ ow = T.2.2.1 ∧ sl = T.2.2.2 ∧ stk lt T.1
end GS
section S5
variable {so ot f : Nat → Nat} {z o : Nat} {ho ow sl : Int32} {lt : Nat → Int32}
theorem s5_0 : st5 (fdI so ot f 0) 0 (-9) (-9) 0 lt := ⟨rfl, rfl, rfl, rfl, trivial⟩
theorem s5_3 (h : st5 (fdI so ot f z) o ho ow sl lt) (e : so (f z) = 3) : st5 (fdI so ot f (z + 1)) (o + 1) (nI (ot (f z))) ow sl (upd lt o ho) := by
  obtain ⟨h1, h2, h3, h4, h5⟩ := h
  have q : fdI so ot f (z + 1) = ((fdI so ot f z).2.1 :: (fdI so ot f z).1, nI (ot (f z)), (fdI so ot f z).2.2.1, (fdI so ot f z).2.2.2) := by
    simp only [fdI]; unfold foF; rw [if_pos e]
  rw [q]
  refine ⟨by simp [h1], rfl, h3, h4, ?_, ?_⟩
  · rw [← h1, ← h2]; simp [upd]
  · exact stk_up _ _ (by omega) h5
theorem s5_n (h : st5 (fdI so ot f z) o ho ow sl lt) (e : so (f z) = 4) (e0 : o = 0) : st5 (fdI so ot f (z + 1)) o ho ow sl lt := by
  obtain ⟨h1, h2, h3, h4, h5⟩ := h
  have e1 : (fdI so ot f z).1 = [] := List.length_eq_zero_iff.mp (by omega)
  have q : fdI so ot f (z + 1) = fdI so ot f z := by
    simp only [fdI]; unfold foF; rw [if_neg (by omega), if_pos e, e1]
  rw [q]
  exact ⟨h1, h2, h3, h4, h5⟩
theorem s5_4 (h : st5 (fdI so ot f z) o ho ow sl lt) (e : so (f z) = 4) (e0 : ¬ o = 0) : st5 (fdI so ot f (z + 1)) (o - 1) (lt (o - 1)) ow sl lt := by
  obtain ⟨h1, h2, h3, h4, h5⟩ := h
  cases e1 : (fdI so ot f z).1 with
  | nil => rw [e1] at h1; exact absurd h1 e0
  | cons x r =>
    have q : fdI so ot f (z + 1) = (r, x, (fdI so ot f z).2.2.1, (fdI so ot f z).2.2.2) := by
      simp only [fdI]; unfold foF; rw [if_neg (by omega), if_pos e, e1]
    rw [q]
    rw [e1] at h1 h5
    have h6 : o - 1 = r.length := by rw [h1]; simp
    exact ⟨h6, by rw [h6]; exact h5.1, h3, h4, h5.2⟩
theorem s5_2 (h : st5 (fdI so ot f z) o ho ow sl lt) (e : so (f z) = 2) : st5 (fdI so ot f (z + 1)) 0 (nI (ot (f z))) (-9) 1 lt := by
  have q : fdI so ot f (z + 1) = ([], nI (ot (f z)), -9, 1) := by
    simp only [fdI]; unfold foF; rw [if_neg (by omega), if_neg (by omega), if_pos e, if_pos e]
  rw [q]
  exact ⟨rfl, rfl, rfl, rfl, trivial⟩
theorem s5_1 (h : st5 (fdI so ot f z) o ho ow sl lt) (e3 : ¬ so (f z) = 3) (e4 : ¬ so (f z) = 4) (e2 : ¬ so (f z) = 2) : st5 (fdI so ot f (z + 1)) 0 (nI (ot (f z))) (nI (ot (f z))) 0 lt := by
  have q : fdI so ot f (z + 1) = ([], nI (ot (f z)), nI (ot (f z)), 0) := by
    simp only [fdI]; unfold foF; rw [if_neg e3, if_neg e4, if_neg e2, if_neg e2]
  rw [q]
  exact ⟨rfl, rfl, rfl, rfl, trivial⟩
end S5
theorem gs_5 {th ot dy so kn go f : Nat → Nat} {t d k n i c z o : Nat} {ho ow sl : Int32} {lt : Nat → Int32} (hL : LN th dy kn go t d k i c f) (ei : i = n) (h : st5 (fdI so ot f z) o ho ow sl lt) (ez : z = c) : ho = (gVS th ot dy so kn go t d k n).2.1 ∧ ow = (gVS th ot dy so kn go t d k n).2.2.1 ∧ sl = (gVS th ot dy so kn go t d k n).2.2.2 := by
  subst ei; subst ez
  rw [← gVS_e (T := fdI so ot f z) ⟨f, z, hL, rfl⟩]
  exact ⟨h.2.1, h.2.2.1, h.2.2.2.1⟩
theorem wr_dy (k : Int32) : wrF k 0 80000 = dyF k k := by
  unfold wrF dyF
  rw [show (0 : Int32).toInt = 0 from rfl, show (80000 : Int32).toInt = 80000 from rfl]
  (repeat' split) <;> first | rfl | (exfalso; omega)
section HZ
variable {LC : Nat → Nat} {HO : Nat → Int32} {now : Int32}
theorem hs_s {f last : Nat} : hsF LC HO now (f + 1) last = if LC last = 0 then 0 else if HO (LC last - 1) = now then hsF LC HO now f (LC last - 1) else LC last := rfl
theorem hs_1 (hL : ∀ x, LC x ≤ x) : ∀ f last, last < f → hsF LC HO now (f + 1) last = hsF LC HO now f last := by
  intro f
  induction f with
  | zero => intro last h; exact absurd h (Nat.not_lt_zero _)
  | succ f ih =>
    intro last h
    rw [hs_s (f := f + 1) (last := last), hs_s (f := f) (last := last)]
    by_cases e : LC last = 0
    · rw [if_pos e, if_pos e]
    · have b := hL last
      rw [if_neg e, if_neg e, ih (LC last - 1) (by omega)]
theorem hs_f (hL : ∀ x, LC x ≤ x) {last : Nat} : ∀ e, hsF LC HO now (last + 1 + e) last = hsF LC HO now (last + 1) last := by
  intro e
  induction e with
  | zero => rfl
  | succ e ih => rw [← Nat.add_assoc, hs_1 hL _ last (by omega), ih]
theorem hs_fe (hL : ∀ x, LC x ≤ x) {last f : Nat} (h : last < f) : hsF LC HO now f last = hsF LC HO now (last + 1) last := by
  have q := hs_f (HO := HO) (now := now) hL (last := last) (f - (last + 1))
  rw [show last + 1 + (f - (last + 1)) = f by omega] at q
  exact q
/-- from one change to the one ahead of it -/
noncomputable def hzF (LC : Nat → Nat) (HO : Nat → Int32) (now : Int32) (k : Nat) : Nat := hsF LC HO now (k + 1) k
theorem hz_s (hL : ∀ x, LC x ≤ x) (k : Nat) : hzF LC HO now k = if LC k = 0 then 0 else if HO (LC k - 1) = now then hzF LC HO now (LC k - 1) else LC k := by
  unfold hzF
  rw [hs_s (f := k) (last := k)]
  by_cases e : LC k = 0
  · rw [if_pos e, if_pos e]
  · have b := hL k
    rw [if_neg e, if_neg e, hs_fe hL (last := LC k - 1) (f := k) (by omega)]
/-- few steps will do where the changes are few -/
theorem hs_few (hL : ∀ x, LC x ≤ x) {P : Nat → Prop} (hP : ∀ x, LC x ≠ 0 → P (LC x)) : ∀ f last, cnt P (last + 1) < f → hsF LC HO now f last = hzF LC HO now last := by
  intro f
  induction f with
  | zero => intro last h; exact absurd h (Nat.not_lt_zero _)
  | succ f ih =>
    intro last h
    rw [hs_s (f := f) (last := last), hz_s hL]
    by_cases e : LC last = 0
    · rw [if_pos e, if_pos e]
    · have b := hL last
      have q : cnt P (LC last - 1 + 1) < f := by
        rw [show LC last - 1 + 1 = LC last by omega]
        have m : ∀ a N, LC last < N → N ≤ a → cnt P (LC last) + 1 ≤ cnt P N := by
          intro a
          induction a with
          | zero => intro N h1 h2; omega
          | succ a iha =>
            intro N h1 h2
            cases N with
            | zero => omega
            | succ N =>
              rw [cnt]
              by_cases z : N = LC last
              · rw [z, if_pos (hP last e)]; exact Nat.le_refl _
              · have := iha N (by omega) (by omega); omega
        have := m (last + 1) (last + 1) (by omega) (Nat.le_refl _)
        omega
      rw [if_neg e, if_neg e, ih _ q]
end HZ
theorem cnt_or {f g : Nat → Prop} : ∀ N, cnt (fun v => f v ∨ g v) N ≤ cnt f N + cnt g N := by
  intro N
  induction N with
  | zero => exact Nat.le_refl _
  | succ N ih =>
    rw [cnt, cnt, cnt]
    by_cases a : f N
    · rw [if_pos (Or.inl a), if_pos a]; omega
    · by_cases b : g N
      · rw [if_pos (Or.inr b), if_pos b]; omega
      · rw [if_neg (fun q => q.elim a b)]; omega
theorem cnt_one (a : Nat) : ∀ N, cnt (fun v => v = a) N ≤ 1 := by
  have h : ∀ N, cnt (fun v => v = a) N = if a < N then 1 else 0 := by
    intro N
    induction N with
    | zero => rfl
    | succ N ih =>
      rw [cnt, ih]
      by_cases e : N = a
      · rw [if_pos e, if_neg (by omega), if_pos (by omega)]
      · rw [if_neg e]
        by_cases w : a < N
        · rw [if_pos w, if_pos (by omega)]
        · rw [if_neg w, if_neg (by omega)]
  intro N
  rw [h N]
  split <;> omega
/-- a day on which a record came or went -/
def chP (th kn go : Nat → Nat) (t n v : Nat) : Prop := ∃ q, q < n ∧ th q = t ∧ (v = kn q ∨ v = go q)
theorem chP_n {th kn go : Nat → Nat} {t : Nat} : ∀ n N, cnt (chP th kn go t n) N ≤ 2 * n := by
  intro n
  induction n with
  | zero => intro N; rw [cnt_0 (fun D => by rintro ⟨q, h, _⟩; exact absurd h (Nat.not_lt_zero _))]; exact Nat.le_refl _
  | succ n ih =>
    intro N
    have a := cnt_or (f := chP th kn go t n) (g := fun v => v = kn n ∨ v = go n) N
    have b := cnt_or (f := fun v => v = kn n) (g := fun v => v = go n) N
    have c1 := cnt_one (kn n) N
    have c2 := cnt_one (go n) N
    have e := ih N
    have m : ∀ N, cnt (chP th kn go t (n + 1)) N ≤ cnt (fun v => chP th kn go t n v ∨ (v = kn n ∨ v = go n)) N := by
      intro N
      induction N with
      | zero => exact Nat.le_refl _
      | succ N ihN =>
        rw [cnt, cnt]
        by_cases w : chP th kn go t (n + 1) N
        · have w2 : chP th kn go t n N ∨ (N = kn n ∨ N = go n) := by
            obtain ⟨q, h1, h2, h3⟩ := w
            by_cases z : q = n
            · subst z; exact Or.inr h3
            · exact Or.inl ⟨q, by omega, h2, h3⟩
          rw [if_pos w, if_pos w2]; omega
        · rw [if_neg w]; omega
    have := m N
    omega
theorem lc_P {th kn go : Nat → Nat} {t k : Nat} : ∀ n, lcF th kn go t k n ≠ 0 → chP th kn go t n (lcF th kn go t k n) := by
  intro n
  induction n with
  | zero => intro h; exact absurd rfl h
  | succ n ih =>
    intro h
    have up : ∀ v, chP th kn go t n v → chP th kn go t (n + 1) v := fun v ⟨q, h1, h2⟩ => ⟨q, by omega, h2⟩
    rw [lcF_s] at h ⊢
    by_cases e : th n = t
    · rw [if_pos e] at h ⊢
      by_cases a : kn n ≤ k
      · rw [if_pos a] at h ⊢
        by_cases b : go n ≤ k
        · rw [if_pos b] at h ⊢
          rcases (by omega : max (max (lcF th kn go t k n) (kn n)) (go n) = lcF th kn go t k n ∨ max (max (lcF th kn go t k n) (kn n)) (go n) = kn n ∨ max (max (lcF th kn go t k n) (kn n)) (go n) = go n) with q | q | q
          · rw [q] at h ⊢; exact up _ (ih h)
          · rw [q]; exact ⟨n, by omega, e, Or.inl rfl⟩
          · rw [q]; exact ⟨n, by omega, e, Or.inr rfl⟩
        · rw [if_neg b] at h ⊢
          rcases (by omega : max (max (lcF th kn go t k n) (kn n)) 0 = lcF th kn go t k n ∨ max (max (lcF th kn go t k n) (kn n)) 0 = kn n) with q | q
          · rw [q] at h ⊢; exact up _ (ih h)
          · rw [q]; exact ⟨n, by omega, e, Or.inl rfl⟩
      · rw [if_neg a] at h ⊢
        by_cases b : go n ≤ k
        · rw [if_pos b] at h ⊢
          rcases (by omega : max (max (lcF th kn go t k n) 0) (go n) = lcF th kn go t k n ∨ max (max (lcF th kn go t k n) 0) (go n) = go n) with q | q
          · rw [q] at h ⊢; exact up _ (ih h)
          · rw [q]; exact ⟨n, by omega, e, Or.inr rfl⟩
        · rw [if_neg b] at h ⊢
          have q : max (max (lcF th kn go t k n) 0) 0 = lcF th kn go t k n := by omega
          rw [q] at h ⊢; exact up _ (ih h)
    · rw [if_neg e] at h ⊢
      exact up _ (ih h)
/-- since when, both ways of going back -/
noncomputable def siS (th ot dy so kn go : Nat → Nat) (t d k n : Nat) : Nat := hzF (fun x => lcF th kn go t x n) (fun x => (gVS th ot dy so kn go t d x n).2.1) ((gVS th ot dy so kn go t d k n).2.1) k
theorem si_S {th ot dy so kn go od : Nat → Nat} {t d k n : Nat} (hod : srt dy od n) (hn : n ≤ 60) : hsF (fun x => lcF th kn go t x n) (fun x => (rpF th ot dy so kn go od t d x n).2.1) ((rpF th ot dy so kn go od t d k n).2.1) 121 k = siS th ot dy so kn go t d k n := by
  have e : (fun x => (rpF th ot dy so kn go od t d x n).2.1) = fun x => (gVS th ot dy so kn go t d x n).2.1 := by
    funext x; rw [rp_S hod]
  rw [e, rp_S hod]
  have c := chP_n (th := th) (kn := kn) (go := go) (t := t) n (k + 1)
  exact hs_few (fun x => lcF_le n) (P := chP th kn go t n) (fun x => lc_P n) 121 k (by omega)
