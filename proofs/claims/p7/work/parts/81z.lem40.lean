/-- the chain, step by step -/
def chX (v : Int32) : Int32 := if 0 < 100 - v then 100 - v else 0
def chD (lx : Nat → Nat → Nat → Nat → Nat) (fi : Nat → Nat) (fr t q q2 : Nat) : Int32 := chX (nI (lx fr t q q2)) + if jU (lx fr t) (fi t) (fi fr) q then 0 else 50
def chV (lx : Nat → Nat → Nat → Nat → Nat) (fi : Nat → Nat) (y : Nat) : Nat → Nat → Int32 → Int32 → Int32 → Int32 × Int32 × Int32
  | 0, _, ev, sv, dv => (ev, sv, dv)
  | x + 1, fr, ev, sv, dv =>
    if ev = -9 then (ev, sv, dv) else
    if y / p10 (x + 1) % 10 = 0 then chV lx fi y x fr ev sv dv else
    if jP (lx fr (y / p10 (x + 1) % 10 - 1)) (fi (y / p10 (x + 1) % 10 - 1)) (fi fr) (jn ev) = -9 then chV lx fi y x (y / p10 (x + 1) % 10 - 1) (-9) sv dv else
    chV lx fi y x (y / p10 (x + 1) % 10 - 1) (jP (lx fr (y / p10 (x + 1) % 10 - 1)) (fi (y / p10 (x + 1) % 10 - 1)) (fi fr) (jn ev)) (sv + 1) (dv + chD lx fi fr (y / p10 (x + 1) % 10 - 1) (jn ev) (jn (jP (lx fr (y / p10 (x + 1) % 10 - 1)) (fi (y / p10 (x + 1) % 10 - 1)) (fi fr) (jn ev))))
def chR (w : Int32) (t : Int32 × Int32 × Int32) : Int32 := if w = 0 then t.1 else if w = 1 then t.2.1 else t.2.2
def chA (lx : Nat → Nat → Nat → Nat → Nat) (fi : Nat → Nat) (a i y w : Int32) : Int32 := if ((0 ≤ a.toInt ∧ a.toInt < 4) ∧ 0 ≤ i.toInt ∧ i.toInt < (fi (tn a) : Int)) ∧ wyF (tn a) y = true then (if 0 ≤ w.toInt ∧ w.toInt ≤ 2 then chR w (chV lx fi (tn y) 3 (tn a) i 0 0) else -2) else -1
theorem cc_1 {c : Int32} {p : Prop} [Decidable p] (h : c = if p then 1 else 0) (hc : ¬ c = 0) : (0 : Int32) = if p then 0 else 50 := by
  by_cases q : p
  · rw [if_pos q]
  · rw [if_neg q] at h; exact absurd h hc
theorem cc_0 {c : Int32} {p : Prop} [Decidable p] (h : c = if p then 1 else 0) (hc : c = 0) : (50 : Int32) = if p then 0 else 50 := by
  by_cases q : p
  · rw [if_pos q] at h; rw [hc] at h; exact absurd h (by decide)
  · rw [if_neg q]
section CV
variable {lx : Nat → Nat → Nat → Nat → Nat} {fi : Nat → Nat} {y x fr q q2 t : Nat} {ev sv dv c w : Int32}
theorem chV_z : chV lx fi y 0 fr ev sv dv = (ev, sv, dv) := rfl
theorem chV_9 : ∀ x, chV lx fi y x fr (-9) sv dv = (-9, sv, dv) := by
  intro x
  cases x with
  | zero => rfl
  | succ x => simp only [chV]; rw [if_pos trivial]
theorem chV_0 (hq : q < 100000) (hD : y / p10 (x + 1) % 10 = 0) : chV lx fi y (x + 1) fr (nI q) sv dv = chV lx fi y x fr (nI q) sv dv := by
  simp only [chV]
  rw [if_neg (nI_9 hq), if_pos hD]
theorem chV_n (hq : q < 100000) (hD : ¬ y / p10 (x + 1) % 10 = 0) (ht : t = y / p10 (x + 1) % 10 - 1) (hP : jP (lx fr t) (fi t) (fi fr) q = -9) : chV lx fi y (x + 1) fr (nI q) sv dv = chV lx fi y x t (-9) sv dv := by
  subst ht
  simp only [chV]
  rw [if_neg (nI_9 hq), if_neg hD, jn_nI (by omega), if_pos hP]
theorem chV_s (hq : q < 100000) (hq2 : q2 < 100000) (hD : ¬ y / p10 (x + 1) % 10 = 0) (ht : t = y / p10 (x + 1) % 10 - 1) (hP : jP (lx fr t) (fi t) (fi fr) q = nI q2) (hc : c = if jU (lx fr t) (fi t) (fi fr) q then 0 else 50) : chV lx fi y (x + 1) fr (nI q) sv dv = chV lx fi y x t (nI q2) (sv + 1) (dv + (chX (nI (lx fr t q q2)) + c)) := by
  subst ht
  simp only [chV]
  rw [if_neg (nI_9 hq), if_neg hD, jn_nI (by omega), if_neg (by rw [hP]; exact nI_9 hq2), hP, jn_nI (by omega)]
  subst hc
  rfl
theorem chV_32 (hq : q < 100000) (h : y < 100) : chV lx fi y 3 fr (nI q) sv dv = chV lx fi y 2 fr (nI q) sv dv := chV_0 hq (show y / 100 % 10 = 0 by omega)
theorem chV_31 (hq : q < 100000) (h : y < 10) : chV lx fi y 3 fr (nI q) sv dv = chV lx fi y 1 fr (nI q) sv dv := (chV_32 hq (by omega)).trans (chV_0 hq (show y / 10 % 10 = 0 by omega))
theorem chR_0 (h : w = 0) : chR w (ev, sv, dv) = ev := by unfold chR; rw [if_pos h]
theorem chR_1 (h0 : ¬ w = 0) (h : w = 1) : chR w (ev, sv, dv) = sv := by unfold chR; rw [if_neg h0, if_pos h]
theorem chR_2 (h0 : ¬ w = 0) (h : ¬ w = 1) : chR w (ev, sv, dv) = dv := by unfold chR; rw [if_neg h0, if_neg h]
theorem chA_y {a i y w : Int32} (h : ((0 ≤ a.toInt ∧ a.toInt < 4) ∧ 0 ≤ i.toInt ∧ i.toInt < (fi (tn a) : Int)) ∧ wyF (tn a) y = true) (h2 : 0 ≤ w.toInt ∧ w.toInt ≤ 2) : chA lx fi a i y w = chR w (chV lx fi (tn y) 3 (tn a) i 0 0) := by unfold chA; rw [if_pos h, if_pos h2]
theorem chA_2 {a i y w : Int32} (h : ((0 ≤ a.toInt ∧ a.toInt < 4) ∧ 0 ≤ i.toInt ∧ i.toInt < (fi (tn a) : Int)) ∧ wyF (tn a) y = true) (h2 : ¬ (0 ≤ w.toInt ∧ w.toInt ≤ 2)) : chA lx fi a i y w = -2 := by unfold chA; rw [if_pos h, if_neg h2]
theorem chA_1 {a i y w : Int32} (h : ¬ (((0 ≤ a.toInt ∧ a.toInt < 4) ∧ 0 ≤ i.toInt ∧ i.toInt < (fi (tn a) : Int)) ∧ wyF (tn a) y = true)) : chA lx fi a i y w = -1 := by unfold chA; rw [if_neg h]
theorem chA_r {a i y w : Int32} (h : ¬ (((0 ≤ a.toInt ∧ a.toInt < 4) ∧ 0 ≤ i.toInt ∧ i.toInt < (fi (tn a) : Int)) ∧ wyF (tn a) y = true ∧ 0 ≤ w.toInt ∧ w.toInt ≤ 2)) : (if ((0 ≤ a.toInt ∧ a.toInt < 4) ∧ 0 ≤ i.toInt ∧ i.toInt < (fi (tn a) : Int)) ∧ wyF (tn a) y = true then (-2 : Int32) else -1) = chA lx fi a i y w := by
  by_cases c : ((0 ≤ a.toInt ∧ a.toInt < 4) ∧ 0 ≤ i.toInt ∧ i.toInt < (fi (tn a) : Int)) ∧ wyF (tn a) y = true
  · rw [if_pos c, chA_2 c (fun q => h ⟨c.1, c.2, q⟩)]
  · rw [if_neg c, chA_1 c]
theorem wyO {a : Nat} {y : Int32} (h : wyF a y = true) : (1 ≤ y.toInt ∧ y.toInt ≤ 999) ∧ wyG 3 (2 ^ a) (tn y) = true := by
  unfold wyF at h
  simp only [Bool.and_eq_true, decide_eq_true_eq] at h
  exact h
theorem wyI {a : Nat} {y : Int32} (h : (1 ≤ y.toInt ∧ y.toInt ≤ 999) ∧ wyG 3 (2 ^ a) (tn y) = true) : wyF a y = true := by
  unfold wyF
  simp only [Bool.and_eq_true, decide_eq_true_eq]
  exact h
end CV
