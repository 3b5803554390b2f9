/-- joinings told: good as long as the version stays -/
def jX (lx : Nat → Nat → Nat → Nat → Nat) (fi : Nat → Nat) (ve : Nat) : jgP := fun k su wa pt ce pv => pv ≤ ve ∧ (pv = ve → jK (lx (k / 4) (k % 4)) (fi (k / 4)) (fi (k % 4)) su wa pt ce)
section JX
variable {lx lx' : Nat → Nat → Nat → Nat → Nat} {fi fi' : Nat → Nat} {ve ve1 a b k pv : Nat} {su wa : Int32} {pt ce : Nat → Int32}
theorem jX_g (h : jX lx fi ve (a * 4 + b) su wa pt ce pv) (hb : b < 4) : pv = ve → jK (lx a b) (fi a) (fi b) su wa pt ce := by
  intro e
  have q := h.2 e
  rw [show (a * 4 + b) / 4 = a by omega, show (a * 4 + b) % 4 = b by omega] at q
  exact q
theorem jX_at (h : jK (lx a b) (fi a) (fi b) su wa pt ce) (hb : b < 4) : jX lx fi ve (a * 4 + b) su wa pt ce ve := by
  refine ⟨Nat.le_refl _, fun _ => ?_⟩
  rw [show (a * 4 + b) / 4 = a by omega, show (a * 4 + b) % 4 = b by omega]
  exact h
theorem jX_z (hv : 1 ≤ ve) (h : pv = 0) : jX lx fi ve k su wa pt ce pv := ⟨by omega, fun e => by omega⟩
theorem jX_b (h : jX lx fi ve k su wa pt ce pv) (e : ve1 = ve + 1) : jX lx' fi' ve1 k su wa pt ce pv := ⟨by have := h.1; omega, fun q => by have := h.1; omega⟩
end JX
/-- a likeness is a small number -/
def lxF (m ye : Nat → Nat) (W Z Ro Co : Nat → Int32) (sp fa nb : Nat) (b1 b2 : Nat → Nat) (a b i k : Nat) : Nat := min 300 (jn (lkS ye (fun j => snF (root m) (W j) 20) Z Ro Co (brF b1 b2 (a * 10 + i) (b * 10 + k) nb = true) sp fa a i b k))
section LX
variable {m ye se fi b1 b2 : Nat → Nat} {W Sn Z Ro Co : Nat → Int32} {Ba : Nat → Int64} {sp fa nb : Nat}
theorem lxF_le (a b i k : Nat) : lxF m ye W Z Ro Co sp fa nb b1 b2 a b i k ≤ 300 := Nat.min_le_left _ _
theorem ap_n {e f : Nat} (h1 : ∃ z, z ≤ 200 ∧ Z e = nI z) (h2 : ∃ z, z ≤ 200 ∧ Z f = nI z) : ∃ z, z ≤ 200 ∧ apF Z e f = nI z := by
  obtain ⟨x, bx, ex⟩ := h1
  obtain ⟨y, by_, ey⟩ := h2
  refine ⟨max x y - min x y, by omega, ?_⟩
  unfold apF
  rw [ex, ey]
  exact ab_y (by omega) (by omega)
theorem i_arr (A C D E : Int32) : A - C - D + E = (A + E) - (C + D) := by
  rw [Int32.sub_eq_add_neg, Int32.sub_eq_add_neg, Int32.sub_eq_add_neg, Int32.neg_add, Int32.sub_eq_add_neg]
  ac_rfl
theorem lp_b {S : Nat → Int32} {e f : Nat} (hs1 : ∃ n, n < 1048576 ∧ S e = nI n) (hs2 : ∃ n, n < 1048576 ∧ S f = nI n) (ha : ∃ z, z ≤ 200 ∧ apF Z e f = nI z) : (if 1 < lpS S Z Ro e f then lpS S Z Ro e f else 1) = nI (jn (if 1 < lpS S Z Ro e f then lpS S Z Ro e f else 1)) ∧ jn (if 1 < lpS S Z Ro e f then lpS S Z Ro e f else 1) ≤ 300 := by
  obtain ⟨x, bx, ex⟩ := hs1
  obtain ⟨y, by_, ey⟩ := hs2
  obtain ⟨z, bz, ez⟩ := ha
  have b1 := pcF_le 20 (x &&& y)
  have b2 := pcF_le 20 (x ^^^ y)
  have q1 : x &&& y < 1048576 := Nat.lt_of_le_of_lt Nat.and_le_left bx
  have q2 : x ^^^ y < 1048576 := Nat.xor_lt_two_pow (n := 20) bx by_
  obtain ⟨w, bw, ew⟩ : ∃ w, w ≤ 7 ∧ (if Ro e = Ro f then (7 : Int32) else 0) = nI w := by
    split
    · exact ⟨7, by omega, rfl⟩
    · exact ⟨0, by omega, rfl⟩
  have e9 : lpS S Z Ro e f = nI (10 * pcF 20 (x &&& y) + w) - nI (2 * pcF 20 (x ^^^ y) + z) := by
    unfold lpS
    rw [ex, ey, nn_and, show nI x ^^^ nI y = nI (x ^^^ y) from nv_xor rfl rfl, bc_pc q1, bc_pc q2, ez, ew, show (10 : Int32) = nI 10 from rfl, show (2 : Int32) = nI 2 from rfl, pk_mul, pk_mul, ← nI_add, ← nI_add]
    exact i_arr _ _ _ _
  have t9 := pk_sub_toInt (a := 10 * pcF 20 (x &&& y) + w) (b := 2 * pcF 20 (x ^^^ y) + z) (by omega) (by omega)
  rw [← e9] at t9
  by_cases c : 1 < lpS S Z Ro e f
  · rw [if_pos c]
    rw [i_lt, show (1 : Int32).toInt = 1 from rfl] at c
    obtain ⟨u, bu, eu⟩ := i_nat (x := lpS S Z Ro e f) (N := 300) (by omega) (by omega)
    rw [eu, jn_nI (by omega)]
    exact ⟨rfl, by omega⟩
  · rw [if_neg c]
    exact ⟨by decide, by decide⟩
theorem lkS_n {a b i k : Nat} (hZ : ∀ j, j < 40 → ∃ z, z ≤ 200 ∧ Z j = nI z) (ha : a < 4) (hb : b < 4) (hi : i < 10) (hk : k < 10) : lkS ye (fun j => snF (root m) (W j) 20) Z Ro Co (brF b1 b2 (a * 10 + i) (b * 10 + k) nb = true) sp fa a i b k = nI (lxF m ye W Z Ro Co sp fa nb b1 b2 a b i k) := by
  have sn : ∀ j, ∃ n, n < 1048576 ∧ (fun j => snF (root m) (W j) 20) j = nI n := fun j => by
    obtain ⟨n, h1, h2⟩ := snF_nat (se := root m) (x := W j) rootlt 20 (Nat.le_refl _)
    exact ⟨n, h1, h2⟩
  have q := lp_b (S := fun j => snF (root m) (W j) 20) (e := a * 10 + i) (f := b * 10 + k) (Ro := Ro) (sn (a * 10 + i)) (sn (b * 10 + k)) (ap_n (hZ (a * 10 + i) (by omega)) (hZ (b * 10 + k) (by omega)))
  unfold lxF
  have key : ∀ v : Int32, v = nI (jn v) → jn v ≤ 300 → v = nI (min 300 (jn v)) := by
    intro v h1 h2
    rw [Nat.min_eq_right h2]; exact h1
  apply key
  · unfold lkS
    split
    · decide
    · exact q.1
  · unfold lkS
    split
    · decide
    · exact q.2
theorem hlx_C (hr : ∀ j, j < 20 → se j = root m j) (hS : ∀ j, j < 40 → Sn j = snF se (W j) 20) (hB : bRel Ba b1 b2 nb) (hye : ∀ j, j < 4 → ye j < 1901) (hfa : fa ≤ 9) (hfi : ∀ j, j < 4 → fi j < 11) (hZ : ∀ j, j < 40 → ∃ z, z ≤ 200 ∧ Z j = nI z) : ∀ a, a < 4 → ∀ b, b < 4 → ∀ i, i < fi a → ∀ k, k < fi b → likeC ye Sn Z Ro Co Ba sp fa (a * 10 + i) (b * 10 + k) = nI (lxF m ye W Z Ro Co sp fa nb b1 b2 a b i k) := by
  intro a ha b hb i hi k hk
  have h1 := hfi a ha
  have h2 := hfi b hb
  rw [lkC_e hr hS hB hye hfa ha hb (by omega) (by omega), lkS_n hZ ha hb (by omega) (by omega)]
theorem hlx_M (hfi : ∀ j, j < 4 → fi j < 11) (hZ : ∀ j, j < 40 → ∃ z, z ≤ 200 ∧ Z j = nI z) : ∀ a, a < 4 → ∀ b, b < 4 → ∀ i, i < fi a → ∀ k, k < fi b → lkS ye (fun j => snF (root m) (W j) 20) Z Ro Co (brF b1 b2 (a * 10 + i) (b * 10 + k) nb = true) sp fa a i b k = nI (lxF m ye W Z Ro Co sp fa nb b1 b2 a b i k) := by
  intro a ha b hb i hi k hk
  have h1 := hfi a ha
  have h2 := hfi b hb
  exact lkS_n hZ ha hb (by omega) (by omega)
end LX
theorem ve_b {ve ve1 : Nat} {U : Prop} (h : ve1 = ve + 1 ∨ (ve1 = ve ∧ U)) : ve ≤ ve1 ∧ ve1 ≤ ve + 1 := by
  rcases h with e | ⟨e, _⟩ <;> omega
