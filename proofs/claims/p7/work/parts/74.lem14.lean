abbrev lM (G : xG) (a b c d e f g i j k : Int32) : List Value := [.ref (G.1 + 89), .ref (G.1 + 90), .ref (G.1 + 91), .ref (G.1 + 92), .ref (G.1 + 93), .ref (G.1 + 94), .ref (G.1 + 95), .ref (G.1 + 96), .ref (G.1 + 97), .ref (G.1 + 98), .int a, .int b, .int c, .ref (G.1 + 99), .ref (G.1 + 100), .ref (G.1 + 101), .ref (G.1 + 102), .int d, .int e, .ref (G.1 + 103), .ref (G.1 + 104), .ref (G.1 + 105), .ref (G.1 + 106), .ref (G.1 + 107), .ref (G.1 + 108), .ref (G.1 + 109), .ref (G.1 + 110), .ref (G.1 + 111), .ref (G.1 + 112), .ref (G.1 + 113), .ref (G.1 + 114), .ref (G.1 + 115), .int f, .int g, .int i, .int j, .ref (G.1 + 116), .ref (G.1 + 117), .ref (G.1 + 118), .ref (G.1 + 119), .ref (G.1 + 120), .ref (G.1 + 121), .ref (G.1 + 122), .int k, .ref (G.1 + 123), .ref (G.1 + 124)]
/-- the reference's word for a record that is not gone -/
def gM (go : Nat → Nat) : Nat → Nat := fun j => if go j = 80001 then 1000000000 else go j
theorem gM_n {go : Nat → Nat} {n : Nat} : un (gM go) n 1000000000 = gM (un go n 80001) := by
  funext j
  by_cases h : j = n
  · rw [h, un_s]; simp [gM, un_s]
  · rw [un_n h]; simp [gM, un_n h]
theorem gM_k {go : Nat → Nat} {n k : Nat} (hk : k ≤ 80000) : un (gM go) n k = gM (un go n k) := by
  funext j
  by_cases h : j = n
  · rw [h, un_s]; simp [gM, un_s]; omega
  · rw [un_n h]; simp [gM, un_n h]
theorem gM_lt {go : Nat → Nat} {q : Nat} (h : go q ≤ 80001) : gM go q < 1000000000 ↔ go q ≠ 80001 := by
  unfold gM; split <;> omega
theorem gM_b {go : Nat → Nat} {q : Nat} (h : go q ≤ 80001) : gM go q ≤ 1000000000 := by
  unfold gM; split <;> omega
theorem gM_c {go : Nat → Nat} {q k : Nat} (h : go q ≤ 80001) (hk : k ≤ 80000) : k < gM go q ↔ k < go q := by
  unfold gM; split <;> omega
theorem gM_e {go : Nat → Nat} {q k : Nat} (h : go q ≤ 80001) (hk : k ≤ 80000) : gM go q ≤ k ↔ go q ≤ k := by
  unfold gM; split <;> omega
/-- the reference's clashes, out of the class's foes -/
def clM (fo : Nat → Nat) : Nat → Int32 := fun j => if (fo (j / 6)).testBit (j % 6) = true then 1 else 0
theorem clM_at {fo : Nat → Nat} {a b : Nat} (hb : b < 6) : clM fo (6 * a + b) = if (fo a).testBit b = true then 1 else 0 := by
  unfold clM
  rw [show (6 * a + b) / 6 = a by omega, show (6 * a + b) % 6 = b by omega]
theorem tb_x {x a b : Nat} : (x ^^^ 2 ^ a).testBit b = if b = a then !x.testBit b else x.testBit b := by
  rw [Nat.testBit_xor, Nat.testBit_two_pow]
  by_cases h : a = b
  · subst h; simp
  · simp [h, Ne.symm h, show ¬ b = a from fun q => h q.symm]
theorem clM_up {fo : Nat → Nat} {a b : Nat} {v : Int32} (hb : b < 6) (ha : a < 6) (hab : a ≠ b) (hs : (fo b).testBit a = (fo a).testBit b) (hv : v = if (fo a).testBit b = true then 0 else 1) :
    upd (upd (clM fo) (6 * a + b) v) (6 * b + a) v = clM (un (un fo a (fo a ^^^ 2 ^ b)) b (un fo a (fo a ^^^ 2 ^ b) b ^^^ 2 ^ a)) := by
  have e0 : un fo a (fo a ^^^ 2 ^ b) b = fo b := un_n (Ne.symm hab)
  rw [e0]
  funext j
  simp only [upd]
  by_cases h1 : j = 6 * b + a
  · rw [if_pos h1, h1, clM_at ha, un_s, tb_x, if_pos rfl, hs, hv]
    cases (fo a).testBit b <;> rfl
  · rw [if_neg h1]
    by_cases h2 : j = 6 * a + b
    · rw [if_pos h2, h2, clM_at hb, un_n hab, un_s, tb_x, if_pos rfl, hv]
      cases (fo a).testBit b <;> rfl
    · rw [if_neg h2]
      unfold clM
      by_cases h3 : j / 6 = b
      · rw [h3, un_s, tb_x, if_neg (show ¬ j % 6 = a by omega)]
      · rw [un_n h3]
        by_cases h4 : j / 6 = a
        · rw [h4, un_s, tb_x, if_neg (show ¬ j % 6 = b by omega)]
        · rw [un_n h4]
theorem k_n : (0 : Int32).toInt = 0 ∧ (5 : Int32).toInt = 5 ∧ (9 : Int32).toInt = 9 ∧ (50 : Int32).toInt = 50 ∧ (1500 : Int32).toInt = 1500 ∧ (1900 : Int32).toInt = 1900 ∧ (80000 : Int32).toInt = 80000 := ⟨rfl, rfl, rfl, rfl, rfl, rfl, rfl⟩
def spUi (ok : Prop) [Decidable ok] (f : Nat → Int32) (i : Nat) (v : Int32) : Nat → Int32 := if ok then upd f i v else f
theorem spUi_y {ok : Prop} [Decidable ok] {f : Nat → Int32} {i : Nat} {v : Int32} (h : ok) : spUi ok f i v = upd f i v := if_pos h
theorem spUi_n {ok : Prop} [Decidable ok] {f : Nat → Int32} {i : Nat} {v : Int32} (h : ¬ ok) : spUi ok f i v = f := if_neg h
theorem wrF_neg {v lo hi : Int32} (h : ¬ wrF v lo hi = 0) : (wrF v lo hi).toInt < 0 := by
  revert h; unfold wrF
  split
  · intro _; decide
  · split
    · intro _; decide
    · intro h; exact absurd rfl h
theorem wrF_r (v lo hi : Int32) (h : ¬ wrF v lo hi = 0) : v.toInt < lo.toInt ∨ hi.toInt < v.toInt := by
  unfold wrF at h
  split at h
  · omega
  · split at h
    · omega
    · exact absurd rfl h
