abbrev lX (G : xG) (a b : Value) : List Value := [.ref (G.1 + 1), .ref (G.1 + 12), .ref (G.1 + 61), .ref (G.1 + 69), .ref (G.1 + 77), .ref (G.1 + 79), .ref (G.1 + 84), .ref (G.1 + 87), a, b]
theorem j_lt {x z : Int32} {a b : Int} (ha : x.toInt = a) (hb : z.toInt = b) : x < z ↔ a < b := by rw [i_lt, ha, hb]
theorem j_le {x z : Int32} {a b : Int} (ha : x.toInt = a) (hb : z.toInt = b) : x ≤ z ↔ a ≤ b := by rw [i_le, ha, hb]
theorem j_eq {x z : Int32} {a b : Int} (ha : x.toInt = a) (hb : z.toInt = b) : x = z ↔ a = b := by rw [i_eq, ha, hb]
def tn (x : Int32) : Nat := x.toInt.toNat
theorem tn_nI {a : Nat} (h : a < 2 ^ 31) : tn (nI a) = a := by unfold tn; rw [nI_toInt h]; simp
/-- what is wrong with two days -/
def dyF (d k : Int32) : Int32 := if d.toInt < 0 ∨ k.toInt < 0 then -4 else if 80000 < d.toInt ∨ 80000 < k.toInt then -6 else 0
theorem dyF_q (d k : Int32) : dyF d k = 0 ∨ ∃ q, q < 7 ∧ dyF d k = -(nI q) := by
  unfold dyF
  split
  · exact Or.inr ⟨4, by decide, by decide⟩
  · split
    · exact Or.inr ⟨6, by decide, by decide⟩
    · exact Or.inl rfl
theorem dyF_0 {d k : Int32} (h : dyF d k = 0) : 0 ≤ d.toInt ∧ d.toInt ≤ 80000 ∧ 0 ≤ k.toInt ∧ k.toInt ≤ 80000 := by
  unfold dyF at h
  split at h
  · exact absurd h (by decide)
  · split at h
    · exact absurd h (by decide)
    · omega
def wrF (v lo hi : Int32) : Int32 := if v.toInt < lo.toInt then -4 else if hi.toInt < v.toInt then -6 else 0
theorem wrF_q (v lo hi : Int32) : wrF v lo hi = 0 ∨ ∃ q, q < 7 ∧ wrF v lo hi = -(nI q) := by
  unfold wrF
  split
  · exact Or.inr ⟨4, by decide, by decide⟩
  · split
    · exact Or.inr ⟨6, by decide, by decide⟩
    · exact Or.inl rfl
theorem wrF_0 {v lo hi : Int32} (h : wrF v lo hi = 0) : lo.toInt ≤ v.toInt ∧ v.toInt ≤ hi.toInt := by
  unfold wrF at h
  split at h
  · exact absurd h (by decide)
  · split at h
    · exact absurd h (by decide)
    · omega
def shR (w : Int32) : Int32 := if w.toInt = 0 ∨ ¬ (0 ≤ w.toInt ∧ w.toInt < 4096) then -1 else if 8 < popN (tn w) then -6 else 0
theorem shR_q (w : Int32) : shR w = 0 ∨ ∃ q, q < 7 ∧ shR w = -(nI q) := by
  unfold shR
  split
  · exact Or.inr ⟨1, by decide, by decide⟩
  · split
    · exact Or.inr ⟨6, by decide, by decide⟩
    · exact Or.inl rfl
theorem shR_0 {w : Int32} (h : shR w = 0) : 0 < w.toInt ∧ w.toInt < 4096 ∧ popN (tn w) ≤ 8 := by
  unfold shR at h
  split at h
  · exact absurd h (by decide)
  · split at h
    · exact absurd h (by decide)
    · omega
theorem neg_nI {q : Nat} : -(-(nI q)) = nI q := by
  apply Int32.toBitVec_inj.mp
  show -(-(BitVec.ofNat 32 q)) = BitVec.ofNat 32 q
  exact BitVec.neg_neg
/-- the answers and the new data of the calls that change something -/
def spMeans (m : Nat → Nat) (w o : Int32) : Int32 × (Nat → Nat) :=
  if (0 ≤ w.toInt ∧ w.toInt < 20) ∧ (0 ≤ o.toInt ∧ o.toInt < 20) then (if w.toInt < o.toInt then (-4, m) else (nI (m (tn w)), un m (tn w) (tn o))) else (-1, m)
def spSense (m : Nat → Nat) (w : Int32) : Int32 := if 0 ≤ w.toInt ∧ w.toInt < 20 then nI (root m (tn w)) else -1
def spYear (ye : Nat → Nat) (c y : Int32) : Int32 × (Nat → Nat) :=
  if 0 ≤ c.toInt ∧ c.toInt < 4 then (if y.toInt < 1500 then (-4, ye) else if 1900 < y.toInt then (-6, ye) else (nI (ye (tn c)), un ye (tn c) (tn y))) else (-1, ye)
def spEntryC (fi : Nat → Nat) (c w s r u : Int32) : Int32 :=
  if (0 ≤ c.toInt ∧ c.toInt < 4) ∧ (0 ≤ w.toInt ∧ w.toInt < 1048576) then (if w.toInt = 0 ∨ s.toInt < 1 ∨ r.toInt < 0 ∨ u.toInt < 0 then -4 else if 200 < s.toInt ∨ 9 < r.toInt ∨ 99 < u.toInt ∨ 10 ≤ fi (tn c) then -6 else nI (fi (tn c))) else -1
def spUp (fi : Nat → Nat) (c : Int32) (ok : Prop) [Decidable ok] (f : Nat → Int32) (v : Int32) : Nat → Int32 := if ok then upd f (tn c * 10 + fi (tn c)) v else f
def spSet (sp fa : Nat) (q v : Int32) : Int32 × Nat × Nat :=
  if q.toInt = 0 ∨ q.toInt = 1 then (if v.toInt < 0 then (-4, sp, fa) else if (if q.toInt = 0 then 50 else 9) < v.toInt then (-6, sp, fa) else if q.toInt = 0 then (nI sp, tn v, fa) else (nI fa, sp, tn v)) else (-2, sp, fa)
def spPart (kd : Nat → Nat) (p k : Int32) : Int32 × (Nat → Nat) :=
  if 0 ≤ p.toInt ∧ p.toInt < 10 then (if k.toInt < 0 then (-4, kd) else if 6 ≤ k.toInt then (-6, kd) else (nI (kd (tn p)), un kd (tn p) (tn k))) else (-1, kd)
