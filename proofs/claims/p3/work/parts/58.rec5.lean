def lcF (th kn go : Nat → Nat) (t k : Nat) : Nat → Nat
  | 0 => 0
  | a + 1 => if th a = t then max (max (lcF th kn go t k a) (if kn a ≤ k then kn a else 0)) (if go a ≤ k then go a else 0) else lcF th kn go t k a
theorem lcF_s {th kn go : Nat → Nat} {t k a : Nat} : lcF th kn go t k (a + 1) = if th a = t then max (max (lcF th kn go t k a) (if kn a ≤ k then kn a else 0)) (if go a ≤ k then go a else 0) else lcF th kn go t k a := rfl
theorem lcF_le {th kn go : Nat → Nat} {t k : Nat} : ∀ a, lcF th kn go t k a ≤ k := by
  intro a
  induction a with
  | zero => exact Nat.zero_le _
  | succ a ih =>
    rw [lcF_s]
    repeat' split
    all_goals omega
