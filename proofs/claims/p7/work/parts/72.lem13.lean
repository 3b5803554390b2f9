theorem spUp_y {fi : Nat → Nat} {c : Int32} {ok : Prop} [Decidable ok] {f : Nat → Int32} {v : Int32} (h : ok) : spUp fi c ok f v = upd f (tn c * 10 + fi (tn c)) v := if_pos h
theorem spUp_n {fi : Nat → Nat} {c : Int32} {ok : Prop} [Decidable ok] {f : Nat → Int32} {v : Int32} (h : ¬ ok) : spUp fi c ok f v = f := if_neg h
def spUn (ok : Prop) [Decidable ok] (f : Nat → Nat) (i v : Nat) : Nat → Nat := if ok then un f i v else f
theorem spUn_y {ok : Prop} [Decidable ok] {f : Nat → Nat} {i v : Nat} (h : ok) : spUn ok f i v = un f i v := if_pos h
theorem spUn_n {ok : Prop} [Decidable ok] {f : Nat → Nat} {i v : Nat} (h : ¬ ok) : spUn ok f i v = f := if_neg h
def spN (ok : Prop) [Decidable ok] (n m : Nat) : Nat := if ok then m else n
theorem spN_y {ok : Prop} [Decidable ok] {n m : Nat} (h : ok) : spN ok n m = m := if_pos h
theorem spN_n {ok : Prop} [Decidable ok] {n m : Nat} (h : ¬ ok) : spN ok n m = n := if_neg h
def spClashF (fo : Nat → Nat) (a b : Int32) (on : Bool) : Int32 × (Nat → Nat) :=
  if a.toInt < 0 ∨ b.toInt < 0 then (-4, fo) else if 6 ≤ a.toInt ∨ 6 ≤ b.toInt then (-6, fo) else if a.toInt = b.toInt then (-3, fo)
  else if (fo (tn a)).testBit (tn b) = on then (0, fo) else (1, un (un fo (tn a) (fo (tn a) ^^^ 2 ^ tn b)) (tn b) (un fo (tn a) (fo (tn a) ^^^ 2 ^ tn b) (tn b) ^^^ 2 ^ tn a))
def spVis (n : Nat) (s x y t : Int32) : Int32 :=
  if ¬ (0 ≤ s.toInt ∧ s.toInt < 4) then -2 else if ¬ (0 ≤ x.toInt ∧ x.toInt < 12) ∨ (s.toInt < 2 ∧ (¬ (0 ≤ y.toInt ∧ y.toInt < 12) ∨ x.toInt = y.toInt)) then -1
  else if t.toInt < 1 then -4 else if 9 < t.toInt ∨ 40 ≤ n then -6 else nI n
def spSight (n : Nat) (t p d k : Int32) : Int32 :=
  if ¬ ((0 ≤ t.toInt ∧ t.toInt < 12) ∧ (0 ≤ p.toInt ∧ p.toInt < 8)) then -1 else if dyF d k ≠ 0 then dyF d k else if 60 ≤ n then -6 else nI n
def spMove (n : Nat) (t p d s k : Int32) : Int32 :=
  if ¬ ((0 ≤ t.toInt ∧ t.toInt < 12) ∧ (0 ≤ p.toInt ∧ p.toInt < 8)) then -1 else if ¬ (0 ≤ s.toInt ∧ s.toInt < 5) then -2 else if dyF d k ≠ 0 then dyF d k else if 60 ≤ n then -6 else nI n
/-- taking back: the records' number, their known days, whether each is gone -/
def spBack (n : Nat) (kn go : Nat → Nat) (q k : Int32) : Int32 :=
  if ¬ (0 ≤ q.toInt ∧ q.toInt < (n : Int)) then -1 else if go (tn q) ≠ 80001 then -3 else if k.toInt < (kn (tn q) : Int) then -4 else if 80000 < k.toInt then -6 else 1
theorem dyF_neg {d k : Int32} (h : ¬ dyF d k = 0) : (dyF d k).toInt < 0 := by
  revert h; unfold dyF
  split
  · intro _; decide
  · split
    · intro _; decide
    · intro h; exact absurd rfl h
