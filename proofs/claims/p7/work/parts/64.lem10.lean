abbrev lSh (G : xG) (S : Nat) (a b c d e : Int32) : List Value := [.ref (G.1 + (S + 1)), .ref (G.1 + (S + 2)), .ref (G.1 + (S + 3)), .ref (G.1 + (S + 4)), .ref (G.1 + (S + 5)), .ref (G.1 + (S + 6)), .ref (G.1 + (S + 7)), .ref (G.1 + (S + 8)), .ref (G.1 + (S + 9)), .int a, .int b, .int c, .int d, .int e]
/-- the things of a shelf: how many, which, their places -/
def rtF (st : Nat) (tg : Nat → Int32) (po : Nat → Nat) : Nat → Nat × (Nat → Int32) × (Nat → Nat)
  | 0 => (0, tg, po)
  | a + 1 => if st.testBit a = true ∧ (rtF st tg po a).1 < 8 then ((rtF st tg po a).1 + 1, upd (rtF st tg po a).2.1 (rtF st tg po a).1 (nI a), un (rtF st tg po a).2.2 a (rtF st tg po a).1) else rtF st tg po a
theorem rtF_s {st : Nat} {tg : Nat → Int32} {po : Nat → Nat} {a : Nat} : rtF st tg po (a + 1) = if st.testBit a = true ∧ (rtF st tg po a).1 < 8 then ((rtF st tg po a).1 + 1, upd (rtF st tg po a).2.1 (rtF st tg po a).1 (nI a), un (rtF st tg po a).2.2 a (rtF st tg po a).1) else rtF st tg po a := rfl
theorem rtF_ok {st : Nat} {tg : Nat → Int32} {po : Nat → Nat} (hp : ∀ j, j < 12 → po j < 8) : ∀ a, (rtF st tg po a).1 ≤ 8 ∧ ∀ j, j < 12 → (rtF st tg po a).2.2 j < 8 := by
  intro a
  induction a with
  | zero => exact ⟨Nat.zero_le _, hp⟩
  | succ a ih =>
    rw [rtF_s]
    split
    · refine ⟨?_, un_lt ih.2 ?_⟩ <;> first | omega | (dsimp only; omega)
    · exact ih
abbrev trT : Type := (Nat → Int32) × (Nat → Int32) × (Nat → Int32) × (Nat → Int32)
/-- a word's trust: left of, beside, left end, right end -/
def atF (s o k : Nat) (t : Int32) (T : trT) : trT :=
  if s = 0 then (upd T.1 (o * 8 + k) (T.1 (o * 8 + k) + t), T.2.1, T.2.2.1, T.2.2.2)
  else if s = 1 then (T.1, upd (upd T.2.1 (o * 8 + k) (T.2.1 (o * 8 + k) + t)) (k * 8 + o) (upd T.2.1 (o * 8 + k) (T.2.1 (o * 8 + k) + t) (k * 8 + o) + t), T.2.2.1, T.2.2.2)
  else if s = 2 then (T.1, T.2.1, upd T.2.2.1 o (T.2.2.1 o + t), T.2.2.2)
  else (T.1, T.2.1, T.2.2.1, upd T.2.2.2 o (T.2.2.2 o + t))
/-- the total and the trusts of the first words of a shelf -/
def twF (st : Nat) (so x y tr : Nat → Nat) (po : Nat → Nat) (T : trT) : Nat → Int32 × trT
  | 0 => (0, T)
  | a + 1 => if st.testBit (x a) = true ∧ st.testBit (y a) = true then ((twF st so x y tr po T a).1 + nI (tr a), atF (so a) (po (x a)) (po (y a)) (nI (tr a)) (twF st so x y tr po T a).2) else twF st so x y tr po T a
theorem twF_s {st : Nat} {so x y tr po : Nat → Nat} {T : trT} {a : Nat} : twF st so x y tr po T (a + 1) = if st.testBit (x a) = true ∧ st.testBit (y a) = true then ((twF st so x y tr po T a).1 + nI (tr a), atF (so a) (po (x a)) (po (y a)) (nI (tr a)) (twF st so x y tr po T a).2) else twF st so x y tr po T a := rfl
def gbF (le re : Nat → Int32) (sz st nx : Nat) : Int32 :=
  if st ||| 2 ^ nx = 2 ^ sz - 1 then (if st = 0 then le nx else 0) + re nx else (if st = 0 then le nx else 0)
/-- what a thing brings if it comes next -/
def glF (le re lf : Nat → Int32) (sz st nx : Nat) : Nat → Int32
  | 0 => gbF le re sz st nx
  | i + 1 => if st.testBit i = true then glF le re lf sz st nx i + lf (i * 8 + nx) else glF le re lf sz st nx i
def gaF (le re lf : Nat → Int32) (sz st : Nat) (gn : Nat → Int32) : Nat → Nat → Int32
  | 0 => gn
  | a + 1 => upd (gaF le re lf sz st gn a) a (glF le re lf sz st a sz)
def vaF (gn bs be : Nat → Int32) (st la nx : Nat) : Int32 := if st = 0 then gn nx + bs ((st ||| 2 ^ nx) * 8 + nx) else gn nx + bs ((st ||| 2 ^ nx) * 8 + nx) + be (la * 8 + nx)
def wsF (gn bs be : Nat → Int32) (st la : Nat) : Nat → Int32
  | 0 => 0
  | i + 1 => if st.testBit i = true then wsF gn bs be st la i else if wsF gn bs be st la i < vaF gn bs be st la i then vaF gn bs be st la i else wsF gn bs be st la i
def fbF (gn bs be : Nat → Int32) (st la : Nat) (mo : Int32) : Nat → Nat → Nat
  | 0, _ => 0
  | f + 1, i => if st.testBit i = true then fbF gn bs be st la mo f (i + 1) else if vaF gn bs be st la i = mo then i else fbF gn bs be st la mo f (i + 1)
theorem fbF_lt {gn bs be : Nat → Int32} {st la : Nat} {mo : Int32} : ∀ f i, fbF gn bs be st la mo f i = 0 ∨ fbF gn bs be st la mo f i < i + f
  | 0, _ => Or.inl rfl
  | f + 1, i => by
    have q := fbF_lt (gn := gn) (bs := bs) (be := be) (st := st) (la := la) (mo := mo) f (i + 1)
    simp only [fbF]
    split
    · omega
    · split <;> omega
theorem or_lt8' {a b : Nat} (ha : a < 256) (hb : b < 8) : (a ||| 2 ^ b) * 8 + b < 2048 := by have := or_lt8 ha hb; omega
def wlF (gn be : Nat → Int32) (sz st : Nat) (bs : Nat → Int32) : Nat → Nat → Int32
  | 0 => bs
  | i + 1 => if st.testBit i = true then upd (wlF gn be sz st bs i) (st * 8 + i) (wsF gn (wlF gn be sz st bs i) be st i sz) else wlF gn be sz st bs i
/-- best and gains, the states from w down to 1 -/
def wtF (le re lf be : Nat → Int32) (sz : Nat) : Nat → (Nat → Int32) × (Nat → Int32) → (Nat → Int32) × (Nat → Int32)
  | 0, T => T
  | w + 1, T => wtF le re lf be sz w (wlF (gaF le re lf sz (w + 1) T.2 sz) be sz (w + 1) T.1 sz, gaF le re lf sz (w + 1) T.2 sz)
def wzF (w : Nat) (bs : Nat → Int32) : Nat → Nat → Int32
  | 0 => bs
  | i + 1 => upd (wzF w bs i) (w * 8 + i) 0
/-- the row told: standing, last, gains, told -/
def trF (le re lf be bs tg : Nat → Int32) (sz : Nat) (gn to : Nat → Int32) : Nat → Nat × Nat × (Nat → Int32) × (Nat → Int32)
  | 0 => (0, 0, gn, to)
  | a + 1 =>
    let s := trF le re lf be bs tg sz gn to a
    let g := gaF le re lf sz s.1 s.2.2.1 sz
    let k := fbF g bs be s.1 s.2.1 (wsF g bs be s.1 s.2.1 sz) sz 0
    (s.1 ||| 2 ^ k, k, g, upd s.2.2.2 a (tg k))
theorem trF_ok {le re lf be bs tg : Nat → Int32} {sz : Nat} {gn to : Nat → Int32} (hs : sz ≤ 8) (h0 : 0 < sz) : ∀ a, (trF le re lf be bs tg sz gn to a).1 < 256 ∧ (trF le re lf be bs tg sz gn to a).2.1 < 8 := by
  intro a
  induction a with
  | zero => exact ⟨by simp [trF], by simp [trF]⟩
  | succ a ih =>
    simp only [trF]
    have q := fbF_lt (gn := gaF le re lf sz (trF le re lf be bs tg sz gn to a).1 (trF le re lf be bs tg sz gn to a).2.2.1 sz) (bs := bs) (be := be) (st := (trF le re lf be bs tg sz gn to a).1) (la := (trF le re lf be bs tg sz gn to a).2.1) (mo := wsF (gaF le re lf sz (trF le re lf be bs tg sz gn to a).1 (trF le re lf be bs tg sz gn to a).2.2.1 sz) bs be (trF le re lf be bs tg sz gn to a).1 (trF le re lf be bs tg sz gn to a).2.1 sz) sz 0
    exact ⟨or_lt8 ih.1 (by omega), by omega⟩
theorem pw8 : ∀ p, p ≤ 8 → 2 ^ p ≤ 256 ∧ 1 ≤ 2 ^ p := by decide
theorem up_all {f : Nat → Int32} {k : Nat} {v : Int32} (h : ∀ j, j < k → f j = v) : ∀ j, j < k + 1 → upd f k v j = v := by
  intro j hj
  by_cases e : j = k
  · rw [e]; simp [upd]
  · simp only [upd, if_neg e]; exact h j (by omega)
theorem pw2 : ∀ p, p ≤ 8 → 0 < p → 2 ≤ 2 ^ p := by decide
