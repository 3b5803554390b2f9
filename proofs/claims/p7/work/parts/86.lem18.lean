/-- the greatest of what the things bring that stand not yet -/
def mxF (g : Nat → Nat) (p : Nat) : Nat → Nat
  | 0 => 0
  | k + 1 => if p.testBit k = true then mxF g p k else max (mxF g p k) (g k)
theorem mxF_c {g g' : Nat → Nat} {p : Nat} : ∀ n, (∀ k, k < n → ¬ p.testBit k = true → g k = g' k) → mxF g p n = mxF g' p n := by
  intro n
  induction n with
  | zero => intro _; rfl
  | succ n ih =>
    intro h
    simp only [mxF]
    rw [ih (fun k hk => h k (by omega))]
    split
    · rfl
    · rw [h n (by omega) (by assumption)]
theorem mxF_le {g : Nat → Nat} {p B : Nat} (h : ∀ k, g k ≤ B) : ∀ n, mxF g p n ≤ B := by
  intro n
  induction n with
  | zero => exact Nat.zero_le _
  | succ n ih =>
    have q := h n
    simp only [mxF]
    split <;> omega
theorem mxF_0 {g : Nat → Nat} {p : Nat} : ∀ n, (∀ k, k < n → p.testBit k = true) → mxF g p n = 0 := by
  intro n
  induction n with
  | zero => intro _; rfl
  | succ n ih =>
    intro h
    simp only [mxF]
    rw [if_pos (h n (by omega))]
    exact ih (fun k hk => h k (by omega))
theorem mxF_at {g : Nat → Nat} {p : Nat} : ∀ n, (∃ k, k < n ∧ ¬ p.testBit k = true) → ∃ k, k < n ∧ ¬ p.testBit k = true ∧ g k = mxF g p n := by
  intro n
  induction n with
  | zero => rintro ⟨k, hk, _⟩; omega
  | succ n ih =>
    rintro ⟨k, hk, hb⟩
    simp only [mxF]
    by_cases q : p.testBit n = true
    · rw [if_pos q]
      have hn : k ≠ n := fun e => hb (by rw [e]; exact q)
      obtain ⟨j, h1, h2, h3⟩ := ih ⟨k, by omega, hb⟩
      exact ⟨j, by omega, h2, h3⟩
    · rw [if_neg q]
      by_cases c : mxF g p n ≤ g n
      · exact ⟨n, by omega, q, by omega⟩
      · by_cases e : ∃ k, k < n ∧ ¬ p.testBit k = true
        · obtain ⟨j, h1, h2, h3⟩ := ih e
          exact ⟨j, by omega, h2, by omega⟩
        · have z : mxF g p n = 0 := mxF_0 n (fun k hk => Classical.byContradiction (fun b => e ⟨k, hk, b⟩))
          omega
theorem or_gt {p k : Nat} (h : ¬ p.testBit k = true) : p < p ||| 2 ^ k := by
  have a : p ≤ p ||| 2 ^ k := Nat.left_le_or
  rcases Nat.lt_or_ge p (p ||| 2 ^ k) with q | q
  · exact q
  · have e : p ||| 2 ^ k = p := Nat.le_antisymm q a
    exfalso
    apply h
    rw [← e, Nat.testBit_or, Nat.testBit_two_pow_self]
    simp
theorem or_ps {p k s : Nat} (h : p < 2 ^ s) (hk : k < s) : p ||| 2 ^ k < 2 ^ s := Nat.or_lt_two_pow h (Nat.pow_lt_pow_right (by decide) hk)
theorem allbit {p s k : Nat} (h : p = 2 ^ s - 1) (hk : k < s) : p.testBit k = true := by rw [h, pw_b]; simpa using hk
/-- the most that the rest can bring: fuel, what stands, the last one's place and one more -/
def rsF (g : Nat → Nat → Nat → Nat) (sh : Nat) : Nat → Nat → Nat → Nat
  | 0, _, _ => 0
  | f + 1, p, L => mxF (fun k => g p L k + rsF g sh f (p ||| 2 ^ k) (k + 1)) p sh
theorem rsF_le {g : Nat → Nat → Nat → Nat} {sh : Nat} (hg : ∀ p L k, g p L k ≤ 360) : ∀ f p L, rsF g sh f p L ≤ 360 * f := by
  intro f
  induction f with
  | zero => intro p L; exact Nat.le_refl _
  | succ f ih =>
    intro p L
    simp only [rsF]
    apply mxF_le
    intro k
    have a := hg p L k
    have b := ih (p ||| 2 ^ k) (k + 1)
    omega
theorem rsF_all {g : Nat → Nat → Nat → Nat} {sh f p L : Nat} (h : p = 2 ^ sh - 1) : rsF g sh f p L = 0 := by
  cases f with
  | zero => rfl
  | succ f => simp only [rsF]; exact mxF_0 sh (fun k hk => allbit h hk)
theorem rsF_e {g : Nat → Nat → Nat → Nat} {sh : Nat} : ∀ f f' p L, p < 2 ^ sh → 2 ^ sh ≤ p + f + 1 → 2 ^ sh ≤ p + f' + 1 → rsF g sh f p L = rsF g sh f' p L := by
  intro f
  induction f with
  | zero => intro f' p L h1 h2 h3; rw [rsF_all (f := f') (by omega)]; rfl
  | succ f ih =>
    intro f' p L h1 h2 h3
    cases f' with
    | zero => rw [rsF_all (f := f + 1) (by omega)]; rfl
    | succ f' =>
      simp only [rsF]
      apply mxF_c
      intro k hk hb
      have a := or_gt hb
      have b := or_ps (k := k) h1 hk
      rw [ih f' (p ||| 2 ^ k) (k + 1) b (by omega) (by omega)]
def gS (st : Nat) (so xx yy tr tg : Nat → Nat) (sh nv : Nat) : Nat → Nat → Nat → Nat := fun p L k => wnF st so xx yy tr tg sh p L k nv
def RS (st : Nat) (so xx yy tr tg : Nat → Nat) (sh nv p L : Nat) : Nat := rsF (gS st so xx yy tr tg sh nv) sh 256 p L
def vS (st : Nat) (so xx yy tr tg : Nat → Nat) (sh nv p L : Nat) : Nat → Nat := fun k => wnF st so xx yy tr tg sh p L k nv + RS st so xx yy tr tg sh nv (p ||| 2 ^ k) (k + 1)
section SV
variable {st : Nat} {so xx yy tr tg : Nat → Nat} {sh nv p L : Nat}
theorem RS_le (ht : ∀ j, j < 40 → tr j ≤ 9) (hn : nv ≤ 40) : RS st so xx yy tr tg sh nv p L ≤ 92160 :=
  rsF_le (fun p L k => by have a := wnF_le (st := st) (so := so) (xx := xx) (yy := yy) (tg := tg) (sh := sh) (p := p) (L := L) (nx := k) ht nv hn; unfold gS; omega) 256 p L
theorem vS_le (ht : ∀ j, j < 40 → tr j ≤ 9) (hn : nv ≤ 40) (k : Nat) : vS st so xx yy tr tg sh nv p L k ≤ 92520 := by
  have a := wnF_le (st := st) (so := so) (xx := xx) (yy := yy) (tg := tg) (sh := sh) (p := p) (L := L) (nx := k) ht nv hn
  have b := RS_le (st := st) (so := so) (xx := xx) (yy := yy) (tg := tg) (sh := sh) (p := p ||| 2 ^ k) (L := k + 1) ht hn
  unfold vS; omega
theorem RS_s (hs : sh ≤ 8) (hp : p < 2 ^ sh) : RS st so xx yy tr tg sh nv p L = mxF (vS st so xx yy tr tg sh nv p L) p sh := by
  have pw := pw8 sh hs
  show mxF _ p sh = _
  apply mxF_c
  intro k hk hb
  have a := or_gt hb
  have b := or_ps (k := k) hp hk
  show gS st so xx yy tr tg sh nv p L k + rsF _ sh 255 (p ||| 2 ^ k) (k + 1) = wnF st so xx yy tr tg sh p L k nv + rsF _ sh 256 (p ||| 2 ^ k) (k + 1)
  rw [rsF_e 255 256 (p ||| 2 ^ k) (k + 1) b (by omega) (by omega)]
  rfl
theorem ex_clr0 : ∀ s, s < 9 → ∀ p, p < 256 → p < 2 ^ s - 1 → ∃ j, j < s ∧ ¬ p.testBit j = true := by decide +kernel
theorem ex_clr {s p : Nat} (hs : s ≤ 8) (hp : p < 2 ^ s - 1) : ∃ j, j < s ∧ ¬ p.testBit j = true := ex_clr0 s (by omega) p (by have := pw8 s hs; omega) hp
theorem RS_at (hs : sh ≤ 8) (hp : p < 2 ^ sh - 1) : ∃ k, k < sh ∧ ¬ p.testBit k = true ∧ vS st so xx yy tr tg sh nv p L k = RS st so xx yy tr tg sh nv p L := by
  have pw := pw8 sh hs
  rw [RS_s hs (by omega)]
  exact mxF_at sh (ex_clr hs hp)
theorem rs_up {rs : Nat → Int32} {v : Int32} (hR : ∀ q M, ((p < q ∧ q < 2 ^ sh) ∨ (q = p ∧ M < L)) → M ≤ sh → rs (9 * q + M) = nI (RS st so xx yy tr tg sh nv q M)) (hs : sh ≤ 8) (hL : L ≤ sh) (hv : v = nI (RS st so xx yy tr tg sh nv p L)) :
    ∀ q M, ((p < q ∧ q < 2 ^ sh) ∨ (q = p ∧ M < L + 1)) → M ≤ sh → upd rs (9 * p + L) v (9 * q + M) = nI (RS st so xx yy tr tg sh nv q M) := by
  intro q M h hM
  by_cases e : 9 * q + M = 9 * p + L
  · have e1 : q = p := by omega
    have e2 : M = L := by omega
    subst e1; subst e2
    simp only [upd, if_pos]; exact hv
  · simp only [upd, if_neg e]
    exact hR q M (by omega) hM
end SV
theorem mx_neg {v : Nat} (h : v < 2 ^ 31) : (if (-1 : Int32) < nI v then nI v else -1) = nI v := by
  rw [if_pos]
  rw [i_lt, nI_toInt h]
  show (-1 : Int) < (v : Int)
  omega
theorem nI_mp {a : Nat} : nI a + (-1) + 1 = nI a := by
  rw [Int32.add_assoc]
  show nI a + ((-1) + 1) = nI a
  rw [show (-1 : Int32) + 1 = 0 from by decide]
  simp
theorem allb_s {p k : Nat} (h : ∀ j, j < k → p.testBit j = true) (hk : p.testBit k = true) : ∀ j, j < k + 1 → p.testBit j = true := by
  intro j hj
  by_cases e : j = k
  · rw [e]; exact hk
  · exact h j (by omega)
theorem pop_or0 : ∀ p, p < 256 → ∀ k, k < 8 → ¬ p.testBit k = true → popN (p ||| 2 ^ k) = popN p + 1 := by decide +kernel
theorem pop_all0 : ∀ s, s < 9 → popN (2 ^ s - 1) = s := by decide +kernel
/-- the first thing that brings the most -/
def fsF (v : Nat → Nat) (p m : Nat) : Nat → Nat → Nat
  | 0, i => i
  | f + 1, i => if p.testBit i = true then fsF v p m f (i + 1) else if v i = m then i else fsF v p m f (i + 1)
theorem fsF_is {v : Nat → Nat} {p m k : Nat} (hb : ¬ p.testBit k = true) (hv : v k = m) : ∀ f i, (∀ j, i ≤ j → j < k → p.testBit j = true ∨ v j ≠ m) → i ≤ k → k < i + f → fsF v p m f i = k := by
  intro f
  induction f with
  | zero => intro i _ h1 h2; omega
  | succ f ih =>
    intro i h h1 h2
    simp only [fsF]
    by_cases e : i = k
    · rw [e, if_neg hb, if_pos hv]
    · have n := ih (i + 1) (fun j hj hk => h j (by omega) hk) (by omega) (by omega)
      rcases h i (Nat.le_refl _) (by omega) with q | q
      · rw [if_pos q]; exact n
      · by_cases c : p.testBit i = true
        · rw [if_pos c]; exact n
        · rw [if_neg c, if_neg q]; exact n
/-- the row told: what stands, the last one's place and one more, the row -/
def rwF (st : Nat) (so xx yy tr tg : Nat → Nat) (sh nv : Nat) (rw0 : Nat → Int32) : Nat → Nat × Nat × (Nat → Int32)
  | 0 => (0, 0, rw0)
  | n + 1 =>
    let s := rwF st so xx yy tr tg sh nv rw0 n
    let k := fsF (vS st so xx yy tr tg sh nv s.1 s.2.1) s.1 (RS st so xx yy tr tg sh nv s.1 s.2.1) sh 0
    (s.1 ||| 2 ^ k, k + 1, upd s.2.2 n (nI (tg k)))
theorem fst_s {v : Nat → Nat} {p m k : Nat} (h : ∀ j, 0 ≤ j → j < k → p.testBit j = true ∨ v j ≠ m) (hk : p.testBit k = true ∨ v k ≠ m) : ∀ j, 0 ≤ j → j < k + 1 → p.testBit j = true ∨ v j ≠ m := by
  intro j h0 hj
  by_cases e : j = k
  · rw [e]; exact hk
  · exact h j h0 (by omega)
