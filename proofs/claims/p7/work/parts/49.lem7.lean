/-- an array of small numbers -/
def nA (f : Nat → Nat) : Nat → Int32 := fun j => nI (f j)
def un (f : Nat → Nat) (i v : Nat) : Nat → Nat := fun j => if j = i then v else f j
theorem nA_u {f : Nat → Nat} {i v : Nat} {x : Int32} (e : x = nI v) : upd (nA f) i x = nA (un f i v) := by
  subst e
  funext j
  by_cases h : j = i <;> simp [upd, nA, un, h]
theorem un_s {f : Nat → Nat} {i v : Nat} : un f i v i = v := by simp [un]
theorem un_n {f : Nat → Nat} {i v j : Nat} (h : j ≠ i) : un f i v j = f j := by simp [un, h]
theorem un_lt {f : Nat → Nat} {i v N B : Nat} (hf : ∀ j, j < N → f j < B) (hv : v < B) : ∀ j, j < N → un f i v j < B := by
  intro j hj
  by_cases h : j = i
  · rw [h, un_s]; exact hv
  · rw [un_n h]; exact hf j hj
theorem nA_0 : (fun _ => 0 : Nat → Int32) = nA (fun _ => 0) := by funext j; rfl
/-- what a word means in the end -/
def rt (m : Nat → Nat) : Nat → Nat → Nat
  | 0, w => w
  | k + 1, w => if m w < w then rt m k (m w) else w
def root (m : Nat → Nat) (w : Nat) : Nat := rt m w w
theorem rt_ext (m : Nat → Nat) : ∀ k l w, w ≤ k → w ≤ l → rt m k w = rt m l w := by
  intro k
  induction k with
  | zero =>
    intro l w hk hl
    have : w = 0 := by omega
    subst this
    cases l with
    | zero => rfl
    | succ l => simp [rt]
  | succ k ih =>
    intro l w hk hl
    cases l with
    | zero =>
      have : w = 0 := by omega
      subst this
      simp [rt]
    | succ l =>
      by_cases h : m w < w
      · simp only [rt, if_pos h]; exact ih l (m w) (by omega) (by omega)
      · simp only [rt, if_neg h]
theorem root_st {m : Nat → Nat} {w : Nat} (h : m w < w) : root m w = root m (m w) := by
  unfold root
  cases w with
  | zero => omega
  | succ w =>
    rw [rt, if_pos h]
    exact rt_ext m w (m (w + 1)) (m (w + 1)) (by omega) (by omega)
theorem root_fix {m : Nat → Nat} {w : Nat} (h : ¬ m w < w) : root m w = w := by
  unfold root
  cases w with
  | zero => rfl
  | succ w => rw [rt, if_neg h]
theorem root_le (m : Nat → Nat) : ∀ w, root m w ≤ w := by
  intro w
  induction w using Nat.strongRecOn with
  | ind w ih =>
    by_cases h : m w < w
    · rw [root_st h]; have := ih (m w) h; omega
    · rw [root_fix h]; exact Nat.le_refl w
/-- only the cells from a to b may have changed -/
def rng (a b : Nat) (h h1 : List va_E) : Prop := h1.length = h.length ∧ ∀ j, j < a ∨ b < j → h1[j]? = h[j]?
theorem rng_rf (a b : Nat) (h : List va_E) : rng a b h h := ⟨rfl, fun _ _ => rfl⟩
theorem rng_set {a b i : Nat} {h h1 : List va_E} {c : va_E} (q : rng a b h h1) (h0 : a ≤ i) (h2 : i ≤ b) : rng a b h (h1.set i c) := ⟨by rw [List.length_set]; exact q.1, fun j hj => by rw [List.getElem?_set_ne (by omega)]; exact q.2 j hj⟩
theorem rng_tr {a b : Nat} {h h1 h2 : List va_E} (p : rng a b h h1) (q : rng a b h1 h2) : rng a b h h2 := ⟨q.1.trans p.1, fun j hj => (q.2 j hj).trans (p.2 j hj)⟩
theorem rng_w {a b c d : Nat} {h h1 : List va_E} (p : rng a b h h1) (h0 : c ≤ a) (h2 : b ≤ d) : rng c d h h1 := ⟨p.1, fun j hj => p.2 j (by omega)⟩
theorem rng_at {a b i : Nat} {h h1 : List va_E} {c : Option va_E} (p : rng a b h h1) (hi : i < a ∨ b < i) (e : h[i]? = c) : h1[i]? = c := (p.2 i hi).trans e
theorem ex1_rng {p : Nat} {h h1 : List va_E} (q : ex1 p h h1) : rng p p h h1 := ⟨q.1, fun j hj => q.2 j (by omega)⟩
/-- the senses of a set of words -/
def snF (se : Nat → Nat) (x : Int32) : Nat → Int32
  | 0 => 0
  | k + 1 => if (x >>> (nI k &&& 31)) &&& 1 = 0 then snF se x k else snF se x k ||| ((1 : Int32) <<< (nI (se k) &&& 31))
theorem snF_0 {se : Nat → Nat} {x : Int32} {k : Nat} (h : (x >>> (nI k &&& 31)) &&& 1 = 0) : snF se x (k + 1) = snF se x k := by simp [snF, h]
theorem snF_1 {se : Nat → Nat} {x : Int32} {k : Nat} (h : ¬ (x >>> (nI k &&& 31)) &&& 1 = 0) : snF se x (k + 1) = snF se x k ||| ((1 : Int32) <<< (nI (se k) &&& 31)) := by simp [snF, h]
theorem nv_div {x z : Int32} {a b : Nat} (h1 : x = nI a) (h2 : z = nI b) (ha : a < 2 ^ 31) (h0 : 0 < b) (hb : b < 2 ^ 31) : x / z = nI (a / b) := by rw [h1, h2]; exact pk_div ha h0 hb
theorem nv_rem {x z : Int32} {a b : Nat} (h1 : x = nI a) (h2 : z = nI b) (ha : a < 2 ^ 31) (h0 : 0 < b) (hb : b < 2 ^ 31) : x - x / z * z = nI (a % b) := by rw [h1, h2]; exact pk_rem ha h0 hb
/-- is a bar told -/
def barF (Ba : Nat → Int64) (e : Nat) (f : Int32) : Int32 := if lg_cmp ((Ba e >>> (f.toInt64 &&& 63)) &&& 1) 0 = 0 then 0 else 1
/-- whether a colour fades as it may, as the class reckons -/
def fadeC (ye : Nat → Nat) (Co : Nat → Int32) (fa e f : Nat) : Int32 :=
  if (if nI (ye (e / 10)) = nI (ye (f / 10)) then ¬ nI (f / 10) ≤ nI (e / 10) else ¬ nI (ye (f / 10)) ≤ nI (ye (e / 10))) then
    (if Co e - Co f < 0 then 0 else if (nI (ye (f / 10)) - nI (ye (e / 10))) * nI fa + 5 < Co e - Co f then 0 else 1)
  else (if Co f - Co e < 0 then 0 else if (nI (ye (e / 10)) - nI (ye (f / 10))) * nI fa + 5 < Co f - Co e then 0 else 1)
def apF (Z : Nat → Int32) (e f : Nat) : Int32 := if 0 ≤ Z e - Z f then Z e - Z f else 0 - (Z e - Z f)
def likeC (ye : Nat → Nat) (Sn Z Ro Co : Nat → Int32) (Ba : Nat → Int64) (sp fa e f : Nat) : Int32 :=
  if nI sp < apF Z e f then 0 else if Sn e &&& Sn f = 0 then 0 else if barF Ba e (nI f) = 0 then
    (if fadeC ye Co fa e f = 0 then 0 else
      let p0 := 10 * bcF (Sn e &&& Sn f) - 2 * bcF (Sn e ^^^ Sn f) - apF Z e f
      let p := if Ro e = Ro f then p0 + 7 else p0
      if 1 < p then p else 1)
  else 0
theorem nv_p1 {x : Int32} {a : Nat} (h1 : x = nI (a + 1)) : x - 1 = nI a := by rw [h1]; exact nI_pred a
theorem nv_d1 {x : Int32} {a : Nat} (h1 : x = nI (a + 1)) : x + Int32.ofInt (-1) = nI a := by rw [h1]; exact pk_m1 a
