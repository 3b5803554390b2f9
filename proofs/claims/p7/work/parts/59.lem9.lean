theorem cm_ofQ {l : Launch} {G : xG} {y : MethodName} {cc : ByteArray} {nL : Nat} {ret : Option FieldType} {d mc ms : Nat} {av : List Value} {h : List va_E} {post : Option Value → List va_E → Prop} (hy : plainName y.cls = true) (hl : (lg_sl av).length ≤ nL) (lv : List (Nat × Value)) (hlv : lv_args 0 av = lv)
    (W0 : ∀ QF, QF = xQ G mc ms post → AW l G y cc nL ret (xR d mc ms) (fun _ _ => True) QF 0 0 0 lv [] h) : CM l G y cc nL ret d mc ms av h post := cm_of hy hl lv hlv (W0 _ rfl)
theorem ite_0 {P : Prop} [Decidable P] (h : (if P then (1 : Int32) else 0) = 0) : ¬ P := fun p => by rw [if_pos p] at h; exact absurd h (by decide)
theorem ite_1 {P : Prop} [Decidable P] (h : ¬ (if P then (1 : Int32) else 0) = 0) : P := Classical.byContradiction (fun p => h (if_neg p))
theorem ite_1e {P : Prop} [Decidable P] (h : (if P then (1 : Int32) else 0) = 1) : P := Classical.byContradiction (fun p => by rw [if_neg p] at h; exact absurd h (by decide))
theorem ite_0e {P : Prop} [Decidable P] (h : ¬ (if P then (1 : Int32) else 0) = 1) : ¬ P := fun p => h (if_pos p)
theorem nv_dm {x : Int32} {a : Nat} (h1 : x = nI a) (h0 : 0 < a) : x + Int32.ofInt (-1) = nI (a - 1) := by
  rw [h1]; have e : a = (a - 1) + 1 := by omega
  rw [e]; exact pk_m1 (a - 1)
theorem nv_shr {x z : Int32} {a i : Nat} (h1 : x = nI a) (h2 : z = nI i) (ha : a < 2 ^ 31) (hi : i < 31) : x >>> (z &&& 31) = nI (a / 2 ^ i) := by
  rw [h1, h2]; exact pk_shrN ha (nI i &&& 31) i (sh_n i (by omega))
theorem nv_or {x z : Int32} {a b : Nat} (h1 : x = nI a) (h2 : z = nI b) : x ||| z = nI (a ||| b) := by rw [h1, h2, nn_or]
theorem nv_and {x z : Int32} {a b : Nat} (h1 : x = nI a) (h2 : z = nI b) : x &&& z = nI (a &&& b) := by rw [h1, h2, nn_and]
theorem nv_xor {x z : Int32} {a b : Nat} (h1 : x = nI a) (h2 : z = nI b) : x ^^^ z = nI (a ^^^ b) := by
  rw [h1, h2]
  apply Int32.toBitVec_inj.mp
  show BitVec.ofNat 32 a ^^^ BitVec.ofNat 32 b = BitVec.ofNat 32 (a ^^^ b)
  apply BitVec.eq_of_getLsbD_eq
  intro i hi
  simp [hi]
abbrev aI (n : Nat) (f : Nat → Int32) : va_E := .inl (0, n, .inl f)
abbrev aZ (n : Nat) (f : Nat → Int32) : va_E := .inl (2, n, .inl f)
abbrev aL (n : Nat) (f : Nat → Int64) : va_E := .inl (1, n, .inr (.inl f))
abbrev aR (n : Nat) (f : Nat → Option Nat) : va_E := .inl (3, n, .inr (.inr (.inr (.inr f))))
abbrev oB (c : Nat) (fs : List Value) : va_E := .inr (c, fs)
abbrev lC (G : xG) (a b c d : Int32) : List Value := [.ref (G.1 + 2), .ref (G.1 + 3), .ref (G.1 + 4), .ref (G.1 + 5), .ref (G.1 + 6), .ref (G.1 + 7), .ref (G.1 + 8), .ref (G.1 + 9), .ref (G.1 + 10), .ref (G.1 + 11), .int a, .int b, .int c, .int d]
abbrev lR (G : xG) (r : Nat) (a b : Int32) : List Value := [.ref (G.1 + (r + 1)), .ref (G.1 + (r + 2)), .ref (G.1 + (r + 3)), .ref (G.1 + (r + 4)), .ref (G.1 + (r + 5)), .ref (G.1 + (r + 6)), .ref (G.1 + (r + 7)), .int a, .int b]
abbrev lH (G : xG) (a b c d : Int32) : List Value := [.ref (G.1 + 78), .int a, .int b, .int c, .int d]
abbrev lS (G : xG) (a : Int32) : List Value := [.ref (G.1 + 80), .ref (G.1 + 81), .ref (G.1 + 82), .ref (G.1 + 83), .int a]
abbrev lB (G : xG) (a : Int32) : List Value := [.ref (G.1 + 85), .ref (G.1 + 86), .int a]
