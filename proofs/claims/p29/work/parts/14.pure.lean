/-- a contract with one answer and one heap behind it -/
def CD (l : Launch) (G : xG) (y : MethodName) (cc : ByteArray) (nL : Nat) (ret : Option FieldType) (d mc ms : Nat) (av : List Value) (h : List va_E) (r : Option Value) (h1 : List va_E) : Prop :=
  CM l G y cc nL ret d mc ms av h (fun v h2 => v = r ∧ h2 = h1)
theorem gn {h : List va_E} {i j : Nat} {c c1 : va_E} (hij : i ≠ j) (e : h[i]? = some c) : (h.set j c1)[i]? = some c := by
  rw [List.getElem?_set_ne (Ne.symm hij)]; exact e
theorem gs {h : List va_E} {i : Nat} {c c1 : va_E} (e : h[i]? = some c) : (h.set i c1)[i]? = some c1 := by
  have hl : i < h.length := (List.getElem?_eq_some_iff.mp e).1
  rw [List.getElem?_set_self hl]
theorem ga {h : List va_E} {i : Nat} {c c1 : va_E} (e : h[i]? = some c) : (h ++ [c1])[i]? = some c := by
  have hl : i < h.length := (List.getElem?_eq_some_iff.mp e).1
  rw [List.getElem?_append_left hl]; exact e
theorem gp {h : List va_E} {i : Nat} {c1 : va_E} (e : h.length = i) : (h ++ [c1])[i]? = some c1 := by
  subst e; simp
theorem nv_add {x z : Int32} {a b : Nat} (h1 : x = nI a) (h2 : z = nI b) : x + z = nI (a + b) := by rw [h1, h2, nI_add]
theorem nv_mul {x z : Int32} {a b : Nat} (h1 : x = nI a) (h2 : z = nI b) : x * z = nI (a * b) := by rw [h1, h2, pk_mul]
theorem nv_sub {x z : Int32} {a b : Nat} (h1 : x = nI a) (h2 : z = nI b) (h : b ≤ a) : x - z = nI (a - b) := by rw [h1, h2, pk_sub h]
theorem nv_inc {x : Int32} {a : Nat} (h1 : x = nI a) : x + Int32.ofInt 1 = nI (a + 1) := by rw [h1]; exact nI_1 a
theorem nv_lt {x z : Int32} {a b : Nat} (h1 : x = nI a) (h2 : z = nI b) (ha : a < 2 ^ 31) (hb : b < 2 ^ 31) : x < z ↔ a < b := by rw [h1, h2]; exact nI_ltI ha hb
theorem nv_le {x z : Int32} {a b : Nat} (h1 : x = nI a) (h2 : z = nI b) (ha : a < 2 ^ 31) (hb : b < 2 ^ 31) : x ≤ z ↔ a ≤ b := by rw [h1, h2]; exact nI_leI ha hb
theorem nv_eq {x z : Int32} {a b : Nat} (h1 : x = nI a) (h2 : z = nI b) (ha : a < 2 ^ 31) (hb : b < 2 ^ 31) : x = z ↔ a = b := by rw [h1, h2]; exact nI_eq ha hb
theorem i_lt (a b : Int32) : a < b ↔ a.toInt < b.toInt := Int32.lt_iff_toInt_lt
theorem i_le (a b : Int32) : a ≤ b ↔ a.toInt ≤ b.toInt := Int32.le_iff_toInt_le
theorem i_eq (a b : Int32) : a = b ↔ a.toInt = b.toInt := Int32.toInt_inj.symm
/-- an int that isn't below 0 and lies below a bound is a number -/
theorem i_nat {x : Int32} {N : Nat} (h0 : 0 ≤ x.toInt) (h1 : x.toInt < N) : ∃ a : Nat, a < N ∧ x = nI a := by
  refine ⟨x.toInt.toNat, by omega, ?_⟩
  rw [i_eq, nI_toInt (by have := Int32.toInt_lt x; omega)]
  omega
theorem i_toNat {x : Int32} {a : Nat} (h : x = nI a) (ha : a < 2 ^ 31) : x.toInt = (a : Int) := by rw [h]; exact nI_toInt ha
section AV
variable {l : Launch} {G : xG} {y : MethodName} {cc : ByteArray} {nL : Nat} {ret : Option FieldType} {R : Room} {E : Array Value → State → Prop} {QF : List Frame → Array Value → State → State → Prop} {k n pc : Nat} {lv : List (Nat × Value)} {st : List Value} {h : List va_E} {mc ms : Nat} {post : Option Value → List va_E → Prop}
/-- a computed number gets a name -/
theorem aw_top {x : Int32} (kk : ∀ v, v = x → AW l G y cc nL ret R E QF k n pc lv (.int v :: st) h) : AW l G y cc nL ret R E QF k n pc lv (.int x :: st) h := kk x rfl
theorem aw_toe {x : Int32} (v : Int32) (e : x = v) (kk : AW l G y cc nL ret R E QF k n pc lv (.int v :: st) h) : AW l G y cc nL ret R E QF k n pc lv (.int x :: st) h := e ▸ kk
theorem aw_heap {h1 : List va_E} (e : h = h1) (kk : AW l G y cc nL ret R E QF k n pc lv st h1) : AW l G y cc nL ret R E QF k n pc lv st h := e ▸ kk
theorem aw_dS {idx : Nat} {y' : MethodName} {cc' : ByteArray} {nL' : Nat} {ret' : Option FieldType} {np d' mc' ms' : Nat} {r : Value} {h1 : List va_E} {st0 : List Value} (As rest : List Value) (Lk : Cond.methodLink y.cls idx y' ∈ xT) (Ls : Cond.static y' ∈ xT) (Lm : xMd y' cc' nL' ret' np) (hd : decode cc pc = .ok (.invokestatic idx, 3)) (hM : CD l G y' cc' nL' ret' d' mc' ms' As h (some r) h1) (hn : As.length = np) (hst : (rest.map fun v => v.category).sum ≤ 8) (hR : d' + 1 ≤ R.frames ∧ 8 + (nL' + 11) + 40 * d' ≤ R.locals) (hk : k + mc' ≤ R.cells ∧ n + ms' ≤ R.slots) (he : st0 = As.reverse ++ rest)
    (kk : AW l G y cc nL ret R E QF (k + mc') (n + ms') (pc + 3) lv (r :: rest) h1) : AW l G y cc nL ret R E QF k n pc lv st0 h := by
  refine aw_callS As rest Lk Ls Lm hd hM hn hst hR hk he ?_
  rintro v h2 ⟨rfl, rfl⟩
  exact kk
theorem aw_dV {idx i ci : Nat} {fs : List Value} {q : vw_C} {y' : MethodName} {cc' : ByteArray} {nL' : Nat} {ret' : Option FieldType} {np d' mc' ms' : Nat} {r : Value} {h1 : List va_E} {st0 : List Value} (As rest : List Value) (Lk : Cond.methodLink y.cls idx y' ∈ xT) (Ls : Cond.instanceMethod y' ∈ xT ∧ Cond.selects y'.cls y' y' ∈ xT) (Lm : xMd y' cc' nL' ret' np) (hd : decode cc pc = .ok (.invokevirtual idx, 3)) (hM : CD l G y' cc' nL' ret' d' mc' ms' (.ref (G.1 + i) :: As) h (some r) h1) (hc : h[i]? = some (.inr (ci, fs))) (hci : vwCl[ci]? = some q) (hr1 : q.1 = y'.cls) (hn : As.length = np) (hst : (rest.map fun v => v.category).sum ≤ 8) (hR : d' + 1 ≤ R.frames ∧ 8 + (nL' + 11) + 40 * d' ≤ R.locals) (hk : k + mc' ≤ R.cells ∧ n + ms' ≤ R.slots) (he : st0 = As.reverse ++ .ref (G.1 + i) :: rest)
    (kk : AW l G y cc nL ret R E QF (k + mc') (n + ms') (pc + 3) lv (r :: rest) h1) : AW l G y cc nL ret R E QF k n pc lv st0 h := by
  refine aw_callV As rest Lk Ls Lm hd hM hc hci hr1 hn hst hR hk he ?_
  rintro v h2 ⟨rfl, rfl⟩
  exact kk
theorem aw_dW {idx i ci : Nat} {fs : List Value} {q : vw_C} {y' : MethodName} {cc' : ByteArray} {nL' : Nat} {ret' : Option FieldType} {np d' mc' ms' : Nat} {h1 : List va_E} {st0 : List Value} (As rest : List Value) (Lk : Cond.methodLink y.cls idx y' ∈ xT) (Ls : Cond.instanceMethod y' ∈ xT ∧ Cond.selects y'.cls y' y' ∈ xT) (Lm : xMd y' cc' nL' ret' np) (hd : decode cc pc = .ok (.invokevirtual idx, 3)) (hM : CD l G y' cc' nL' ret' d' mc' ms' (.ref (G.1 + i) :: As) h none h1) (hc : h[i]? = some (.inr (ci, fs))) (hci : vwCl[ci]? = some q) (hr1 : q.1 = y'.cls) (hn : As.length = np) (hst : (rest.map fun v => v.category).sum ≤ 8) (hR : d' + 1 ≤ R.frames ∧ 8 + (nL' + 11) + 40 * d' ≤ R.locals) (hk : k + mc' ≤ R.cells ∧ n + ms' ≤ R.slots) (he : st0 = As.reverse ++ .ref (G.1 + i) :: rest)
    (kk : AW l G y cc nL ret R E QF (k + mc') (n + ms') (pc + 3) lv rest h1) : AW l G y cc nL ret R E QF k n pc lv st0 h := by
  refine aw_callV As rest Lk Ls Lm hd hM hc hci hr1 hn hst hR hk he ?_
  rintro v h2 ⟨rfl, rfl⟩
  exact kk
theorem aw_dI {idx i : Nat} {y' : MethodName} {cc' : ByteArray} {nL' : Nat} {np d' mc' ms' : Nat} {h1 : List va_E} {st0 : List Value} (As rest : List Value) (Lk : Cond.methodLink y.cls idx y' ∈ xT) (Ls : y'.name = "<init>" ∧ Cond.instanceMethod y' ∈ xT) (Lm : xMd y' cc' nL' none np) (hd : decode cc pc = .ok (.invokespecial idx, 3)) (hM : CD l G y' cc' nL' none d' mc' ms' (.ref i :: As) h none h1) (hn : As.length = np) (hst : (rest.map fun v => v.category).sum ≤ 8) (hR : d' + 1 ≤ R.frames ∧ 8 + (nL' + 11) + 40 * d' ≤ R.locals) (hk : k + mc' ≤ R.cells ∧ n + ms' ≤ R.slots) (he : st0 = As.reverse ++ .ref i :: rest)
    (kk : AW l G y cc nL ret R E QF (k + mc') (n + ms') (pc + 3) lv rest h1) : AW l G y cc nL ret R E QF k n pc lv st0 h := by
  refine aw_callI As rest Lk Ls Lm hd hM hn hst hR hk he ?_
  rintro v h2 ⟨rfl, rfl⟩
  exact kk
theorem aw_dN {idx i : Nat} {host : String} {y' : MethodName} {cc' : ByteArray} {nL' : Nat} {np d' mc' ms' : Nat} {h1 : List va_E} {st0 : List Value} (As rest : List Value) (Lk : Cond.methodLinkNest y.cls idx y' host ∈ tables_1) (Ls : y'.name = "<init>" ∧ Cond.instanceMethod y' ∈ xT) (Lm : xMd y' cc' nL' none np) (hd : decode cc pc = .ok (.invokespecial idx, 3)) (hM : CD l G y' cc' nL' none d' mc' ms' (.ref i :: As) h none h1) (hn : As.length = np) (hst : (rest.map fun v => v.category).sum ≤ 8) (hR : d' + 1 ≤ R.frames ∧ 8 + (nL' + 11) + 40 * d' ≤ R.locals) (hk : k + mc' ≤ R.cells ∧ n + ms' ≤ R.slots) (he : st0 = As.reverse ++ .ref i :: rest)
    (kk : AW l G y cc nL ret R E QF (k + mc') (n + ms') (pc + 3) lv rest h1) : AW l G y cc nL ret R E QF k n pc lv st0 h := by
  refine aw_callN As rest Lk Ls Lm hd hM hn hst hR hk he ?_
  rintro v h2 ⟨rfl, rfl⟩
  exact kk
end AV
