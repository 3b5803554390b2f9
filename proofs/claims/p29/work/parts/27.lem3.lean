
/-- a contract whose answer is some number -/
def CU (l : Launch) (G : xG) (y : MethodName) (cc : ByteArray) (nL : Nat) (ret : Option FieldType) (d mc ms : Nat) (av : List Value) (h : List va_E) (P : Int32 → List va_E → Prop) : Prop :=
  CM l G y cc nL ret d mc ms av h (fun v h2 => ∃ r : Int32, v = some (.int r) ∧ P r h2)
section AT
variable {l : Launch} {G : xG} {y : MethodName} {cc : ByteArray} {nL : Nat} {ret : Option FieldType} {R : Room} {E : Array Value → State → Prop} {QF : List Frame → Array Value → State → State → Prop} {k n pc : Nat} {lv : List (Nat × Value)} {st : List Value} {h : List va_E}
theorem aw_uS {idx : Nat} {y' : MethodName} {cc' : ByteArray} {nL' : Nat} {ret' : Option FieldType} {np d' mc' ms' : Nat} {P : Int32 → List va_E → Prop} {st0 : List Value} (As rest : List Value) (Lk : Cond.methodLink y.cls idx y' ∈ xT) (Ls : Cond.static y' ∈ xT) (Lm : xMd y' cc' nL' ret' np) (hd : decode cc pc = .ok (.invokestatic idx, 3)) (hM : CU l G y' cc' nL' ret' d' mc' ms' As h P) (hn : As.length = np) (hst : (rest.map fun v => v.category).sum ≤ 8) (hR : d' + 1 ≤ R.frames ∧ 8 + (nL' + 11) + 40 * d' ≤ R.locals) (hk : k + mc' ≤ R.cells ∧ n + ms' ≤ R.slots) (he : st0 = As.reverse ++ rest)
    (kk : ∀ r h1, P r h1 → AW l G y cc nL ret R E QF (k + mc') (n + ms') (pc + 3) lv (.int r :: rest) h1) : AW l G y cc nL ret R E QF k n pc lv st0 h := by
  refine aw_callS As rest Lk Ls Lm hd hM hn hst hR hk he ?_
  rintro v h2 ⟨r, rfl, hP⟩
  exact kk r h2 hP
theorem aw_uV {idx i ci : Nat} {fs : List Value} {q : vw_C} {y' : MethodName} {cc' : ByteArray} {nL' : Nat} {ret' : Option FieldType} {np d' mc' ms' : Nat} {P : Int32 → List va_E → Prop} {st0 : List Value} (As rest : List Value) (Lk : Cond.methodLink y.cls idx y' ∈ xT) (Ls : Cond.instanceMethod y' ∈ xT ∧ Cond.selects y'.cls y' y' ∈ xT) (Lm : xMd y' cc' nL' ret' np) (hd : decode cc pc = .ok (.invokevirtual idx, 3)) (hM : CU l G y' cc' nL' ret' d' mc' ms' (.ref (G.1 + i) :: As) h P) (hc : h[i]? = some (.inr (ci, fs))) (hci : vwCl[ci]? = some q) (hr1 : q.1 = y'.cls) (hn : As.length = np) (hst : (rest.map fun v => v.category).sum ≤ 8) (hR : d' + 1 ≤ R.frames ∧ 8 + (nL' + 11) + 40 * d' ≤ R.locals) (hk : k + mc' ≤ R.cells ∧ n + ms' ≤ R.slots) (he : st0 = As.reverse ++ .ref (G.1 + i) :: rest)
    (kk : ∀ r h1, P r h1 → AW l G y cc nL ret R E QF (k + mc') (n + ms') (pc + 3) lv (.int r :: rest) h1) : AW l G y cc nL ret R E QF k n pc lv st0 h := by
  refine aw_callV As rest Lk Ls Lm hd hM hc hci hr1 hn hst hR hk he ?_
  rintro v h2 ⟨r, rfl, hP⟩
  exact kk r h2 hP
end AT
theorem z_shr (z : Int32) : (0 : Int32) >>> z = 0 := by
  apply Int32.toBitVec_inj.mp
  simp
theorem z_and (z : Int32) : z &&& 0 = 0 := by simp
theorem z_bit (z : Int32) : ((0 : Int32) >>> z) &&& 1 = 0 := by rw [z_shr]; simp
