theorem CE.u {l : Launch} {G : xG} {y : MethodName} {cc : ByteArray} {nL : Nat} {ret : Option FieldType} {d mc ms : Nat} {av : List Value} {h : List va_E} {r : Int32} {P : List va_E → Prop} (hM : CE l G y cc nL ret d mc ms av h (some (.int r)) P) : CU l G y cc nL ret d mc ms av h (fun r' h1 => r' = r ∧ P h1) :=
  CM.post hM (fun v h2 q => ⟨r, q.1, rfl, q.2⟩)
theorem CU.mono {l : Launch} {G : xG} {y : MethodName} {cc : ByteArray} {nL : Nat} {ret : Option FieldType} {d mc ms : Nat} {av : List Value} {h : List va_E} {P Q : Int32 → List va_E → Prop} (hM : CU l G y cc nL ret d mc ms av h P) (hP : ∀ r h1, P r h1 → Q r h1) : CU l G y cc nL ret d mc ms av h Q :=
  CM.post hM (fun v h2 ⟨r, e, q⟩ => ⟨r, e, hP r h2 q⟩)
theorem kp_rng {a b : Nat} {h h1 : List va_E} (k : rng a b h h1) (hb : b < 88) : kp h h1 := fun j q1 q2 => k.2 j (by omega)
theorem kp_rg2 {a b c d : Nat} {h h1 : List va_E} (k : rg2 a b c d h h1) (hb : b < 88) (hd : d < 88 ∨ 125 ≤ c) : kp h h1 := fun j q1 q2 => k.2 j (by omega)
