/-- the room of a method that may stand d frames high -/
def xR (d mc ms : Nat) : Room := { frames := d, cells := mc, slots := ms, locals := 40 * d }
def xQc (G : xG) (post : Option Value → List va_E → Prop) : Array Value → State → Outcome → State → Prop := fun _ st oc t => ∃ (v : Option Value) (h1 : List va_E), oc = .returned v ∧ post v h1 ∧ xH G h1 t.heap ∧ va_F (xA G) st t
def xQ (G : xG) (mc ms : Nat) (post : Option Value → List va_E → Prop) : List Frame → Array Value → State → State → Prop := fun below args s => MQ below (xQc G post) args s mc ms (xA G)
def xPc (G : xG) (av : List Value) (h : List va_E) : Array Value → State → Prop := va_Pc av (fun U => xK G U ∧ xH G h U.heap)
/-- a method's CONTRACT: from the heap h, with the arguments av, it returns, post holds of the answer and the new heap; at most mc new cells of ms slots, d frames -/
def CM (l : Launch) (G : xG) (y : MethodName) (cc : ByteArray) (nL : Nat) (ret : Option FieldType) (d mc ms : Nat) (av : List Value) (h : List va_E) (post : Option Value → List va_E → Prop) : Prop :=
  Met l y [.code y cc nL ret] (xR d mc ms) (xPc G av h) (xQc G post) mc ms (xA G)
theorem xPc_blind (G : xG) (av : List Value) (h : List va_E) : FrameBlind (xPc G av h) := by
  intro a U g mk q
  obtain ⟨q0, q1, q2⟩ := q
  exact ⟨q0, xK.same (s := U) (U := U.calling g mk a) rfl q1, q2⟩
theorem cm_of {l : Launch} {G : xG} {y : MethodName} {cc : ByteArray} {nL : Nat} {ret : Option FieldType} {d mc ms : Nat} {av : List Value} {h : List va_E} {post : Option Value → List va_E → Prop} (hy : plainName y.cls = true) (hl : (lg_sl av).length ≤ nL) (lv : List (Nat × Value)) (hlv : lv_args 0 av = lv)
    (W0 : AW l G y cc nL ret (xR d mc ms) (fun _ _ => True) (xQ G mc ms post) 0 0 0 lv [] h) : CM l G y cc nL ret d mc ms av h post := by
  refine Met.ofW (cc := cc) (maxL := nL) (ret := ret) hy rfl ?_
  intro p ev s m args below meth c s₁ B hml hv
  obtain ⟨rfl, hK, hH⟩ := hv
  have hown : s.vm.findClass y.cls = some m.cls := findClass_of_methodNamed B.named
  rw [lg_entry_eq]
  subst hlv
  exact W0 p ev s m _ below meth c s.heap [] _ ⟨B.exec, B.bytes, hml, B.returns, B.notSynchronized, (fun _ => (name_of_methodNamed B.named B.method).1), hown, hK, trivial, by rw [hH.2]; exact Nat.le_add_right _ _⟩ hH va_S.rf (lv_entry av hl)
/-- a weaker end -/
theorem CM.post {l : Launch} {G : xG} {y : MethodName} {cc : ByteArray} {nL : Nat} {ret : Option FieldType} {d mc ms : Nat} {av : List Value} {h : List va_E} {p1 p2 : Option Value → List va_E → Prop} (hM : CM l G y cc nL ret d mc ms av h p1) (hp : ∀ v h1, p1 v h1 → p2 v h1) : CM l G y cc nL ret d mc ms av h p2 := by
  intro p e ha hc hk s m args below hf happ hP htr
  obtain ⟨k, o, h1, h2, h3, ⟨v, hh, q1, q2, q3⟩, q4⟩ := hM p e ha hc hk s m args below hf happ hP htr
  exact ⟨k, o, h1, h2, h3, ⟨v, hh, q1, hp v hh q2, q3⟩, q4⟩
section AZ
variable {l : Launch} {G : xG} {y : MethodName} {cc : ByteArray} {nL : Nat} {ret : Option FieldType} {R : Room} {E : Array Value → State → Prop} {QF : List Frame → Array Value → State → State → Prop} {k n pc : Nat} {lv : List (Nat × Value)} {st : List Value} {h : List va_E} {mc ms : Nat} {post : Option Value → List va_E → Prop}
theorem aw_iret {v : Int32} (hret : ret = some .int) (hd : decode cc pc = .ok (.ireturn, 1)) (h1 : k ≤ mc) (h2 : n ≤ ms) (hp : post (some (.int v)) h) : AW l G y cc nL ret R E (xQ G mc ms post) k n pc lv [.int v] h := by
  intro p ev s m args below meth c H locs ls Cx hH hS hl
  obtain ⟨hx, hb, hml, hr, hlk, hnm, hown, hK, hE, hB⟩ := id Cx
  refine W.widen h1 h2 ?_
  exact W.iret hx hb (hr.trans hret) (fun t ht hW => ⟨_, h, rfl, hp, by rw [ht]; exact hH, hS.F ht⟩) hS.2.2 hd hlk
theorem aw_zret {v : Int32} (hret : ret = some .boolean) (hv : narrow .boolean (.int v) = .int v) (hd : decode cc pc = .ok (.ireturn, 1)) (h1 : k ≤ mc) (h2 : n ≤ ms) (hp : post (some (.int v)) h) : AW l G y cc nL ret R E (xQ G mc ms post) k n pc lv [.int v] h := by
  intro p ev s m args below meth c H locs ls Cx hH hS hl
  obtain ⟨hx, hb, hml, hr, hlk, hnm, hown, hK, hE, hB⟩ := id Cx
  refine W.widen h1 h2 ?_
  exact W.zret hx hb (hr.trans hret) hv (fun t ht hW => ⟨_, h, rfl, hp, by rw [ht]; exact hH, hS.F ht⟩) hS.2.2 hd hlk
theorem aw_vret (hret : ret = none) (hd : decode cc pc = .ok (.return_, 1)) (h1 : k ≤ mc) (h2 : n ≤ ms) (hp : post none h) : AW l G y cc nL ret R E (xQ G mc ms post) k n pc lv [] h := by
  intro p ev s m args below meth c H locs ls Cx hH hS hl
  obtain ⟨hx, hb, hml, hr, hlk, hnm, hown, hK, hE, hB⟩ := id Cx
  refine W.widen h1 h2 ?_
  exact W.vret hx hb (hr.trans hret) (fun t ht hW => ⟨_, h, rfl, hp, by rw [ht]; exact hH, hS.F ht⟩) hS.2.2 hd hlk
theorem aw_aret {a : Nat} {C : String} (hret : ret = some (.object C)) (hd : decode cc pc = .ok (.areturn, 1)) (h1 : k ≤ mc) (h2 : n ≤ ms) (hp : post (some (.ref a)) h) : AW l G y cc nL ret R E (xQ G mc ms post) k n pc lv [.ref a] h := by
  intro p ev s m args below meth c H locs ls Cx hH hS hl
  obtain ⟨hx, hb, hml, hr, hlk, hnm, hown, hK, hE, hB⟩ := id Cx
  refine W.widen h1 h2 ?_
  exact W.aret hx hb (hr.trans hret) (Or.inl ⟨_, rfl⟩) (Or.inr ⟨_, rfl⟩) (fun t ht hW => ⟨_, h, rfl, hp, by rw [ht]; exact hH, hS.F ht⟩) hS.2.2 hd hlk
/-- behind a call -/
theorem aw_run {p : Program} {ev : Env} {s : State} {m : MethodId} {args : Array Value} {below : List Frame} {meth : Method} {c : Code} {H : Heap} {locs : List Loc} {ls : Array Slot} {st0 rest : List Value} {mc' ms' : Nat} {Q : State → Prop} {a : Array Value}
    (hr : va_Run p l ev R s m args below meth c H locs k n mc' ms' (F0 m pc ls st0) rest (xQc G post a) (xA G)) (hS : va_S (xA G) s.heap H locs)
    (kk : ∀ (v : Option Value) (h1 : List va_E), post v h1 → ∀ (H1 : Heap) (locs1 : List Loc), xH G h1 H1 → va_S (xA G) s.heap H1 locs1 → W p l ev R s m args below meth c H1 locs1 (k + mc') (n + ms') Q (F0 m (pc + 3) ls (v.toList ++ rest))) : W p l ev R s m args below meth c H locs k n Q (F0 m pc ls st0) := by
  intro T hT X
  obtain ⟨v, st₀, t, T', L, e0, X', hL, e1, e2, ⟨v', h', e3, hp, hH', hF⟩, hst⟩ := hr T hT X
  cases e3
  have hS1 : va_S (xA G) s.heap T'.heap (locs ++ L) := by
    refine ⟨?_, fun q hq hA => ?_, fun q hq => ?_⟩
    · rw [e1]; exact Nat.le_trans hS.1 (by rw [← e0]; exact hF.1)
    · rw [e1, hF.2 q (by rw [e0]; exact Nat.lt_of_lt_of_le hq hS.1) hA, e0]; exact hS.2.1 q hq hA
    · rcases List.mem_append.mp hq with hq | hq
      · exact hS.2.2 q hq
      · exact hL q hq
  obtain ⟨t2, a1, b1⟩ := kk v h' hp T'.heap (locs ++ L) (by rw [e1]; exact hH') hS1 T' rfl X'
  exact ⟨t2, hst t2 a1, b1⟩
/-- a method's rows for its callers -/
def xMd (y : MethodName) (cc : ByteArray) (nL : Nat) (ret : Option FieldType) (np : Nat) : Prop := Cond.code y cc nL ret ∈ xT ∧ Cond.initialized y.cls ∈ xT ∧ (y.cls ≠ "java/lang/invoke/MethodHandle" ∧ y.cls ≠ "java/lang/invoke/VarHandle" ∧ (parseMethodDescriptor y.desc).map (fun d => d.parameters.length) = some np) ∧ nL ≤ 21
theorem xMd.good {y : MethodName} {cc : ByteArray} {nL : Nat} {ret : Option FieldType} {np : Nat} (h : xMd y cc nL ret np) : GoodIn xT [.code y cc nL ret] := by
  intro w hw
  rw [List.mem_singleton.mp hw]
  exact ⟨h.1, good_of_word (List.mem_filter.mp h.1).2⟩
theorem xPre {p : Program} {s : State} {m : MethodId} {args : Array Value} {meth : Method} {c : Code} {H : Heap} {av : List Value} (Cx : xC G y cc nL ret E p s m args meth c) (hH : xH G h H) : PreS s H (xPc G av h) av :=
  ⟨xPc_blind G av h, fun U hU hW => ⟨rfl, Cx.2.2.2.2.2.2.2.1.warm hW, by rw [hU]; exact hH⟩⟩
theorem aw_callS {idx : Nat} {y' : MethodName} {cc' : ByteArray} {nL' : Nat} {ret' : Option FieldType} {np d' mc' ms' : Nat} {post' : Option Value → List va_E → Prop} {st0 : List Value} (As rest : List Value) (Lk : Cond.methodLink y.cls idx y' ∈ xT) (Ls : Cond.static y' ∈ xT) (Lm : xMd y' cc' nL' ret' np) (hd : decode cc pc = .ok (.invokestatic idx, 3)) (hM : CM l G y' cc' nL' ret' d' mc' ms' As h post') (hn : As.length = np) (hst : (rest.map fun v => v.category).sum ≤ 8) (hR : d' + 1 ≤ R.frames ∧ 8 + (nL' + 11) + 40 * d' ≤ R.locals) (hk : k + mc' ≤ R.cells ∧ n + ms' ≤ R.slots) (he : st0 = As.reverse ++ rest)
    (kk : ∀ (v : Option Value) (h1 : List va_E), post' v h1 → AW l G y cc nL ret R E QF (k + mc') (n + ms') (pc + 3) lv (v.toList ++ rest) h1) : AW l G y cc nL ret R E QF k n pc lv st0 h := by
  intro p ev s m args below meth c H locs ls Cx hH hS hl
  obtain ⟨hx, hb, hml, hr, hlk, hnm, hown, hK, hE, hB⟩ := id Cx
  have hts : ∀ w ∈ xT, w.before args s = true := fun w hw => hK.1 w hw args
  refine aw_run (va_runS (As := As) (rest := rest) ⟨hx, hb, hml, hown, hts⟩ hM ⟨callB_of np hts Lm.good rfl rfl rfl (hts _ Lm.2.1) (hts _ Lk) Lm.2.2.1 hR, hts _ Ls⟩ (xPre Cx hH) rfl hn hl.1 he (by simp only [JFrame.monitorRoom]; omega) hd hk) hS ?_
  intro v h1 hp H1 locs1 hH1 hS1
  exact kk v h1 hp p ev s m args below meth c H1 locs1 ls Cx hH1 hS1 hl
theorem aw_callV {idx i ci : Nat} {fs : List Value} {r : vw_C} {y' : MethodName} {cc' : ByteArray} {nL' : Nat} {ret' : Option FieldType} {np d' mc' ms' : Nat} {post' : Option Value → List va_E → Prop} {st0 : List Value} (As rest : List Value) (Lk : Cond.methodLink y.cls idx y' ∈ xT) (Ls : Cond.instanceMethod y' ∈ xT ∧ Cond.selects y'.cls y' y' ∈ xT) (Lm : xMd y' cc' nL' ret' np) (hd : decode cc pc = .ok (.invokevirtual idx, 3)) (hM : CM l G y' cc' nL' ret' d' mc' ms' (.ref (G.1 + i) :: As) h post') (hc : h[i]? = some (.inr (ci, fs))) (hci : vwCl[ci]? = some r) (hr1 : r.1 = y'.cls) (hn : As.length = np) (hst : (rest.map fun v => v.category).sum ≤ 8) (hR : d' + 1 ≤ R.frames ∧ 8 + (nL' + 11) + 40 * d' ≤ R.locals) (hk : k + mc' ≤ R.cells ∧ n + ms' ≤ R.slots) (he : st0 = As.reverse ++ .ref (G.1 + i) :: rest)
    (kk : ∀ (v : Option Value) (h1 : List va_E), post' v h1 → AW l G y cc nL ret R E QF (k + mc') (n + ms') (pc + 3) lv (v.toList ++ rest) h1) : AW l G y cc nL ret R E QF k n pc lv st0 h := by
  intro p ev s m args below meth c H locs ls Cx hH hS hl
  obtain ⟨hx, hb, hml, hr, hlk, hnm, hown, hK, hE, hB⟩ := id Cx
  have hts : ∀ w ∈ xT, w.before args s = true := fun w hw => hK.1 w hw args
  have hrc : ∃ cell : Cell, H[G.1 + i]? = some cell ∧ cell.vm.isStatics = false ∧ s.vm.findClass y'.cls = some cell.cls := by
    rw [← hr1]
    exact va_recv hK.2.2.1 hH.1 hci (xW_get hc)
  refine aw_run (va_runV (C := y'.cls) (As := As) (rest := rest) ⟨hx, hb, hml, hown, hts⟩ hM ⟨callB_of np hts Lm.good rfl rfl rfl (hts _ Lm.2.1) (hts _ Lk) Lm.2.2.1 hR, hts _ Ls.1, hts _ Ls.2⟩ ⟨(xPre Cx hH).1, hrc, (xPre Cx hH).2⟩ rfl hn hl.1 he (by simp only [JFrame.monitorRoom]; omega) hd hk) hS ?_
  intro v h1 hp H1 locs1 hH1 hS1
  exact kk v h1 hp p ev s m args below meth c H1 locs1 ls Cx hH1 hS1 hl
theorem aw_callI {idx i : Nat} {y' : MethodName} {cc' : ByteArray} {nL' : Nat} {np d' mc' ms' : Nat} {post' : Option Value → List va_E → Prop} {st0 : List Value} (As rest : List Value) (Lk : Cond.methodLink y.cls idx y' ∈ xT) (Ls : y'.name = "<init>" ∧ Cond.instanceMethod y' ∈ xT) (Lm : xMd y' cc' nL' none np) (hd : decode cc pc = .ok (.invokespecial idx, 3)) (hM : CM l G y' cc' nL' none d' mc' ms' (.ref i :: As) h post') (hn : As.length = np) (hst : (rest.map fun v => v.category).sum ≤ 8) (hR : d' + 1 ≤ R.frames ∧ 8 + (nL' + 11) + 40 * d' ≤ R.locals) (hk : k + mc' ≤ R.cells ∧ n + ms' ≤ R.slots) (he : st0 = As.reverse ++ .ref i :: rest)
    (kk : ∀ (v : Option Value) (h1 : List va_E), post' v h1 → AW l G y cc nL ret R E QF (k + mc') (n + ms') (pc + 3) lv (v.toList ++ rest) h1) : AW l G y cc nL ret R E QF k n pc lv st0 h := by
  intro p ev s m args below meth c H locs ls Cx hH hS hl
  obtain ⟨hx, hb, hml, hr, hlk, hnm, hown, hK, hE, hB⟩ := id Cx
  have hts : ∀ w ∈ xT, w.before args s = true := fun w hw => hK.1 w hw args
  refine aw_run (va_runI (As := As) (rest := rest) ⟨hx, hb, hml, hown, hts⟩ hM ⟨callB_of np hts Lm.good rfl rfl rfl (hts _ Lm.2.1) (hts _ Lk) Lm.2.2.1 hR, Ls.1, hts _ Ls.2⟩ (xPre Cx hH) rfl hn hl.1 he (by simp only [JFrame.monitorRoom]; omega) hd hk) hS ?_
  intro v h1 hp H1 locs1 hH1 hS1
  exact kk v h1 hp p ev s m args below meth c H1 locs1 ls Cx hH1 hS1 hl
/-- a private constructor of a nest mate -/
theorem aw_callN {idx i : Nat} {host : String} {y' : MethodName} {cc' : ByteArray} {nL' : Nat} {np d' mc' ms' : Nat} {post' : Option Value → List va_E → Prop} {st0 : List Value} (As rest : List Value) (Lk : Cond.methodLinkNest y.cls idx y' host ∈ tables_1) (Ls : y'.name = "<init>" ∧ Cond.instanceMethod y' ∈ xT) (Lm : xMd y' cc' nL' none np) (hd : decode cc pc = .ok (.invokespecial idx, 3)) (hM : CM l G y' cc' nL' none d' mc' ms' (.ref i :: As) h post') (hn : As.length = np) (hst : (rest.map fun v => v.category).sum ≤ 8) (hR : d' + 1 ≤ R.frames ∧ 8 + (nL' + 11) + 40 * d' ≤ R.locals) (hk : k + mc' ≤ R.cells ∧ n + ms' ≤ R.slots) (he : st0 = As.reverse ++ .ref i :: rest)
    (kk : ∀ (v : Option Value) (h1 : List va_E), post' v h1 → AW l G y cc nL ret R E QF (k + mc') (n + ms') (pc + 3) lv (v.toList ++ rest) h1) : AW l G y cc nL ret R E QF k n pc lv st0 h := by
  intro p ev s m args below meth c H locs ls Cx hH hS hl
  obtain ⟨hx, hb, hml, hr, hlk, hnm, hown, hK, hE, hB⟩ := id Cx
  have hts : ∀ w ∈ xT, w.before args s = true := fun w hw => hK.1 w hw args
  refine aw_run (va_runIN (As := As) (rest := rest) ⟨hx, hb, hml, hown, hts⟩ hM ⟨va_cnB np hts Lm.good rfl rfl rfl (hK.2.1 _ _ _ _ Lk) (hts _ Lm.2.1) Lm.2.2.1 hR, Ls.1, hts _ Ls.2⟩ (xPre Cx hH) rfl hn hl.1 he (by simp only [JFrame.monitorRoom]; omega) hd hk) hS ?_
  intro v h1 hp H1 locs1 hH1 hS1
  exact kk v h1 hp p ev s m args below meth c H1 locs1 ls Cx hH1 hS1 hl
end AZ
