
/-- the tables' words that stay when the tables warm -/
def xT : List Cond := lw_tbl.filter goodWord
theorem xin {w : Cond} (i : Nat) (hi : tables_1[i]? = some w) (hg : goodWord w = true) : w ∈ xT := List.mem_filter.mpr ⟨List.mem_append_right _ (List.mem_of_getElem? hi), hg⟩
theorem xins {w : Cond} (i : Nat) (hi : (k2_sels lw_privs)[i]? = some w) (hg : goodWord w = true) : w ∈ xT := List.mem_filter.mpr ⟨List.mem_append_left _ (List.mem_of_getElem? hi), hg⟩
/-- base, the classes' numbers and slots, the array classes' numbers -/
abbrev xG : Type := Nat × va_G × (Nat → ClassId)
def xc (G : xG) (c : va_E) : va_E := match c with
  | .inl a => .inl (G.2.2 a.1, a.2)
  | .inr o => .inr o
def xW (G : xG) (h : List va_E) : va_W := h.mapIdx fun i c => (G.1 + i, xc G c)
theorem xW_get {G : xG} {h : List va_E} {i : Nat} {c : va_E} (e : h[i]? = some c) : (xW G h)[i]? = some (G.1 + i, xc G c) := by
  simp [xW, List.getElem?_mapIdx, e]
theorem xW_at {G : xG} {h : List va_E} {i : Nat} {q : Nat × va_E} (e : (xW G h)[i]? = some q) : ∃ c, h[i]? = some c ∧ q = (G.1 + i, xc G c) := by
  simp only [xW, List.getElem?_mapIdx, Option.map_eq_some_iff] at e
  obtain ⟨c, h1, h2⟩ := e
  exact ⟨c, h1, h2.symm⟩
theorem xW_set (G : xG) (h : List va_E) (i : Nat) (c : va_E) : xW G (h.set i c) = (xW G h).set i (G.1 + i, xc G c) := by
  apply List.ext_getElem?
  intro j
  simp only [xW, List.getElem?_mapIdx, List.getElem?_set, List.length_mapIdx]
  by_cases hj : i = j
  · subst hj
    by_cases hl : i < h.length <;> simp [hl]
  · simp [hj]
theorem xW_push (G : xG) (h : List va_E) (c : va_E) : xW G (h ++ [c]) = xW G h ++ [(G.1 + h.length, xc G c)] := by
  simp [xW, List.mapIdx_append]
theorem xW_D (G : xG) (h : List va_E) : va_D (fun q => G.1 ≤ q) (xW G h) := by
  refine ⟨fun i j p q hi hj e => ?_, fun k q hk => ?_⟩
  · obtain ⟨_, -, rfl⟩ := xW_at hi
    obtain ⟨_, -, rfl⟩ := xW_at hj
    simp at e
    exact e
  · obtain ⟨_, -, rfl⟩ := xW_at hk
    exact Nat.le_add_right _ _
def xtys (G : xG) : List (ClassId × FieldType) := [(G.2.2 0, .int), (G.2.2 1, .long), (G.2.2 2, .boolean), (G.2.2 3, .object RX4)]
/-- what is known of the tables at every state of the run -/
def xK (G : xG) (U : State) : Prop := (∀ w ∈ xT, ∀ a : Array Value, w.before a U = true) ∧ (∀ own i y host, Cond.methodLinkNest own i y host ∈ tables_1 → va_Nw (.methodLinkNest own i y host) U) ∧ va_K G.2.1 vwCl (xtys G) U ∧ va_AO RX4 U
theorem xK.warm {G : xG} {s U : State} (hW : s.WarmedH U.vm) (h : xK G s) : xK G U :=
  ⟨fun w hw a => word_at (args := #[]) hW (good_of_word (List.mem_filter.mp hw).2) (h.1 w hw #[]), fun own i y host hw => va_Nw.warmM hW (h.2.1 own i y host hw), h.2.2.1.moved hW.alike, h.2.2.2.moved hW.alike⟩
theorem xK.same {G : xG} {s U : State} (e : s.vm = U.vm) (h : xK G s) : xK G U := h.warm (by rw [← e]; exact State.WarmedH.refl s)
/-- the heap holds the abstract heap, from the base on -/
def xH (G : xG) (h : List va_E) (H : Heap) : Prop := va_P G.2.1 vwCl (xW G h) H ∧ H.size = G.1 + h.length
abbrev xA (G : xG) : Nat → Prop := fun q => G.1 ≤ q
theorem xH.set {G : xG} {h : List va_E} {H H1 : Heap} {i : Nat} {c0 c : va_E} (hH : xH G h H) (hc : h[i]? = some c0) (hz : H1.size = H.size) (ho : ∀ q, q ≠ G.1 + i → H1[q]? = H[q]?) (ha : va_at G.2.1 vwCl (G.1 + i, xc G c) H1) : xH G (h.set i c) H1 := by
  refine ⟨?_, by rw [hz, hH.2, List.length_set]⟩
  rw [xW_set]
  exact hH.1.set (xW_D G h) (xW_get hc) ha ho
theorem xH.push {G : xG} {h : List va_E} {H H1 : Heap} {c : va_E} (hH : xH G h H) (hz : H1.size = H.size + 1) (ho : ∀ q, q < H.size → H1[q]? = H[q]?) (ha : va_at G.2.1 vwCl (H.size, xc G c) H1) : xH G (h ++ [c]) H1 := by
  refine ⟨?_, by rw [hz, hH.2]; simp [Nat.add_assoc]⟩
  rw [xW_push]
  refine (hH.1.kept (fun k q hk => ho q.1 ((hH.1 k q hk).lt))).app (fun k q hk => ?_)
  have hk0 : k < 1 := (List.getElem?_eq_some_iff.mp hk).1
  rw [show k = 0 by omega] at hk
  cases hk
  rw [← hH.2]
  exact ha
theorem xS_put {G : xG} {H0 H H1 : Heap} {locs : List Loc} {a k : Nat} (h : va_S (xA G) H0 H locs) (z : H1.size = H.size) (oq : ∀ q : Nat, q ≠ a → H1[q]? = H[q]?) (ha : G.1 ≤ a) : va_S (xA G) H0 H1 (locs ++ [⟨a, k⟩]) := h.put z oq ha
theorem xS_push {G : xG} {H0 H H1 : Heap} {locs : List Loc} (h : va_S (xA G) H0 H locs) (hz : H1.size = H.size + 1) (ho : ∀ q, q < H.size → H1[q]? = H[q]?) : va_S (xA G) H0 H1 locs :=
  ⟨Nat.le_trans h.1 (by omega), fun q h1 h2 => (ho q (Nat.lt_of_lt_of_le h1 h.1)).trans (h.2.1 q h1 h2), h.2.2⟩
/-- what holds of a method's frame all along its walk -/
def xC (G : xG) (y : MethodName) (cc : ByteArray) (nL : Nat) (ret : Option FieldType) (E : Array Value → State → Prop) (p : Program) (s : State) (m : MethodId) (args : Array Value) (meth : Method) (c : Code) : Prop :=
  p.tables.exec = Jvm.exec ∧ c.code = cc ∧ c.maxLocals = nL ∧ meth.sig.returnType = ret ∧ meth.locks = false ∧ (y.name = "<init>" → meth.name = y.name) ∧ s.vm.findClass y.cls = some m.cls ∧ xK G s ∧ E args s ∧ G.1 ≤ s.heap.size
/-- the abstract walk: whatever machine, whatever frames below -/
def AW (l : Launch) (G : xG) (y : MethodName) (cc : ByteArray) (nL : Nat) (ret : Option FieldType) (R : Room) (E : Array Value → State → Prop) (QF : List Frame → Array Value → State → State → Prop) (k n pc : Nat) (lv : List (Nat × Value)) (st : List Value) (h : List va_E) : Prop :=
  ∀ (p : Program) (e : Env) (s : State) (m : MethodId) (args : Array Value) (below : List Frame) (meth : Method) (c : Code) (H : Heap) (locs : List Loc) (ls : Array Slot),
    xC G y cc nL ret E p s m args meth c → xH G h H → va_S (xA G) s.heap H locs → lv_has ls nL lv → W p l e R s m args below meth c H locs k n (QF below args s) (F0 m pc ls st)
/-- a class's rows -/
def xCl (ci : Nat) (C : String) (T : u_T) (N : Nat) (ty : Nat → FieldType) : Prop := vwCl[ci]? = some (C, T, N) ∧ (∀ w ∈ u_ws C T N, w ∈ xT) ∧ (∀ k, k < N → parseFieldDescriptor (T k).2.2.1 = some (ty k)) ∧ (∀ a, a < N → ∀ b, b < N → a ≠ b → (T a).2.1 ≠ (T b).2.1)
def xFl (own : String) (idx ci k : Nat) (C : String) (T : u_T) (N : Nat) (ty : Nat → FieldType) : Prop := xCl ci C T N ty ∧ k < N ∧ Cond.fieldLink own idx (T k).1 (T k).2.1 (T k).2.2.1 ∈ xT
def xNw (own : String) (idx ci : Nat) (C : String) (T : u_T) (N : Nat) (ty : Nat → FieldType) : Prop := xCl ci C T N ty ∧ Cond.classLink own idx C ∈ xT ∧ Cond.instantiable C N ∈ xT ∧ Cond.initialized C ∈ xT

section AX
variable {l : Launch} {G : xG} {y : MethodName} {cc : ByteArray} {nL : Nat} {ret : Option FieldType} {R : Room} {E : Array Value → State → Prop} {QF : List Frame → Array Value → State → State → Prop} {k n pc : Nat} {lv : List (Nat × Value)} {st : List Value} {h : List va_E}
theorem aw_iconst {z : Int} (v : Int32) (hd : decode cc pc = .ok (.iconst z, 1)) (hv : Int32.ofInt z = v) (kk : AW l G y cc nL ret R E QF k n (pc + 1) lv (.int v :: st) h) : AW l G y cc nL ret R E QF k n pc lv st h := by
  intro p ev s m args below meth c H locs ls Cx hH hS hl
  obtain ⟨hx, hb, hml, hr, hlk, hnm, hown, hK, hE, hB⟩ := id Cx
  exact lv_iconst hx hb hd hv (kk p ev s m args below meth c H locs ls Cx hH hS hl)
theorem aw_bipush {z : Int} (v : Int32) (hd : decode cc pc = .ok (.bipush z, 2)) (hv : (Int8.ofInt z).toInt32 = v) (kk : AW l G y cc nL ret R E QF k n (pc + 2) lv (.int v :: st) h) : AW l G y cc nL ret R E QF k n pc lv st h := by
  intro p ev s m args below meth c H locs ls Cx hH hS hl
  obtain ⟨hx, hb, hml, hr, hlk, hnm, hown, hK, hE, hB⟩ := id Cx
  exact lv_bipush hx hb hd hv (kk p ev s m args below meth c H locs ls Cx hH hS hl)
theorem aw_sipush {z : Int} (v : Int32) (hd : decode cc pc = .ok (.sipush z, 3)) (hv : (Int16.ofInt z).toInt32 = v) (kk : AW l G y cc nL ret R E QF k n (pc + 3) lv (.int v :: st) h) : AW l G y cc nL ret R E QF k n pc lv st h := by
  intro p ev s m args below meth c H locs ls Cx hH hS hl
  obtain ⟨hx, hb, hml, hr, hlk, hnm, hown, hK, hE, hB⟩ := id Cx
  exact lv_sipush hx hb hd hv (kk p ev s m args below meth c H locs ls Cx hH hS hl)
theorem aw_lconst {z : Fin 2} (v : Int64) (hd : decode cc pc = .ok (.lconst z, 1)) (hv : Int64.ofNat (z : Nat) = v) (kk : AW l G y cc nL ret R E QF k n (pc + 1) lv (.long v :: st) h) : AW l G y cc nL ret R E QF k n pc lv st h := by
  intro p ev s m args below meth c H locs ls Cx hH hS hl
  obtain ⟨hx, hb, hml, hr, hlk, hnm, hown, hK, hE, hB⟩ := id Cx
  exact lv_lconst hx hb hd hv (kk p ev s m args below meth c H locs ls Cx hH hS hl)
theorem aw_ldc {idx : Nat} (v : Int32) (hw : Cond.constant y.cls idx v ∈ xT) (hd : decode cc pc = .ok (.ldc idx, 2)) (kk : AW l G y cc nL ret R E QF k n (pc + 2) lv (.int v :: st) h) : AW l G y cc nL ret R E QF k n pc lv st h := by
  intro p ev s m args below meth c H locs ls Cx hH hS hl
  obtain ⟨hx, hb, hml, hr, hlk, hnm, hown, hK, hE, hB⟩ := id Cx
  have hts : ∀ w ∈ xT, w.before args s = true := fun w hw => hK.1 w hw args
  exact lv_ldc hx hb hown (hts _ hw) hd (kk p ev s m args below meth c H locs ls Cx hH hS hl)
theorem aw_ldcw {idx : Nat} (v : Int32) (hw : Cond.constant y.cls idx v ∈ xT) (hd : decode cc pc = .ok (.ldc_w idx, 3)) (kk : AW l G y cc nL ret R E QF k n (pc + 3) lv (.int v :: st) h) : AW l G y cc nL ret R E QF k n pc lv st h := by
  intro p ev s m args below meth c H locs ls Cx hH hS hl
  obtain ⟨hx, hb, hml, hr, hlk, hnm, hown, hK, hE, hB⟩ := id Cx
  have hts : ∀ w ∈ xT, w.before args s = true := fun w hw => hK.1 w hw args
  exact lv_ldcw hx hb hown (hts _ hw) hd (kk p ev s m args below meth c H locs ls Cx hH hS hl)
theorem aw_null (hd : decode cc pc = .ok (.aconst_null, 1)) (kk : AW l G y cc nL ret R E QF k n (pc + 1) lv (.null :: st) h) : AW l G y cc nL ret R E QF k n pc lv st h := by
  intro p ev s m args below meth c H locs ls Cx hH hS hl
  obtain ⟨hx, hb, hml, hr, hlk, hnm, hown, hK, hE, hB⟩ := id Cx
  exact lv_null hx hb hd (kk p ev s m args below meth c H locs ls Cx hH hS hl)
theorem aw_iload_n {z : Fin 4} {i : Nat} {x : Int32} (j : Nat) (hd : decode cc pc = .ok (.iload_n z, 1)) (hz : (z : Nat) = i) (hj : lv[j]? = some (i, .int x)) (kk : AW l G y cc nL ret R E QF k n (pc + 1) lv (.int x :: st) h) : AW l G y cc nL ret R E QF k n pc lv st h := by
  intro p ev s m args below meth c H locs ls Cx hH hS hl
  obtain ⟨hx, hb, hml, hr, hlk, hnm, hown, hK, hE, hB⟩ := id Cx
  exact lv_iload_n hx hb hd hz (lv_at hl j hj) (kk p ev s m args below meth c H locs ls Cx hH hS hl)
theorem aw_iload {i : Nat} {x : Int32} (j : Nat) (hd : decode cc pc = .ok (.iload i, 2)) (hj : lv[j]? = some (i, .int x)) (kk : AW l G y cc nL ret R E QF k n (pc + 2) lv (.int x :: st) h) : AW l G y cc nL ret R E QF k n pc lv st h := by
  intro p ev s m args below meth c H locs ls Cx hH hS hl
  obtain ⟨hx, hb, hml, hr, hlk, hnm, hown, hK, hE, hB⟩ := id Cx
  exact lv_iload hx hb hd (lv_at hl j hj) (kk p ev s m args below meth c H locs ls Cx hH hS hl)
theorem aw_aload_n {z : Fin 4} {i : Nat} {x : Nat} (j : Nat) (hd : decode cc pc = .ok (.aload_n z, 1)) (hz : (z : Nat) = i) (hj : lv[j]? = some (i, .ref x)) (kk : AW l G y cc nL ret R E QF k n (pc + 1) lv (.ref x :: st) h) : AW l G y cc nL ret R E QF k n pc lv st h := by
  intro p ev s m args below meth c H locs ls Cx hH hS hl
  obtain ⟨hx, hb, hml, hr, hlk, hnm, hown, hK, hE, hB⟩ := id Cx
  exact lv_aload_n hx hb hd hz (lv_at hl j hj) (kk p ev s m args below meth c H locs ls Cx hH hS hl)
theorem aw_aload {i : Nat} {x : Nat} (j : Nat) (hd : decode cc pc = .ok (.aload i, 2)) (hj : lv[j]? = some (i, .ref x)) (kk : AW l G y cc nL ret R E QF k n (pc + 2) lv (.ref x :: st) h) : AW l G y cc nL ret R E QF k n pc lv st h := by
  intro p ev s m args below meth c H locs ls Cx hH hS hl
  obtain ⟨hx, hb, hml, hr, hlk, hnm, hown, hK, hE, hB⟩ := id Cx
  exact lv_aload hx hb hd (lv_at hl j hj) (kk p ev s m args below meth c H locs ls Cx hH hS hl)
theorem aw_istore_n {z : Fin 4} {i : Nat} {x : Int32} (lv1 : List (Nat × Value)) (hd : decode cc pc = .ok (.istore_n z, 1)) (hz : (z : Nat) = i) (hn : i < nL) (he : (i, Value.int x) :: lv.filter (fun q => !(q.1 == i) && !(q.1 + 1 == i && q.2.category == 2)) = lv1) (kk : AW l G y cc nL ret R E QF k n (pc + 1) lv1 st h) : AW l G y cc nL ret R E QF k n pc lv (Value.int x :: st) h := by
  intro p ev s m args below meth c H locs ls Cx hH hS hl
  obtain ⟨hx, hb, hml, hr, hlk, hnm, hown, hK, hE, hB⟩ := id Cx
  exact lv_istore_n (lv' := lv1) hx hb hd hz hl hn he (fun ls hl => kk p ev s m args below meth c H locs ls Cx hH hS hl)
theorem aw_istore {i : Nat} {x : Int32} (lv1 : List (Nat × Value)) (hd : decode cc pc = .ok (.istore i, 2)) (hn : i < nL) (he : (i, Value.int x) :: lv.filter (fun q => !(q.1 == i) && !(q.1 + 1 == i && q.2.category == 2)) = lv1) (kk : AW l G y cc nL ret R E QF k n (pc + 2) lv1 st h) : AW l G y cc nL ret R E QF k n pc lv (Value.int x :: st) h := by
  intro p ev s m args below meth c H locs ls Cx hH hS hl
  obtain ⟨hx, hb, hml, hr, hlk, hnm, hown, hK, hE, hB⟩ := id Cx
  exact lv_istore (lv' := lv1) hx hb hd hl hn he (fun ls hl => kk p ev s m args below meth c H locs ls Cx hH hS hl)
theorem aw_astore_n {z : Fin 4} {i : Nat} {x : Nat} (lv1 : List (Nat × Value)) (hd : decode cc pc = .ok (.astore_n z, 1)) (hz : (z : Nat) = i) (hn : i < nL) (he : (i, Value.ref x) :: lv.filter (fun q => !(q.1 == i) && !(q.1 + 1 == i && q.2.category == 2)) = lv1) (kk : AW l G y cc nL ret R E QF k n (pc + 1) lv1 st h) : AW l G y cc nL ret R E QF k n pc lv (Value.ref x :: st) h := by
  intro p ev s m args below meth c H locs ls Cx hH hS hl
  obtain ⟨hx, hb, hml, hr, hlk, hnm, hown, hK, hE, hB⟩ := id Cx
  exact lv_astore_n (lv' := lv1) hx hb hd hz hl hn he (fun ls hl => kk p ev s m args below meth c H locs ls Cx hH hS hl)
theorem aw_astore {i : Nat} {x : Nat} (lv1 : List (Nat × Value)) (hd : decode cc pc = .ok (.astore i, 2)) (hn : i < nL) (he : (i, Value.ref x) :: lv.filter (fun q => !(q.1 == i) && !(q.1 + 1 == i && q.2.category == 2)) = lv1) (kk : AW l G y cc nL ret R E QF k n (pc + 2) lv1 st h) : AW l G y cc nL ret R E QF k n pc lv (Value.ref x :: st) h := by
  intro p ev s m args below meth c H locs ls Cx hH hS hl
  obtain ⟨hx, hb, hml, hr, hlk, hnm, hown, hK, hE, hB⟩ := id Cx
  exact lv_astore (lv' := lv1) hx hb hd hl hn he (fun ls hl => kk p ev s m args below meth c H locs ls Cx hH hS hl)
theorem aw_iinc {i j : Nat} {z : Int} {x : Int32} (v : Int32) (lv1 : List (Nat × Value)) (hd : decode cc pc = .ok (.iinc i z, 3)) (hj : lv[j]? = some (i, .int x)) (hv : x + Int32.ofInt z = v) (hn : i < nL) (he : (i, Value.int v) :: lv.filter (fun q => !(q.1 == i) && !(q.1 + 1 == i && q.2.category == 2)) = lv1) (kk : AW l G y cc nL ret R E QF k n (pc + 3) lv1 st h) : AW l G y cc nL ret R E QF k n pc lv st h := by
  intro p ev s m args below meth c H locs ls Cx hH hS hl
  obtain ⟨hx, hb, hml, hr, hlk, hnm, hown, hK, hE, hB⟩ := id Cx
  exact lv_iinc (v := v) (lv' := lv1) hx hb hd hl hj hv hn he (fun ls hl => kk p ev s m args below meth c H locs ls Cx hH hS hl)
theorem aw_iadd {x z : Int32} (hd : decode cc pc = .ok (.iadd, 1)) (kk : AW l G y cc nL ret R E QF k n (pc + 1) lv (.int (x + z) :: st) h) : AW l G y cc nL ret R E QF k n pc lv (.int z :: .int x :: st) h := by
  intro p ev s m args below meth c H locs ls Cx hH hS hl
  obtain ⟨hx, hb, hml, hr, hlk, hnm, hown, hK, hE, hB⟩ := id Cx
  exact lv_iadd hx hb hd (kk p ev s m args below meth c H locs ls Cx hH hS hl)
theorem aw_isub {x z : Int32} (hd : decode cc pc = .ok (.isub, 1)) (kk : AW l G y cc nL ret R E QF k n (pc + 1) lv (.int (x - z) :: st) h) : AW l G y cc nL ret R E QF k n pc lv (.int z :: .int x :: st) h := by
  intro p ev s m args below meth c H locs ls Cx hH hS hl
  obtain ⟨hx, hb, hml, hr, hlk, hnm, hown, hK, hE, hB⟩ := id Cx
  exact lv_isub hx hb hd (kk p ev s m args below meth c H locs ls Cx hH hS hl)
theorem aw_imul {x z : Int32} (hd : decode cc pc = .ok (.imul, 1)) (kk : AW l G y cc nL ret R E QF k n (pc + 1) lv (.int (x * z) :: st) h) : AW l G y cc nL ret R E QF k n pc lv (.int z :: .int x :: st) h := by
  intro p ev s m args below meth c H locs ls Cx hH hS hl
  obtain ⟨hx, hb, hml, hr, hlk, hnm, hown, hK, hE, hB⟩ := id Cx
  exact lv_imul hx hb hd (kk p ev s m args below meth c H locs ls Cx hH hS hl)
theorem aw_iand {x z : Int32} (hd : decode cc pc = .ok (.iand, 1)) (kk : AW l G y cc nL ret R E QF k n (pc + 1) lv (.int (x &&& z) :: st) h) : AW l G y cc nL ret R E QF k n pc lv (.int z :: .int x :: st) h := by
  intro p ev s m args below meth c H locs ls Cx hH hS hl
  obtain ⟨hx, hb, hml, hr, hlk, hnm, hown, hK, hE, hB⟩ := id Cx
  exact lv_iand hx hb hd (kk p ev s m args below meth c H locs ls Cx hH hS hl)
theorem aw_ior {x z : Int32} (hd : decode cc pc = .ok (.ior, 1)) (kk : AW l G y cc nL ret R E QF k n (pc + 1) lv (.int (x ||| z) :: st) h) : AW l G y cc nL ret R E QF k n pc lv (.int z :: .int x :: st) h := by
  intro p ev s m args below meth c H locs ls Cx hH hS hl
  obtain ⟨hx, hb, hml, hr, hlk, hnm, hown, hK, hE, hB⟩ := id Cx
  exact lv_ior hx hb hd (kk p ev s m args below meth c H locs ls Cx hH hS hl)
theorem aw_ixor {x z : Int32} (hd : decode cc pc = .ok (.ixor, 1)) (kk : AW l G y cc nL ret R E QF k n (pc + 1) lv (.int (x ^^^ z) :: st) h) : AW l G y cc nL ret R E QF k n pc lv (.int z :: .int x :: st) h := by
  intro p ev s m args below meth c H locs ls Cx hH hS hl
  obtain ⟨hx, hb, hml, hr, hlk, hnm, hown, hK, hE, hB⟩ := id Cx
  exact lv_ixor hx hb hd (kk p ev s m args below meth c H locs ls Cx hH hS hl)
theorem aw_ishl {x z : Int32} (hd : decode cc pc = .ok (.ishl, 1)) (kk : AW l G y cc nL ret R E QF k n (pc + 1) lv (.int (x <<< (z &&& 31)) :: st) h) : AW l G y cc nL ret R E QF k n pc lv (.int z :: .int x :: st) h := by
  intro p ev s m args below meth c H locs ls Cx hH hS hl
  obtain ⟨hx, hb, hml, hr, hlk, hnm, hown, hK, hE, hB⟩ := id Cx
  exact lv_ishl hx hb hd (kk p ev s m args below meth c H locs ls Cx hH hS hl)
theorem aw_ishr {x z : Int32} (hd : decode cc pc = .ok (.ishr, 1)) (kk : AW l G y cc nL ret R E QF k n (pc + 1) lv (.int (x >>> (z &&& 31)) :: st) h) : AW l G y cc nL ret R E QF k n pc lv (.int z :: .int x :: st) h := by
  intro p ev s m args below meth c H locs ls Cx hH hS hl
  obtain ⟨hx, hb, hml, hr, hlk, hnm, hown, hK, hE, hB⟩ := id Cx
  exact lv_ishr hx hb hd (kk p ev s m args below meth c H locs ls Cx hH hS hl)
theorem aw_iushr {x z : Int32} (v : Int32) (hd : decode cc pc = .ok (.iushr, 1)) (hv : (x.toUInt32 >>> (z.toUInt32 &&& Int32.toUInt32 31)).toInt32 = v) (kk : AW l G y cc nL ret R E QF k n (pc + 1) lv (.int v :: st) h) : AW l G y cc nL ret R E QF k n pc lv (.int z :: .int x :: st) h := by
  intro p ev s m args below meth c H locs ls Cx hH hS hl
  obtain ⟨hx, hb, hml, hr, hlk, hnm, hown, hK, hE, hB⟩ := id Cx
  exact lv_iushr hx hb hd hv (kk p ev s m args below meth c H locs ls Cx hH hS hl)
theorem aw_idiv {x z : Int32} (hd : decode cc pc = .ok (.idiv, 1)) (hne : ¬ z = 0) (kk : AW l G y cc nL ret R E QF k n (pc + 1) lv (.int (x / z) :: st) h) : AW l G y cc nL ret R E QF k n pc lv (.int z :: .int x :: st) h := by
  intro p ev s m args below meth c H locs ls Cx hH hS hl
  obtain ⟨hx, hb, hml, hr, hlk, hnm, hown, hK, hE, hB⟩ := id Cx
  exact lv_idiv hx hb hd hne (kk p ev s m args below meth c H locs ls Cx hH hS hl)
theorem aw_irem {x z : Int32} (hd : decode cc pc = .ok (.irem, 1)) (hne : ¬ z = 0) (kk : AW l G y cc nL ret R E QF k n (pc + 1) lv (.int (x - x / z * z) :: st) h) : AW l G y cc nL ret R E QF k n pc lv (.int z :: .int x :: st) h := by
  intro p ev s m args below meth c H locs ls Cx hH hS hl
  obtain ⟨hx, hb, hml, hr, hlk, hnm, hown, hK, hE, hB⟩ := id Cx
  exact lv_irem hx hb hd hne (kk p ev s m args below meth c H locs ls Cx hH hS hl)
theorem aw_ineg {x : Int32} (hd : decode cc pc = .ok (.ineg, 1)) (kk : AW l G y cc nL ret R E QF k n (pc + 1) lv (.int (-x) :: st) h) : AW l G y cc nL ret R E QF k n pc lv (.int x :: st) h := by
  intro p ev s m args below meth c H locs ls Cx hH hS hl
  obtain ⟨hx, hb, hml, hr, hlk, hnm, hown, hK, hE, hB⟩ := id Cx
  exact lv_ineg hx hb hd (kk p ev s m args below meth c H locs ls Cx hH hS hl)
theorem aw_land {x z : Int64} (hd : decode cc pc = .ok (.land, 1)) (kk : AW l G y cc nL ret R E QF k n (pc + 1) lv (.long (x &&& z) :: st) h) : AW l G y cc nL ret R E QF k n pc lv (.long z :: .long x :: st) h := by
  intro p ev s m args below meth c H locs ls Cx hH hS hl
  obtain ⟨hx, hb, hml, hr, hlk, hnm, hown, hK, hE, hB⟩ := id Cx
  exact lv_land hx hb hd (kk p ev s m args below meth c H locs ls Cx hH hS hl)
theorem aw_lor {x z : Int64} (hd : decode cc pc = .ok (.lor, 1)) (kk : AW l G y cc nL ret R E QF k n (pc + 1) lv (.long (x ||| z) :: st) h) : AW l G y cc nL ret R E QF k n pc lv (.long z :: .long x :: st) h := by
  intro p ev s m args below meth c H locs ls Cx hH hS hl
  obtain ⟨hx, hb, hml, hr, hlk, hnm, hown, hK, hE, hB⟩ := id Cx
  exact lv_lor hx hb hd (kk p ev s m args below meth c H locs ls Cx hH hS hl)
theorem aw_lshl {x : Int64} {z : Int32} (v : Int64) (hd : decode cc pc = .ok (.lshl, 1)) (hv : x <<< (z.toInt64 &&& 63) = v) (kk : AW l G y cc nL ret R E QF k n (pc + 1) lv (.long v :: st) h) : AW l G y cc nL ret R E QF k n pc lv (.int z :: .long x :: st) h := by
  intro p ev s m args below meth c H locs ls Cx hH hS hl
  obtain ⟨hx, hb, hml, hr, hlk, hnm, hown, hK, hE, hB⟩ := id Cx
  exact lv_lshl hx hb hd hv (kk p ev s m args below meth c H locs ls Cx hH hS hl)
theorem aw_lshr {x : Int64} {z : Int32} (v : Int64) (hd : decode cc pc = .ok (.lshr, 1)) (hv : x >>> (z.toInt64 &&& 63) = v) (kk : AW l G y cc nL ret R E QF k n (pc + 1) lv (.long v :: st) h) : AW l G y cc nL ret R E QF k n pc lv (.int z :: .long x :: st) h := by
  intro p ev s m args below meth c H locs ls Cx hH hS hl
  obtain ⟨hx, hb, hml, hr, hlk, hnm, hown, hK, hE, hB⟩ := id Cx
  exact lv_lshr hx hb hd hv (kk p ev s m args below meth c H locs ls Cx hH hS hl)
theorem aw_lcmp {x z : Int64} (hd : decode cc pc = .ok (.lcmp, 1)) (kk : AW l G y cc nL ret R E QF k n (pc + 1) lv (.int (lg_cmp x z) :: st) h) : AW l G y cc nL ret R E QF k n pc lv (.long z :: .long x :: st) h := by
  intro p ev s m args below meth c H locs ls Cx hH hS hl
  obtain ⟨hx, hb, hml, hr, hlk, hnm, hown, hK, hE, hB⟩ := id Cx
  exact W.lcmp hx hb hd (kk p ev s m args below meth c H locs ls Cx hH hS hl)
theorem aw_dup {v : Value} (hd : decode cc pc = .ok (.dup, 1)) (hc : v.category = 1) (kk : AW l G y cc nL ret R E QF k n (pc + 1) lv (v :: v :: st) h) : AW l G y cc nL ret R E QF k n pc lv (v :: st) h := by
  intro p ev s m args below meth c H locs ls Cx hH hS hl
  obtain ⟨hx, hb, hml, hr, hlk, hnm, hown, hK, hE, hB⟩ := id Cx
  exact lv_dup hx hb hd hc (kk p ev s m args below meth c H locs ls Cx hH hS hl)
theorem aw_dup2 {v w : Value} (hd : decode cc pc = .ok (.dup2, 1)) (hc : v.category = 1) (hc2 : w.category = 1) (kk : AW l G y cc nL ret R E QF k n (pc + 1) lv (v :: w :: v :: w :: st) h) : AW l G y cc nL ret R E QF k n pc lv (v :: w :: st) h := by
  intro p ev s m args below meth c H locs ls Cx hH hS hl
  obtain ⟨hx, hb, hml, hr, hlk, hnm, hown, hK, hE, hB⟩ := id Cx
  exact lv_dup2_11 hx hb hd hc hc2 (kk p ev s m args below meth c H locs ls Cx hH hS hl)
theorem aw_pop {v : Value} (hd : decode cc pc = .ok (.pop, 1)) (hc : v.category = 1) (kk : AW l G y cc nL ret R E QF k n (pc + 1) lv st h) : AW l G y cc nL ret R E QF k n pc lv (v :: st) h := by
  intro p ev s m args below meth c H locs ls Cx hH hS hl
  obtain ⟨hx, hb, hml, hr, hlk, hnm, hown, hK, hE, hB⟩ := id Cx
  exact lv_pop hx hb hd hc (kk p ev s m args below meth c H locs ls Cx hH hS hl)
theorem aw_if_eq {x : Int32} {off : Int} (tgt : Nat) (hd : decode cc pc = .ok (.ifCond .eq off, 3)) (ht : (pc : Int) + off = (tgt : Int)) (k1 : x = 0 → AW l G y cc nL ret R E QF k n tgt lv st h) (k2 : ¬ x = 0 → AW l G y cc nL ret R E QF k n (pc + 3) lv st h) : AW l G y cc nL ret R E QF k n pc lv (.int x :: st) h := by
  intro p ev s m args below meth c H locs ls Cx hH hS hl
  obtain ⟨hx, hb, hml, hr, hlk, hnm, hown, hK, hE, hB⟩ := id Cx
  exact lv_if_eq (tgt := tgt) hx hb hd ht (fun hc => k1 hc p ev s m args below meth c H locs ls Cx hH hS hl) (fun hc => k2 hc p ev s m args below meth c H locs ls Cx hH hS hl)
theorem aw_icmp_eq {x z : Int32} {off : Int} (tgt : Nat) (hd : decode cc pc = .ok (.if_icmp .eq off, 3)) (ht : (pc : Int) + off = (tgt : Int)) (k1 : x = z → AW l G y cc nL ret R E QF k n tgt lv st h) (k2 : ¬ x = z → AW l G y cc nL ret R E QF k n (pc + 3) lv st h) : AW l G y cc nL ret R E QF k n pc lv (.int z :: .int x :: st) h := by
  intro p ev s m args below meth c H locs ls Cx hH hS hl
  obtain ⟨hx, hb, hml, hr, hlk, hnm, hown, hK, hE, hB⟩ := id Cx
  exact lv_icmp_eq (tgt := tgt) hx hb hd ht (fun hc => k1 hc p ev s m args below meth c H locs ls Cx hH hS hl) (fun hc => k2 hc p ev s m args below meth c H locs ls Cx hH hS hl)
theorem aw_if_ne {x : Int32} {off : Int} (tgt : Nat) (hd : decode cc pc = .ok (.ifCond .ne off, 3)) (ht : (pc : Int) + off = (tgt : Int)) (k1 : ¬ x = 0 → AW l G y cc nL ret R E QF k n tgt lv st h) (k2 : x = 0 → AW l G y cc nL ret R E QF k n (pc + 3) lv st h) : AW l G y cc nL ret R E QF k n pc lv (.int x :: st) h := by
  intro p ev s m args below meth c H locs ls Cx hH hS hl
  obtain ⟨hx, hb, hml, hr, hlk, hnm, hown, hK, hE, hB⟩ := id Cx
  exact lv_if_ne (tgt := tgt) hx hb hd ht (fun hc => k1 hc p ev s m args below meth c H locs ls Cx hH hS hl) (fun hc => k2 hc p ev s m args below meth c H locs ls Cx hH hS hl)
theorem aw_icmp_ne {x z : Int32} {off : Int} (tgt : Nat) (hd : decode cc pc = .ok (.if_icmp .ne off, 3)) (ht : (pc : Int) + off = (tgt : Int)) (k1 : ¬ x = z → AW l G y cc nL ret R E QF k n tgt lv st h) (k2 : x = z → AW l G y cc nL ret R E QF k n (pc + 3) lv st h) : AW l G y cc nL ret R E QF k n pc lv (.int z :: .int x :: st) h := by
  intro p ev s m args below meth c H locs ls Cx hH hS hl
  obtain ⟨hx, hb, hml, hr, hlk, hnm, hown, hK, hE, hB⟩ := id Cx
  exact lv_icmp_ne (tgt := tgt) hx hb hd ht (fun hc => k1 hc p ev s m args below meth c H locs ls Cx hH hS hl) (fun hc => k2 hc p ev s m args below meth c H locs ls Cx hH hS hl)
theorem aw_if_lt {x : Int32} {off : Int} (tgt : Nat) (hd : decode cc pc = .ok (.ifCond .lt off, 3)) (ht : (pc : Int) + off = (tgt : Int)) (k1 : x < 0 → AW l G y cc nL ret R E QF k n tgt lv st h) (k2 : ¬ x < 0 → AW l G y cc nL ret R E QF k n (pc + 3) lv st h) : AW l G y cc nL ret R E QF k n pc lv (.int x :: st) h := by
  intro p ev s m args below meth c H locs ls Cx hH hS hl
  obtain ⟨hx, hb, hml, hr, hlk, hnm, hown, hK, hE, hB⟩ := id Cx
  exact lv_if_lt (tgt := tgt) hx hb hd ht (fun hc => k1 hc p ev s m args below meth c H locs ls Cx hH hS hl) (fun hc => k2 hc p ev s m args below meth c H locs ls Cx hH hS hl)
theorem aw_icmp_lt {x z : Int32} {off : Int} (tgt : Nat) (hd : decode cc pc = .ok (.if_icmp .lt off, 3)) (ht : (pc : Int) + off = (tgt : Int)) (k1 : x < z → AW l G y cc nL ret R E QF k n tgt lv st h) (k2 : ¬ x < z → AW l G y cc nL ret R E QF k n (pc + 3) lv st h) : AW l G y cc nL ret R E QF k n pc lv (.int z :: .int x :: st) h := by
  intro p ev s m args below meth c H locs ls Cx hH hS hl
  obtain ⟨hx, hb, hml, hr, hlk, hnm, hown, hK, hE, hB⟩ := id Cx
  exact lv_icmp_lt (tgt := tgt) hx hb hd ht (fun hc => k1 hc p ev s m args below meth c H locs ls Cx hH hS hl) (fun hc => k2 hc p ev s m args below meth c H locs ls Cx hH hS hl)
theorem aw_if_ge {x : Int32} {off : Int} (tgt : Nat) (hd : decode cc pc = .ok (.ifCond .ge off, 3)) (ht : (pc : Int) + off = (tgt : Int)) (k1 : 0 ≤ x → AW l G y cc nL ret R E QF k n tgt lv st h) (k2 : ¬ 0 ≤ x → AW l G y cc nL ret R E QF k n (pc + 3) lv st h) : AW l G y cc nL ret R E QF k n pc lv (.int x :: st) h := by
  intro p ev s m args below meth c H locs ls Cx hH hS hl
  obtain ⟨hx, hb, hml, hr, hlk, hnm, hown, hK, hE, hB⟩ := id Cx
  exact lv_if_ge (tgt := tgt) hx hb hd ht (fun hc => k1 hc p ev s m args below meth c H locs ls Cx hH hS hl) (fun hc => k2 hc p ev s m args below meth c H locs ls Cx hH hS hl)
theorem aw_icmp_ge {x z : Int32} {off : Int} (tgt : Nat) (hd : decode cc pc = .ok (.if_icmp .ge off, 3)) (ht : (pc : Int) + off = (tgt : Int)) (k1 : z ≤ x → AW l G y cc nL ret R E QF k n tgt lv st h) (k2 : ¬ z ≤ x → AW l G y cc nL ret R E QF k n (pc + 3) lv st h) : AW l G y cc nL ret R E QF k n pc lv (.int z :: .int x :: st) h := by
  intro p ev s m args below meth c H locs ls Cx hH hS hl
  obtain ⟨hx, hb, hml, hr, hlk, hnm, hown, hK, hE, hB⟩ := id Cx
  exact lv_icmp_ge (tgt := tgt) hx hb hd ht (fun hc => k1 hc p ev s m args below meth c H locs ls Cx hH hS hl) (fun hc => k2 hc p ev s m args below meth c H locs ls Cx hH hS hl)
theorem aw_if_gt {x : Int32} {off : Int} (tgt : Nat) (hd : decode cc pc = .ok (.ifCond .gt off, 3)) (ht : (pc : Int) + off = (tgt : Int)) (k1 : 0 < x → AW l G y cc nL ret R E QF k n tgt lv st h) (k2 : ¬ 0 < x → AW l G y cc nL ret R E QF k n (pc + 3) lv st h) : AW l G y cc nL ret R E QF k n pc lv (.int x :: st) h := by
  intro p ev s m args below meth c H locs ls Cx hH hS hl
  obtain ⟨hx, hb, hml, hr, hlk, hnm, hown, hK, hE, hB⟩ := id Cx
  exact lv_if_gt (tgt := tgt) hx hb hd ht (fun hc => k1 hc p ev s m args below meth c H locs ls Cx hH hS hl) (fun hc => k2 hc p ev s m args below meth c H locs ls Cx hH hS hl)
theorem aw_icmp_gt {x z : Int32} {off : Int} (tgt : Nat) (hd : decode cc pc = .ok (.if_icmp .gt off, 3)) (ht : (pc : Int) + off = (tgt : Int)) (k1 : z < x → AW l G y cc nL ret R E QF k n tgt lv st h) (k2 : ¬ z < x → AW l G y cc nL ret R E QF k n (pc + 3) lv st h) : AW l G y cc nL ret R E QF k n pc lv (.int z :: .int x :: st) h := by
  intro p ev s m args below meth c H locs ls Cx hH hS hl
  obtain ⟨hx, hb, hml, hr, hlk, hnm, hown, hK, hE, hB⟩ := id Cx
  exact lv_icmp_gt (tgt := tgt) hx hb hd ht (fun hc => k1 hc p ev s m args below meth c H locs ls Cx hH hS hl) (fun hc => k2 hc p ev s m args below meth c H locs ls Cx hH hS hl)
theorem aw_if_le {x : Int32} {off : Int} (tgt : Nat) (hd : decode cc pc = .ok (.ifCond .le off, 3)) (ht : (pc : Int) + off = (tgt : Int)) (k1 : x ≤ 0 → AW l G y cc nL ret R E QF k n tgt lv st h) (k2 : ¬ x ≤ 0 → AW l G y cc nL ret R E QF k n (pc + 3) lv st h) : AW l G y cc nL ret R E QF k n pc lv (.int x :: st) h := by
  intro p ev s m args below meth c H locs ls Cx hH hS hl
  obtain ⟨hx, hb, hml, hr, hlk, hnm, hown, hK, hE, hB⟩ := id Cx
  exact lv_if_le (tgt := tgt) hx hb hd ht (fun hc => k1 hc p ev s m args below meth c H locs ls Cx hH hS hl) (fun hc => k2 hc p ev s m args below meth c H locs ls Cx hH hS hl)
theorem aw_icmp_le {x z : Int32} {off : Int} (tgt : Nat) (hd : decode cc pc = .ok (.if_icmp .le off, 3)) (ht : (pc : Int) + off = (tgt : Int)) (k1 : x ≤ z → AW l G y cc nL ret R E QF k n tgt lv st h) (k2 : ¬ x ≤ z → AW l G y cc nL ret R E QF k n (pc + 3) lv st h) : AW l G y cc nL ret R E QF k n pc lv (.int z :: .int x :: st) h := by
  intro p ev s m args below meth c H locs ls Cx hH hS hl
  obtain ⟨hx, hb, hml, hr, hlk, hnm, hown, hK, hE, hB⟩ := id Cx
  exact lv_icmp_le (tgt := tgt) hx hb hd ht (fun hc => k1 hc p ev s m args below meth c H locs ls Cx hH hS hl) (fun hc => k2 hc p ev s m args below meth c H locs ls Cx hH hS hl)
theorem aw_goto {off : Int} (tgt : Nat) (hd : decode cc pc = .ok (.goto off, 3)) (ht : (pc : Int) + off = (tgt : Int)) (kk : AW l G y cc nL ret R E QF k n tgt lv st h) : AW l G y cc nL ret R E QF k n pc lv st h := by
  intro p ev s m args below meth c H locs ls Cx hH hS hl
  obtain ⟨hx, hb, hml, hr, hlk, hnm, hown, hK, hE, hB⟩ := id Cx
  exact lv_goto (tgt := tgt) hx hb hd ht (kk p ev s m args below meth c H locs ls Cx hH hS hl)
theorem aw_nonnull {x : Nat} {off : Int} (tgt : Nat) (hd : decode cc pc = .ok (.ifnonnull off, 3)) (ht : (pc : Int) + off = (tgt : Int)) (kk : AW l G y cc nL ret R E QF k n tgt lv st h) : AW l G y cc nL ret R E QF k n pc lv (.ref x :: st) h := by
  intro p ev s m args below meth c H locs ls Cx hH hS hl
  obtain ⟨hx, hb, hml, hr, hlk, hnm, hown, hK, hE, hB⟩ := id Cx
  exact lv_ifnonnull (tgt := tgt) hx hb hd ht (kk p ev s m args below meth c H locs ls Cx hH hS hl)
theorem aw_nonnullN {off : Int} (hd : decode cc pc = .ok (.ifnonnull off, 3)) (kk : AW l G y cc nL ret R E QF k n (pc + 3) lv st h) : AW l G y cc nL ret R E QF k n pc lv (.null :: st) h := by
  intro p ev s m args below meth c H locs ls Cx hH hS hl
  obtain ⟨hx, hb, hml, hr, hlk, hnm, hown, hK, hE, hB⟩ := id Cx
  exact lv_ifnonnullN hx hb hd (kk p ev s m args below meth c H locs ls Cx hH hS hl)
theorem aw_tableOut {dflt lo hi : Int} {offs : Array Int} {len : Nat} {x : Int32} (tgt : Nat) (hd : decode cc pc = .ok (.tableswitch dflt lo hi offs, len)) (h0 : x.toInt < lo ∨ hi < x.toInt) (ht : (pc : Int) + dflt = (tgt : Int)) (kk : AW l G y cc nL ret R E QF k n tgt lv st h) : AW l G y cc nL ret R E QF k n pc lv (.int x :: st) h := by
  intro p ev s m args below meth c H locs ls Cx hH hS hl
  obtain ⟨hx, hb, hml, hr, hlk, hnm, hown, hK, hE, hB⟩ := id Cx
  exact lv_tableOut (tgt := tgt) hx hb hd h0 ht (kk p ev s m args below meth c H locs ls Cx hH hS hl)
theorem aw_tableIn {dflt lo hi : Int} {offs : Array Int} {len : Nat} {x : Int32} {off : Int} (tgt : Nat) (hd : decode cc pc = .ok (.tableswitch dflt lo hi offs, len)) (h1 : ¬ x.toInt < lo) (h2 : ¬ hi < x.toInt) (ho : offs[(x.toInt - lo).toNat]? = some off) (ht : (pc : Int) + off = (tgt : Int)) (kk : AW l G y cc nL ret R E QF k n tgt lv st h) : AW l G y cc nL ret R E QF k n pc lv (.int x :: st) h := by
  intro p ev s m args below meth c H locs ls Cx hH hS hl
  obtain ⟨hx, hb, hml, hr, hlk, hnm, hown, hK, hE, hB⟩ := id Cx
  exact lv_tableIn (tgt := tgt) hx hb hd h1 h2 ho ht (kk p ev s m args below meth c H locs ls Cx hH hS hl)
theorem aw_get {idx ci f : Nat} {C : String} {T : u_T} {N : Nat} {ty : Nat → FieldType} (F : xFl y.cls idx ci f C T N ty) (hd : decode cc pc = .ok (.getfield idx, 3)) {i : Nat} {fs : List Value} {v : Value} (hc : h[i]? = some (.inr (ci, fs))) (hv : fs[f]? = some v) (kk : AW l G y cc nL ret R E QF k n (pc + 3) lv (v :: st) h) : AW l G y cc nL ret R E QF k n pc lv (.ref (G.1 + i) :: st) h := by
  intro p ev s m args below meth c H locs ls Cx hH hS hl
  obtain ⟨hx, hb, hml, hr, hlk, hnm, hown, hK, hE, hB⟩ := id Cx
  have hts : ∀ w ∈ xT, w.before args s = true := fun w hw => hK.1 w hw args
  exact va_get (D := G.2.1) hx hb hts F.1.2.1 hown hK.2.2.1 hH.1 i (xW_get hc) F.1.1 f F.2.1 (hts _ F.2.2) (fun _ h9 => h9) hv hd (kk p ev s m args below meth c H locs ls Cx hH hS hl)
theorem aw_put {idx ci f : Nat} {C : String} {T : u_T} {N : Nat} {ty : Nat → FieldType} (F : xFl y.cls idx ci f C T N ty) (hd : decode cc pc = .ok (.putfield idx, 3)) {i : Nat} {fs : List Value} {v : Value} (hc : h[i]? = some (.inr (ci, fs))) (hfin : (T f).2.2.2 = false) (hn : narrow (ty f) v = v) (hfit : fits (ty f) v = true) (hlen : f < fs.length) (kk : AW l G y cc nL ret R E QF k n (pc + 3) lv st (h.set i (.inr (ci, fs.set f v)))) : AW l G y cc nL ret R E QF k n pc lv (v :: .ref (G.1 + i) :: st) h := by
  intro p ev s m args below meth c H locs ls Cx hH hS hl
  obtain ⟨hx, hb, hml, hr, hlk, hnm, hown, hK, hE, hB⟩ := id Cx
  have hts : ∀ w ∈ xT, w.before args s = true := fun w hw => hK.1 w hw args
  have hty := F.1.2.2.1 f F.2.1
  have hap := va_apart (own := y.cls) hts F.1.2.1 ty F.1.2.2.1 F.1.2.2.2 hK.2.2.1 F.1.1
  obtain ⟨r, h1, cell, q1, q2, q3, q4⟩ := hH.1 i _ (xW_get hc)
  have hr' : r = (C, T, N) := Option.some.inj (h1.symm.trans F.1.1)
  subst hr'
  obtain ⟨hSl, hfc, kC, hkC, hkind⟩ := hK.2.2.1.1 ci _ F.1.1
  obtain ⟨cf, kf, fi, fd, hi, hsl⟩ := hSl f F.2.1
  have hlay := hts _ (F.1.2.1 _ (u_in_lay F.2.1))
  unfold u_lay at hlay
  have hst := (u_facts hfc hkC (u_lays hts F.1.2.1 F.2.1) hi).1
  rw [if_neg (by rw [hfin]; decide)] at hlay
  have h6 := u_store hfc hkC hkind hlay hi hty hn hfit
  refine W.putK hx hb (f := fd) ⟨hown, hts _ F.2.2, ⟨_, _, _, hi⟩, hst⟩ (by rw [q2]; exact h6) q1 q3 (by rw [hsl]; exact k2_hasslot (q4 f F.2.1)) rfl rfl hd fun H' e1 e2 e3 => ?_
  rw [hsl] at e1 ⊢
  refine kk p ev s m args below meth c H' _ ls Cx (hH.set hc e2 e3 ⟨_, F.1.1, t_OB.to (V := updV (vp_V fs) f v) ⟨_, e1, q2, q3, t_set q4 hap F.2.1 v⟩ (fun j _ => vp_updV_set hlen v j)⟩) (xS_put hS e2 e3 (Nat.le_add_right _ _)) hl
theorem aw_putF {idx ci f : Nat} {C : String} {T : u_T} {N : Nat} {ty : Nat → FieldType} (F : xFl y.cls idx ci f C T N ty) (hd : decode cc pc = .ok (.putfield idx, 3)) {i : Nat} {fs : List Value} {v : Value} (hc : h[i]? = some (.inr (ci, fs))) (hfin : (T f).2.2.2 = true) (hin : y.name = "<init>") (hdecl : (T f).1 = y.cls) (hn : narrow (ty f) v = v) (hfit : fits (ty f) v = true) (hlen : f < fs.length) (kk : AW l G y cc nL ret R E QF k n (pc + 3) lv st (h.set i (.inr (ci, fs.set f v)))) : AW l G y cc nL ret R E QF k n pc lv (v :: .ref (G.1 + i) :: st) h := by
  intro p ev s m args below meth c H locs ls Cx hH hS hl
  obtain ⟨hx, hb, hml, hr, hlk, hnm, hown, hK, hE, hB⟩ := id Cx
  have hts : ∀ w ∈ xT, w.before args s = true := fun w hw => hK.1 w hw args
  have hty := F.1.2.2.1 f F.2.1
  have hap := va_apart (own := y.cls) hts F.1.2.1 ty F.1.2.2.1 F.1.2.2.2 hK.2.2.1 F.1.1
  obtain ⟨r, h1, cell, q1, q2, q3, q4⟩ := hH.1 i _ (xW_get hc)
  have hr' : r = (C, T, N) := Option.some.inj (h1.symm.trans F.1.1)
  subst hr'
  obtain ⟨hSl, hfc, kC, hkC, hkind⟩ := hK.2.2.1.1 ci _ F.1.1
  obtain ⟨cf, kf, fi, fd, hi, hsl⟩ := hSl f F.2.1
  have hlay := hts _ (F.1.2.1 _ (u_in_lay F.2.1))
  unfold u_lay at hlay
  have hst := (u_facts hfc hkC (u_lays hts F.1.2.1 F.2.1) hi).1
  rw [if_pos hfin] at hlay
  have hcf : m.cls = cf := by
    obtain ⟨_, _, c', _, _, _, -, -, hf', -, -, -, hown2, -⟩ := Cond.laysFinal_spec hlay
    have e1 : c' = cf := by have := hi.symm.trans hf'; simp at this; exact this.1.symm
    rw [hdecl] at hown2
    rw [← e1]; exact Option.some.inj (hown.symm.trans hown2)
  have h6 := u_fits hfc hkC hkind (Or.inr hlay) hi hty hn hfit
  refine W.putFinK hx hb hown (hts _ F.2.2) hi hst hcf ((hnm hin).trans hin) (by rw [q2]; exact h6) q1 q3 (by rw [hsl]; exact k2_hasslot (q4 f F.2.1)) rfl rfl hd fun H' e1 e2 e3 => ?_
  rw [hsl] at e1 ⊢
  refine kk p ev s m args below meth c H' _ ls Cx (hH.set hc e2 e3 ⟨_, F.1.1, t_OB.to (V := updV (vp_V fs) f v) ⟨_, e1, q2, q3, t_set q4 hap F.2.1 v⟩ (fun j _ => vp_updV_set hlen v j)⟩) (xS_put hS e2 e3 (Nat.le_add_right _ _)) hl
theorem aw_iald {i : Nat} {N : Nat} {j : Int32} (x : Nat) (hj : j = nI x) (hx0 : x < N) (hN : N < 2 ^ 31) {f : Nat → Int32} (hd : decode cc pc = .ok (.iaload, 1)) (hc : h[i]? = some (.inl (0, N, .inl f))) (kk : AW l G y cc nL ret R E QF k n (pc + 1) lv (.int (f x) :: st) h) : AW l G y cc nL ret R E QF k n pc lv (.int j :: .ref (G.1 + i) :: st) h := by
  intro p ev s m args below meth c H locs ls Cx hH hS hl
  obtain ⟨hx, hb, hml, hr, hlk, hnm, hown, hK, hE, hB⟩ := id Cx
  subst hj
  have hin : vp_in (nI x) N := vp_in_nI hx0 hN
  have hcl : (nI x).toNatClampNeg = x := nI_clamp (Nat.lt_trans hx0 hN)
  exact va_iald (D := G.2.1) hx hb hK.2.2.1 hH.1 i 0 (xW_get hc) rfl hin hd (by rw [hcl]; exact (kk p ev s m args below meth c H locs ls Cx hH hS hl))
theorem aw_zald {i : Nat} {N : Nat} {j : Int32} (x : Nat) (hj : j = nI x) (hx0 : x < N) (hN : N < 2 ^ 31) {f : Nat → Int32} (hd : decode cc pc = .ok (.baload, 1)) (hc : h[i]? = some (.inl (2, N, .inl f))) (kk : AW l G y cc nL ret R E QF k n (pc + 1) lv (.int (f x) :: st) h) : AW l G y cc nL ret R E QF k n pc lv (.int j :: .ref (G.1 + i) :: st) h := by
  intro p ev s m args below meth c H locs ls Cx hH hS hl
  obtain ⟨hx, hb, hml, hr, hlk, hnm, hown, hK, hE, hB⟩ := id Cx
  subst hj
  have hin : vp_in (nI x) N := vp_in_nI hx0 hN
  have hcl : (nI x).toNatClampNeg = x := nI_clamp (Nat.lt_trans hx0 hN)
  exact va_zald (D := G.2.1) hx hb hK.2.2.1 hH.1 i 2 (xW_get hc) rfl hin hd (by rw [hcl]; exact (kk p ev s m args below meth c H locs ls Cx hH hS hl))
theorem aw_lald {i : Nat} {N : Nat} {j : Int32} (x : Nat) (hj : j = nI x) (hx0 : x < N) (hN : N < 2 ^ 31) {f : Nat → Int64} (hd : decode cc pc = .ok (.laload, 1)) (hc : h[i]? = some (.inl (1, N, .inr (.inl f)))) (kk : AW l G y cc nL ret R E QF k n (pc + 1) lv (.long (f x) :: st) h) : AW l G y cc nL ret R E QF k n pc lv (.int j :: .ref (G.1 + i) :: st) h := by
  intro p ev s m args below meth c H locs ls Cx hH hS hl
  obtain ⟨hx, hb, hml, hr, hlk, hnm, hown, hK, hE, hB⟩ := id Cx
  subst hj
  have hin : vp_in (nI x) N := vp_in_nI hx0 hN
  have hcl : (nI x).toNatClampNeg = x := nI_clamp (Nat.lt_trans hx0 hN)
  exact va_lald (D := G.2.1) hx hb hK.2.2.1 hH.1 i 1 (xW_get hc) rfl hin hd (by rw [hcl]; exact (kk p ev s m args below meth c H locs ls Cx hH hS hl))
theorem aw_aald {i : Nat} {N : Nat} {j : Int32} (x : Nat) (hj : j = nI x) (hx0 : x < N) (hN : N < 2 ^ 31) {f : Nat → Option Nat} (hd : decode cc pc = .ok (.aaload, 1)) (hc : h[i]? = some (.inl (3, N, .inr (.inr (.inr (.inr f)))))) (kk : AW l G y cc nL ret R E QF k n (pc + 1) lv (va_rf (f x) :: st) h) : AW l G y cc nL ret R E QF k n pc lv (.int j :: .ref (G.1 + i) :: st) h := by
  intro p ev s m args below meth c H locs ls Cx hH hS hl
  obtain ⟨hx, hb, hml, hr, hlk, hnm, hown, hK, hE, hB⟩ := id Cx
  subst hj
  have hin : vp_in (nI x) N := vp_in_nI hx0 hN
  have hcl : (nI x).toNatClampNeg = x := nI_clamp (Nat.lt_trans hx0 hN)
  exact va_aldq (D := G.2.1) hx hb hK.2.2.1 hH.1 i 3 (xW_get hc) rfl hin hd (by rw [hcl]; exact (kk p ev s m args below meth c H locs ls Cx hH hS hl))
theorem aw_iast {i : Nat} {N : Nat} {j : Int32} (x : Nat) (hj : j = nI x) (hx0 : x < N) (hN : N < 2 ^ 31) {f : Nat → Int32} {v : Int32} (hd : decode cc pc = .ok (.iastore, 1)) (hc : h[i]? = some (.inl (0, N, .inl f))) (kk : AW l G y cc nL ret R E QF k n (pc + 1) lv st (h.set i (.inl (0, N, .inl (upd f x v))))) : AW l G y cc nL ret R E QF k n pc lv (.int v :: .int j :: .ref (G.1 + i) :: st) h := by
  intro p ev s m args below meth c H locs ls Cx hH hS hl
  obtain ⟨hx, hb, hml, hr, hlk, hnm, hown, hK, hE, hB⟩ := id Cx
  subst hj
  have hin : vp_in (nI x) N := vp_in_nI hx0 hN
  have hcl : (nI x).toNatClampNeg = x := nI_clamp (Nat.lt_trans hx0 hN)
  refine W.iast hx hb (hH.1 i _ (xW_get hc)) ((hK.2.2.1.2 0 _ rfl).1 N (fun j => .int (f j))) (fun q => by cases q) (by show ¬ (nI x < 0 ∨ (arrV _ _ _).slots.size ≤ _); rw [arrV_size]; exact hin) rfl rfl hd fun H1 e1 z oq => ?_
  refine kk p ev s m args below meth c H1 _ ls Cx (hH.set hc z oq ?_) (xS_put hS z oq (Nat.le_add_right _ _)) hl
  show H1[_]? = some (vp_cell _ _)
  rw [e1, hcl]
  rw [vp_cell_i, vp_cell_i, arrV_store]
  congr 2
  funext q
  by_cases hq : q = x
  · subst hq
    simp [updV, upd]
  · simp [updV, upd, hq]
theorem aw_last {i : Nat} {N : Nat} {j : Int32} (x : Nat) (hj : j = nI x) (hx0 : x < N) (hN : N < 2 ^ 31) {f : Nat → Int64} {v : Int64} (hd : decode cc pc = .ok (.lastore, 1)) (hc : h[i]? = some (.inl (1, N, .inr (.inl f)))) (kk : AW l G y cc nL ret R E QF k n (pc + 1) lv st (h.set i (.inl (1, N, .inr (.inl (vp_updL f x v)))))) : AW l G y cc nL ret R E QF k n pc lv (.long v :: .int j :: .ref (G.1 + i) :: st) h := by
  intro p ev s m args below meth c H locs ls Cx hH hS hl
  obtain ⟨hx, hb, hml, hr, hlk, hnm, hown, hK, hE, hB⟩ := id Cx
  subst hj
  have hin : vp_in (nI x) N := vp_in_nI hx0 hN
  have hcl : (nI x).toNatClampNeg = x := nI_clamp (Nat.lt_trans hx0 hN)
  refine W.last hx hb (hH.1 i _ (xW_get hc)) ((hK.2.2.1.2 1 _ rfl).1 N (fun j => .long (f j))) (fun q => by cases q) (by show ¬ (nI x < 0 ∨ (arrV _ _ _).slots.size ≤ _); rw [arrV_size]; exact hin) rfl rfl hd fun H1 e1 z oq => ?_
  refine kk p ev s m args below meth c H1 _ ls Cx (hH.set hc z oq ?_) (xS_put hS z oq (Nat.le_add_right _ _)) hl
  show H1[_]? = some (vp_cell _ _)
  rw [e1, hcl]
  rw [vp_cell_l, vp_cell_l, arrV_store]
  congr 2
  funext q
  by_cases hq : q = x
  · subst hq
    simp [updV, vp_updL]
  · simp [updV, vp_updL, hq]
end AX
