/-- a contract with one answer, and a word on the heap behind it -/
def CE (l : Launch) (G : xG) (y : MethodName) (cc : ByteArray) (nL : Nat) (ret : Option FieldType) (d mc ms : Nat) (av : List Value) (h : List va_E) (r : Option Value) (P : List va_E → Prop) : Prop :=
  CM l G y cc nL ret d mc ms av h (fun v h2 => v = r ∧ P h2)
theorem CD.e {l : Launch} {G : xG} {y : MethodName} {cc : ByteArray} {nL : Nat} {ret : Option FieldType} {d mc ms : Nat} {av : List Value} {h : List va_E} {r : Option Value} {h1 : List va_E} {P : List va_E → Prop} (hM : CD l G y cc nL ret d mc ms av h r h1) (hP : P h1) : CE l G y cc nL ret d mc ms av h r P :=
  CM.post hM (fun v h2 q => ⟨q.1, by rw [q.2]; exact hP⟩)
theorem CE.mono {l : Launch} {G : xG} {y : MethodName} {cc : ByteArray} {nL : Nat} {ret : Option FieldType} {d mc ms : Nat} {av : List Value} {h : List va_E} {r : Option Value} {P Q : List va_E → Prop} (hM : CE l G y cc nL ret d mc ms av h r P) (hP : ∀ h1, P h1 → Q h1) : CE l G y cc nL ret d mc ms av h r Q :=
  CM.post hM (fun v h2 q => ⟨q.1, hP h2 q.2⟩)
/-- the reference's cells stay -/
def kp (h h1 : List va_E) : Prop := ∀ j, 88 ≤ j → j < 125 → h1[j]? = h[j]?
theorem kp_rf (h : List va_E) : kp h h := fun _ _ _ => rfl
theorem kp_tr {h h1 h2 : List va_E} (a : kp h h1) (b : kp h1 h2) : kp h h2 := fun j q1 q2 => (b j q1 q2).trans (a j q1 q2)
theorem kp_set {h h1 : List va_E} {i : Nat} {c : va_E} (a : kp h h1) (hi : i < 88 ∨ 125 ≤ i) : kp h (h1.set i c) := fun j q1 q2 => by
  rw [List.getElem?_set_ne (by omega)]; exact a j q1 q2
theorem kp_app {h h1 : List va_E} {c : List va_E} (a : kp h h1) (hl : 125 ≤ h1.length) : kp h (h1 ++ c) := fun j q1 q2 => by
  rw [List.getElem?_append_left (by omega)]; exact a j q1 q2

section AU
variable {l : Launch} {G : xG} {y : MethodName} {cc : ByteArray} {nL : Nat} {ret : Option FieldType} {R : Room} {E : Array Value → State → Prop} {QF : List Frame → Array Value → State → State → Prop} {k n pc : Nat} {lv : List (Nat × Value)} {st : List Value} {h : List va_E} {mc ms : Nat} {post : Option Value → List va_E → Prop}

theorem aw_eS {idx : Nat} {y' : MethodName} {cc' : ByteArray} {nL' : Nat} {ret' : Option FieldType} {np d' mc' ms' : Nat} {r : Value} {P : List va_E → Prop} {st0 : List Value} (As rest : List Value) (Lk : Cond.methodLink y.cls idx y' ∈ xT) (Ls : Cond.static y' ∈ xT) (Lm : xMd y' cc' nL' ret' np) (hd : decode cc pc = .ok (.invokestatic idx, 3)) (hM : CE l G y' cc' nL' ret' d' mc' ms' As h (some r) P) (hn : As.length = np) (hst : (rest.map fun v => v.category).sum ≤ 8) (hR : d' + 1 ≤ R.frames ∧ 8 + (nL' + 11) + 40 * d' ≤ R.locals) (hk : k + mc' ≤ R.cells ∧ n + ms' ≤ R.slots) (he : st0 = As.reverse ++ rest)
    (kk : ∀ h1, P h1 → AW l G y cc nL ret R E QF (k + mc') (n + ms') (pc + 3) lv (r :: rest) h1) : AW l G y cc nL ret R E QF k n pc lv st0 h := by
  refine aw_callS As rest Lk Ls Lm hd hM hn hst hR hk he ?_
  rintro v h2 ⟨rfl, hP⟩
  exact kk h2 hP
theorem aw_eV {idx i ci : Nat} {fs : List Value} {q : vw_C} {y' : MethodName} {cc' : ByteArray} {nL' : Nat} {ret' : Option FieldType} {np d' mc' ms' : Nat} {r : Value} {P : List va_E → Prop} {st0 : List Value} (As rest : List Value) (Lk : Cond.methodLink y.cls idx y' ∈ xT) (Ls : Cond.instanceMethod y' ∈ xT ∧ Cond.selects y'.cls y' y' ∈ xT) (Lm : xMd y' cc' nL' ret' np) (hd : decode cc pc = .ok (.invokevirtual idx, 3)) (hM : CE l G y' cc' nL' ret' d' mc' ms' (.ref (G.1 + i) :: As) h (some r) P) (hc : h[i]? = some (.inr (ci, fs))) (hci : vwCl[ci]? = some q) (hr1 : q.1 = y'.cls) (hn : As.length = np) (hst : (rest.map fun v => v.category).sum ≤ 8) (hR : d' + 1 ≤ R.frames ∧ 8 + (nL' + 11) + 40 * d' ≤ R.locals) (hk : k + mc' ≤ R.cells ∧ n + ms' ≤ R.slots) (he : st0 = As.reverse ++ .ref (G.1 + i) :: rest)
    (kk : ∀ h1, P h1 → AW l G y cc nL ret R E QF (k + mc') (n + ms') (pc + 3) lv (r :: rest) h1) : AW l G y cc nL ret R E QF k n pc lv st0 h := by
  refine aw_callV As rest Lk Ls Lm hd hM hc hci hr1 hn hst hR hk he ?_
  rintro v h2 ⟨rfl, hP⟩
  exact kk h2 hP
theorem aw_eW {idx i ci : Nat} {fs : List Value} {q : vw_C} {y' : MethodName} {cc' : ByteArray} {nL' : Nat} {ret' : Option FieldType} {np d' mc' ms' : Nat} {P : List va_E → Prop} {st0 : List Value} (As rest : List Value) (Lk : Cond.methodLink y.cls idx y' ∈ xT) (Ls : Cond.instanceMethod y' ∈ xT ∧ Cond.selects y'.cls y' y' ∈ xT) (Lm : xMd y' cc' nL' ret' np) (hd : decode cc pc = .ok (.invokevirtual idx, 3)) (hM : CE l G y' cc' nL' ret' d' mc' ms' (.ref (G.1 + i) :: As) h none P) (hc : h[i]? = some (.inr (ci, fs))) (hci : vwCl[ci]? = some q) (hr1 : q.1 = y'.cls) (hn : As.length = np) (hst : (rest.map fun v => v.category).sum ≤ 8) (hR : d' + 1 ≤ R.frames ∧ 8 + (nL' + 11) + 40 * d' ≤ R.locals) (hk : k + mc' ≤ R.cells ∧ n + ms' ≤ R.slots) (he : st0 = As.reverse ++ .ref (G.1 + i) :: rest)
    (kk : ∀ h1, P h1 → AW l G y cc nL ret R E QF (k + mc') (n + ms') (pc + 3) lv rest h1) : AW l G y cc nL ret R E QF k n pc lv st0 h := by
  refine aw_callV As rest Lk Ls Lm hd hM hc hci hr1 hn hst hR hk he ?_
  rintro v h2 ⟨rfl, hP⟩
  exact kk h2 hP
theorem aw_eI {idx i : Nat} {y' : MethodName} {cc' : ByteArray} {nL' : Nat} {np d' mc' ms' : Nat} {P : List va_E → Prop} {st0 : List Value} (As rest : List Value) (Lk : Cond.methodLink y.cls idx y' ∈ xT) (Ls : y'.name = "<init>" ∧ Cond.instanceMethod y' ∈ xT) (Lm : xMd y' cc' nL' none np) (hd : decode cc pc = .ok (.invokespecial idx, 3)) (hM : CE l G y' cc' nL' none d' mc' ms' (.ref i :: As) h none P) (hn : As.length = np) (hst : (rest.map fun v => v.category).sum ≤ 8) (hR : d' + 1 ≤ R.frames ∧ 8 + (nL' + 11) + 40 * d' ≤ R.locals) (hk : k + mc' ≤ R.cells ∧ n + ms' ≤ R.slots) (he : st0 = As.reverse ++ .ref i :: rest)
    (kk : ∀ h1, P h1 → AW l G y cc nL ret R E QF (k + mc') (n + ms') (pc + 3) lv rest h1) : AW l G y cc nL ret R E QF k n pc lv st0 h := by
  refine aw_callI As rest Lk Ls Lm hd hM hn hst hR hk he ?_
  rintro v h2 ⟨rfl, hP⟩
  exact kk h2 hP
theorem aw_eN {idx i : Nat} {host : String} {y' : MethodName} {cc' : ByteArray} {nL' : Nat} {np d' mc' ms' : Nat} {P : List va_E → Prop} {st0 : List Value} (As rest : List Value) (Lk : Cond.methodLinkNest y.cls idx y' host ∈ tables_1) (Ls : y'.name = "<init>" ∧ Cond.instanceMethod y' ∈ xT) (Lm : xMd y' cc' nL' none np) (hd : decode cc pc = .ok (.invokespecial idx, 3)) (hM : CE l G y' cc' nL' none d' mc' ms' (.ref i :: As) h none P) (hn : As.length = np) (hst : (rest.map fun v => v.category).sum ≤ 8) (hR : d' + 1 ≤ R.frames ∧ 8 + (nL' + 11) + 40 * d' ≤ R.locals) (hk : k + mc' ≤ R.cells ∧ n + ms' ≤ R.slots) (he : st0 = As.reverse ++ .ref i :: rest)
    (kk : ∀ h1, P h1 → AW l G y cc nL ret R E QF (k + mc') (n + ms') (pc + 3) lv rest h1) : AW l G y cc nL ret R E QF k n pc lv st0 h := by
  refine aw_callN As rest Lk Ls Lm hd hM hn hst hR hk he ?_
  rintro v h2 ⟨rfl, hP⟩
  exact kk h2 hP
theorem aw_newQ {idx ci : Nat} {C : String} {T : u_T} {N : Nat} {ty : Nat → FieldType} (q : Nat) (F : xNw y.cls idx ci C T N ty) (hd : decode cc pc = .ok (.new idx, 3)) (fs : List Value) (hfs : ∀ j, j < N → defaultValue (ty j) = vp_V fs j) (h1 : k + 1 ≤ R.cells) (h2 : n + N ≤ R.slots) (hq : h.length = q) (kk : AW l G y cc nL ret R E QF (k + 1) (n + N) (pc + 3) lv (.ref (G.1 + q) :: st) (h ++ [.inr (ci, fs)])) : AW l G y cc nL ret R E QF k n pc lv st h := by
  subst hq
  exact aw_new F hd fs hfs h1 h2 kk
theorem aw_newaQ {at_ : ArrayType} {ty : FieldType} {ki : Nat} {j : Int32} (q : Nat) (N : Nat) (a0 : vp_A) (hw : Cond.arrayClass ty ∈ xT) (hd : decode cc pc = .ok (.newarray at_, 2)) (hty : newarray.typeOf at_ = ty) (hk : (xtys G)[ki]? = some (G.2.2 ki, ty)) (ha : ∀ cA : ClassId, vp_cell cA a0 = arrV cA N (fun _ => defaultValue ty)) (hj : j = nI N) (hN : N < 2 ^ 31) (hby : N * componentBytes ty ≤ 536870912) (h1 : k + 1 ≤ R.cells) (h2 : n + N ≤ R.slots) (hq : h.length = q) (kk : AW l G y cc nL ret R E QF (k + 1) (n + N) (pc + 2) lv (.ref (G.1 + q) :: st) (h ++ [.inl (ki, a0)])) : AW l G y cc nL ret R E QF k n pc lv (.int j :: st) h := by
  subst hq
  exact aw_newa N a0 hw hd hty hk ha hj hN hby h1 h2 kk
theorem aw_anewaQ {idx : Nat} {j : Int32} (q : Nat) (N : Nat) (hw : Cond.classLink y.cls idx RX4 ∈ xT) (hd : decode cc pc = .ok (.anewarray idx, 3)) (hj : j = nI N) (hN : N < 2 ^ 31) (hby : N * 4 ≤ 536870912) (h1 : k + 1 ≤ R.cells) (h2 : n + N ≤ R.slots) (hq : h.length = q) (kk : AW l G y cc nL ret R E QF (k + 1) (n + N) (pc + 3) lv (.ref (G.1 + q) :: st) (h ++ [.inl (3, N, .inr (.inr (.inr (.inr (fun _ => none)))))])) : AW l G y cc nL ret R E QF k n pc lv (.int j :: st) h := by
  subst hq
  exact aw_anewa N hw hd hj hN hby h1 h2 kk
theorem aw_putQ {idx ci f : Nat} {C : String} {T : u_T} {N : Nat} {ty : Nat → FieldType} (F : xFl y.cls idx ci f C T N ty) (hd : decode cc pc = .ok (.putfield idx, 3)) {i : Nat} {fs : List Value} {v : Value} (fs1 : List Value) (hc : h[i]? = some (.inr (ci, fs))) (hfin : (T f).2.2.2 = false) (hn : narrow (ty f) v = v) (hfit : fits (ty f) v = true) (hlen : f < fs.length) (he : fs.set f v = fs1) (kk : AW l G y cc nL ret R E QF k n (pc + 3) lv st (h.set i (.inr (ci, fs1)))) : AW l G y cc nL ret R E QF k n pc lv (v :: .ref (G.1 + i) :: st) h := by
  subst he
  exact aw_put F hd hc hfin hn hfit hlen kk
theorem aw_putFQ {idx ci f : Nat} {C : String} {T : u_T} {N : Nat} {ty : Nat → FieldType} (F : xFl y.cls idx ci f C T N ty) (hd : decode cc pc = .ok (.putfield idx, 3)) {i : Nat} {fs : List Value} {v : Value} (fs1 : List Value) (hc : h[i]? = some (.inr (ci, fs))) (hfin : (T f).2.2.2 = true) (hin : y.name = "<init>") (hdecl : (T f).1 = y.cls) (hn : narrow (ty f) v = v) (hfit : fits (ty f) v = true) (hlen : f < fs.length) (he : fs.set f v = fs1) (kk : AW l G y cc nL ret R E QF k n (pc + 3) lv st (h.set i (.inr (ci, fs1)))) : AW l G y cc nL ret R E QF k n pc lv (v :: .ref (G.1 + i) :: st) h := by
  subst he
  exact aw_putF F hd hc hfin hin hdecl hn hfit hlen kk
/-- of the heap only a word is kept -/
theorem aw_fg (P : List va_E → Prop) (hp : P h) (kk : ∀ h2, P h2 → AW l G y cc nL ret R E QF k n pc lv st h2) : AW l G y cc nL ret R E QF k n pc lv st h := kk h hp
end AU
def xid (i : Nat) : Nat → Int32 := fun j => if j < i then nI j else 0
def xcs (c : Int32) (i : Nat) : Nat → Int32 := fun j => if j < i then c else 0
theorem xid_0 : (fun _ => 0 : Nat → Int32) = xid 0 := by funext j; simp [xid]
theorem xcs_0 (c : Int32) : (fun _ => 0 : Nat → Int32) = xcs c 0 := by funext j; simp [xcs]
theorem xid_s (i : Nat) : upd (xid i) i (nI i) = xid (i + 1) := by
  funext j
  simp only [upd, xid]
  by_cases h1 : j = i
  · subst h1; simp
  · by_cases h2 : j < i
    · simp [h1, h2, Nat.lt_succ_of_lt h2]
    · simp [h1, h2, show ¬ j < i + 1 by omega]
theorem xcs_s (c : Int32) (i : Nat) : upd (xcs c i) i c = xcs c (i + 1) := by
  funext j
  simp only [upd, xcs]
  by_cases h1 : j = i
  · subst h1; simp
  · by_cases h2 : j < i
    · simp [h1, h2, Nat.lt_succ_of_lt h2]
    · simp [h1, h2, show ¬ j < i + 1 by omega]
theorem xid_at {i j : Nat} (h : j < i) : xid i j = nI j := by simp [xid, h]
theorem xcs_at {c : Int32} {i j : Nat} (h : j < i) : xcs c i j = c := by simp [xcs, h]

/-- the cells below a stay -/
def lo (a : Nat) (h h1 : List va_E) : Prop := ∀ j, j < a → h1[j]? = h[j]?
theorem lo_rf (a : Nat) (h : List va_E) : lo a h h := fun _ _ => rfl
theorem lo_tr {a b : Nat} {h h1 h2 : List va_E} (p : lo a h h1) (q : lo b h1 h2) (hab : a ≤ b) : lo a h h2 := fun j hj => (q j (by omega)).trans (p j hj)
theorem lo_set {a i : Nat} {h h1 : List va_E} {c : va_E} (p : lo a h h1) (hi : a ≤ i) : lo a h (h1.set i c) := fun j q1 => by
  rw [List.getElem?_set_ne (by omega)]; exact p j q1
theorem lo_app {a : Nat} {h h1 : List va_E} {c : List va_E} (p : lo a h h1) (hl : a ≤ h1.length) : lo a h (h1 ++ c) := fun j q1 => by
  rw [List.getElem?_append_left (by omega)]; exact p j q1
theorem lo_at {a i : Nat} {h h1 : List va_E} {c : Option va_E} (p : lo a h h1) (hi : i < a) (e : h[i]? = c) : h1[i]? = c := (p i hi).trans e

theorem xid_f : upd (fun _ => 0) 0 0 = xid 1 := by
  rw [xid_0]; exact xid_s 0
theorem xid_q (i j : Nat) (v : Int32) (hj : j = i + 1) (hv : v = nI i) : upd (xid i) i v = xid j := by
  rw [hj, hv]; exact xid_s i
theorem xcs_f (c : Int32) : upd (fun _ => 0) 0 c = xcs c 1 := by
  rw [xcs_0 c]; exact xcs_s c 0
theorem xcs_q (c : Int32) (i j : Nat) (hj : j = i + 1) : upd (xcs c i) i c = xcs c j := by
  rw [hj]; exact xcs_s c i
def xjo (B i : Nat) : Nat → Option Nat := fun k => if k < i then some (B + (13 + 3 * k)) else none
theorem xjo_q (B i j q : Nat) (hj : j = i + 1) (hq : q = 13 + 3 * i) : va_up (xjo B i) i (some (B + q)) = xjo B j := by
  subst hj; subst hq
  funext k
  simp only [va_up, xjo]
  by_cases h1 : k = i
  · subst h1; simp
  · by_cases h2 : k < i
    · simp [h1, h2, Nat.lt_succ_of_lt h2]
    · simp [h1, h2, show ¬ k < i + 1 by omega]
theorem xjo_f (B : Nat) : va_up (fun _ => none) 0 (some (B + 13)) = xjo B 1 := by
  have e : (fun _ => none : Nat → Option Nat) = xjo B 0 := by funext k; simp [xjo]
  rw [e]; exact xjo_q B 0 1 13 rfl rfl
theorem xjo_at {B i j : Nat} (h : j < i) : xjo B i j = some (B + (13 + 3 * j)) := by simp [xjo, h]
