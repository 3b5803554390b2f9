section AY
variable {l : Launch} {G : xG} {y : MethodName} {cc : ByteArray} {nL : Nat} {ret : Option FieldType} {R : Room} {E : Array Value → State → Prop} {QF : List Frame → Array Value → State → State → Prop} {k n pc : Nat} {lv : List (Nat × Value)} {st : List Value} {h : List va_E}
theorem aw_widen {k1 n1 : Nat} (h1 : k ≤ k1) (h2 : n ≤ n1) (kk : AW l G y cc nL ret R E QF k1 n1 pc lv st h) : AW l G y cc nL ret R E QF k n pc lv st h := by
  intro p ev s m args below meth c H locs ls Cx hH hS hl
  exact W.widen h1 h2 (kk p ev s m args below meth c H locs ls Cx hH hS hl)
/-- fewer locals are known, or in another order -/
theorem aw_lv (lv1 : List (Nat × Value)) (is : List Nat) (he : is.filterMap (fun i => lv[i]?) = lv1) (kk : AW l G y cc nL ret R E QF k n pc lv1 st h) : AW l G y cc nL ret R E QF k n pc lv st h := by
  intro p ev s m args below meth c H locs ls Cx hH hS hl
  exact kk p ev s m args below meth c H locs ls Cx hH hS (lv_sub hl is he)
theorem aw_zast {i : Nat} {N : Nat} {j : Int32} (x : Nat) (hj : j = nI x) (hx0 : x < N) (hN : N < 2 ^ 31) {f : Nat → Int32} {v : Int32} (hd : decode cc pc = .ok (.bastore, 1)) (hc : h[i]? = some (.inl (2, N, .inl f))) (kk : AW l G y cc nL ret R E QF k n (pc + 1) lv st (h.set i (.inl (2, N, .inl (upd f x (vp_nar .boolean v)))))) : AW l G y cc nL ret R E QF k n pc lv (.int v :: .int j :: .ref (G.1 + i) :: st) h := by
  intro p ev s m args below meth c H locs ls Cx hH hS hl
  obtain ⟨hx, hb, hml, hr, hlk, hnm, hown, hK, hE, hB⟩ := id Cx
  subst hj
  have hin : vp_in (nI x) N := vp_in_nI hx0 hN
  have hcl : (nI x).toNatClampNeg = x := nI_clamp (Nat.lt_trans hx0 hN)
  refine W.zast hx hb (hH.1 i _ (xW_get hc)) ((hK.2.2.1.2 2 _ rfl).1 N (fun j => .int (f j))) (fun q => by cases q) (by show ¬ (nI x < 0 ∨ (arrV _ _ _).slots.size ≤ _); rw [arrV_size]; exact hin) rfl rfl hd fun H1 e1 z oq => ?_
  refine kk p ev s m args below meth c H1 _ ls Cx (hH.set hc z oq ?_) (xS_put hS z oq (Nat.le_add_right _ _)) hl
  show H1[_]? = some (vp_cell _ _)
  rw [e1, hcl]
  rw [vp_cell_i, vp_cell_i, arrV_store]
  congr 2
  funext q
  by_cases hq : q = x
  · subst hq
    simp [updV, upd, vp_nar]
    try rfl
  · simp [updV, upd, hq]
theorem aw_aast {i iv ci : Nat} {N : Nat} {j : Int32} {fs : List Value} {r : vw_C} (x : Nat) (hj : j = nI x) (hx0 : x < N) (hN : N < 2 ^ 31) {f : Nat → Option Nat} (hd : decode cc pc = .ok (.aastore, 1)) (hc : h[i]? = some (.inl (3, N, .inr (.inr (.inr (.inr f)))))) (hv : h[iv]? = some (.inr (ci, fs))) (hci : vwCl[ci]? = some r) (hr1 : r.1 = RX4) (kk : AW l G y cc nL ret R E QF k n (pc + 1) lv st (h.set i (.inl (3, N, .inr (.inr (.inr (.inr (va_up f x (some (G.1 + iv)))))))))) : AW l G y cc nL ret R E QF k n pc lv (.ref (G.1 + iv) :: .int j :: .ref (G.1 + i) :: st) h := by
  intro p ev s m args below meth c H locs ls Cx hH hS hl
  obtain ⟨hx, hb, hml, hr, hlk, hnm, hown, hK, hE, hB⟩ := id Cx
  subst hj
  have hcl : (nI x).toNatClampNeg = x := nI_clamp (Nat.lt_trans hx0 hN)
  obtain ⟨r', hr', cellV, g1, g2, g3, -⟩ := hH.1 iv _ (xW_get hv)
  have hcls := (hK.2.2.1.1 ci r hci).2
  obtain ⟨kA, comp, k1, k2, k3, -⟩ := (hK.2.2.1.2 3 _ rfl).2
  have hcomp : comp = G.2.1.1 ci := by rw [hr1] at hcls; exact Option.some.inj (k3.symm.trans hcls.1)
  subst hcomp
  obtain ⟨kC, hkC, -⟩ := hcls.2
  refine W.aast hx hb (hH.1 i _ (xW_get hc)) (fun q h => by cases h) (fun h => by cases h) k1 k2 rfl hkC ⟨nI_pos (Nat.lt_trans hx0 hN), by show _ < (arrV _ _ _).slots.size; rw [arrV_size, hcl]; exact hx0⟩ g1 (fun q h => by rw [g3] at h; cases h) (by rw [g2]; exact hkC) (by rw [g2]; exact va_assign hcls) rfl rfl hd fun H1 e1 z oq => ?_
  refine kk p ev s m args below meth c H1 _ ls Cx (hH.set hc z oq ?_) (xS_put hS z oq (Nat.le_add_right _ _)) hl
  show H1[_]? = some (vp_cell _ _)
  rw [e1, hcl]
  rw [vp_cell_q, vp_cell_q, arrV_store]
  congr 2
  funext q
  by_cases hq : q = x
  · subst hq
    simp [updV, va_up, va_rf]
  · simp [updV, va_up, hq]
theorem aw_alen {i ki : Nat} {x : vp_A} {ty : FieldType} (v : Int32) (hd : decode cc pc = .ok (.arraylength, 1)) (hc : h[i]? = some (.inl (ki, x))) (hk : (xtys G)[ki]? = some (G.2.2 ki, ty)) (hv : Int32.ofNat x.1 = v) (kk : AW l G y cc nL ret R E QF k n (pc + 1) lv (.int v :: st) h) : AW l G y cc nL ret R E QF k n pc lv (.ref (G.1 + i) :: st) h := by
  intro p ev s m args below meth c H locs ls Cx hH hS hl
  obtain ⟨hx, hb, hml, hr, hlk, hnm, hown, hK, hE, hB⟩ := id Cx
  exact va_alen (D := G.2.1) hx hb hK.2.2.1 hH.1 i ki (xW_get hc) hk hv hd (kk p ev s m args below meth c H locs ls Cx hH hS hl)
theorem aw_new {idx ci : Nat} {C : String} {T : u_T} {N : Nat} {ty : Nat → FieldType} (F : xNw y.cls idx ci C T N ty) (hd : decode cc pc = .ok (.new idx, 3)) (fs : List Value) (hfs : ∀ j, j < N → defaultValue (ty j) = vp_V fs j) (h1 : k + 1 ≤ R.cells) (h2 : n + N ≤ R.slots) (kk : AW l G y cc nL ret R E QF (k + 1) (n + N) (pc + 3) lv (.ref (G.1 + h.length) :: st) (h ++ [.inr (ci, fs)])) : AW l G y cc nL ret R E QF k n pc lv st h := by
  intro p ev s m args below meth c H locs ls Cx hH hS hl
  obtain ⟨hx, hb, hml, hr, hlk, hnm, hown, hK, hE, hB⟩ := id Cx
  have hts : ∀ w ∈ xT, w.before args s = true := fun w hw => hK.1 w hw args
  have hKn := hK.2.2.1.1 ci _ F.1.1
  refine W.newcK hx hb hown (hts _ F.2.1) (hts _ F.2.2.1) (hts _ F.2.2.2) rfl hd h1 h2 hKn.2.1 hH.2 fun H1 kC hkC e1 z1 o1 => ?_
  refine kk p ev s m args below meth c H1 locs ls Cx (hH.push (by rw [z1, hH.2]) (fun q hq => o1 q (by rw [← hH.2]; exact hq)) ?_) (xS_push hS (by rw [z1, hH.2]) (fun q hq => o1 q (by rw [← hH.2]; exact hq))) hl
  exact ⟨_, F.1.1, by rw [hH.2]; exact (u_born ty hts F.1.2.1 hKn hkC e1 F.1.2.2.1).to hfs⟩
theorem aw_newa {at_ : ArrayType} {ty : FieldType} {ki : Nat} {j : Int32} (N : Nat) (a0 : vp_A) (hw : Cond.arrayClass ty ∈ xT) (hd : decode cc pc = .ok (.newarray at_, 2)) (hty : newarray.typeOf at_ = ty) (hk : (xtys G)[ki]? = some (G.2.2 ki, ty)) (ha : ∀ cA : ClassId, vp_cell cA a0 = arrV cA N (fun _ => defaultValue ty)) (hj : j = nI N) (hN : N < 2 ^ 31) (hby : N * componentBytes ty ≤ 536870912) (h1 : k + 1 ≤ R.cells) (h2 : n + N ≤ R.slots) (kk : AW l G y cc nL ret R E QF (k + 1) (n + N) (pc + 2) lv (.ref (G.1 + h.length) :: st) (h ++ [.inl (ki, a0)])) : AW l G y cc nL ret R E QF k n pc lv (.int j :: st) h := by
  intro p ev s m args below meth c H locs ls Cx hH hS hl
  obtain ⟨hx, hb, hml, hr, hlk, hnm, hown, hK, hE, hB⟩ := id Cx
  subst hty
  subst hj
  have hcl : (nI N).toNatClampNeg = N := nI_clamp hN
  refine va_newaK hx hb (hK.1 _ hw args) rfl hd rfl (nI_pos hN) hcl hby h1 h2 hH.2 fun H1 cA e1 z1 o1 hAr hNm => ?_
  refine kk p ev s m args below meth c H1 locs ls Cx (hH.push (by rw [z1, hH.2]) (fun q hq => o1 q (by rw [← hH.2]; exact hq)) ?_) (xS_push hS (by rw [z1, hH.2]) (fun q hq => o1 q (by rw [← hH.2]; exact hq))) hl
  have hcA : cA = G.2.2 ki := by
    have hz := (hK.2.2.1.2 ki _ hk).2
    cases at_ <;> exact Option.some.inj (hNm.symm.trans hz)
  show H1[H.size]? = some (vp_cell _ _)
  rw [hH.2, e1, hcA, ha]
theorem aw_anewa {idx : Nat} {j : Int32} (N : Nat) (hw : Cond.classLink y.cls idx RX4 ∈ xT) (hd : decode cc pc = .ok (.anewarray idx, 3)) (hj : j = nI N) (hN : N < 2 ^ 31) (hby : N * 4 ≤ 536870912) (h1 : k + 1 ≤ R.cells) (h2 : n + N ≤ R.slots) (kk : AW l G y cc nL ret R E QF (k + 1) (n + N) (pc + 3) lv (.ref (G.1 + h.length) :: st) (h ++ [.inl (3, N, .inr (.inr (.inr (.inr (fun _ => none)))))])) : AW l G y cc nL ret R E QF k n pc lv (.int j :: st) h := by
  intro p ev s m args below meth c H locs ls Cx hH hS hl
  obtain ⟨hx, hb, hml, hr, hlk, hnm, hown, hK, hE, hB⟩ := id Cx
  subst hj
  have hcl : (nI N).toNatClampNeg = N := nI_clamp hN
  refine W.anew hx hb hown (hK.1 _ hw args) hK.2.2.2.use rfl hd rfl (nI_pos hN) (by rw [hcl]; exact hby) h1 (by rw [hcl]; exact h2) fun cA kA comp q1 q2 q3 q4 => ?_
  have hcA : cA = G.2.2 3 := by
    obtain ⟨_, _, -, -, -, hz⟩ := (hK.2.2.1.2 3 _ rfl).2
    exact Option.some.inj (q1.symm.trans hz)
  rw [hcl, hH.2]
  refine kk p ev s m args below meth c _ locs ls Cx (hH.push (by simp) (fun q hq => by rw [Array.getElem?_push, if_neg (Nat.ne_of_lt hq)]) ?_) (xS_push hS (by simp) (fun q hq => by rw [Array.getElem?_push, if_neg (Nat.ne_of_lt hq)])) hl
  show (H.push _)[H.size]? = some (vp_cell _ _)
  rw [vp_cell_q, Array.getElem?_push, if_pos rfl, hcA]
  congr 2
  simp only [arrV, va_rf]
  congr 1
  apply Array.ext
  · simp
  · intro i h1 h2
    simp
theorem aw_objInit {idx i : Nat} (h1 : Cond.methodLink y.cls idx objectInit ∈ xT) (h2 : Cond.instanceMethod objectInit ∈ xT) (h3 : Cond.code objectInit ⟨#[0xb1]⟩ 1 none ∈ xT) (hd : decode cc pc = .ok (.invokespecial idx, 3)) (hst : (st.map fun v => v.category).sum ≤ 8) (hf : 1 ≤ R.frames) (hlo : 20 ≤ R.locals) (kk : AW l G y cc nL ret R E QF k n (pc + 3) lv st h) : AW l G y cc nL ret R E QF k n pc lv (.ref i :: st) h := by
  intro p ev s m args below meth c H locs ls Cx hH hS hl
  obtain ⟨hx, hb, hml, hr, hlk, hnm, hown, hK, hE, hB⟩ := id Cx
  refine W.objInit hx hb hown (hK.1 _ h1 args) (hK.1 _ h2 args) (hK.1 _ h3 args) rfl (by rw [hml]; exact hl.1) rfl hd hf (by simp only [JFrame.monitorRoom]; omega) ?_
  exact kk p ev s m args below meth c H locs ls Cx hH hS hl
end AY
