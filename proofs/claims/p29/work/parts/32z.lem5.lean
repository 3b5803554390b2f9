section AMx
variable {l : Launch} {G : xG} {y : MethodName} {cc : ByteArray} {nL : Nat} {ret : Option FieldType} {R : Room} {E : Array Value → State → Prop} {QF : List Frame → Array Value → State → State → Prop} {k n pc : Nat} {lv : List (Nat × Value)} {st : List Value} {h : List va_E}
theorem aw_mmax {idx : Nat} {x z : Int32} (Lk : Cond.methodLink y.cls idx yJ9_max_7cf53 ∈ xT) (hd : decode cc pc = .ok (.invokestatic idx, 3)) (hst : (st.map fun v => v.category).sum ≤ 8) (hR : 1 ≤ R.frames ∧ 21 ≤ R.locals) (hk : k ≤ R.cells ∧ n ≤ R.slots) (kk : AW l G y cc nL ret R E QF k n (pc + 3) lv (.int (if x < z then z else x) :: st) h) : AW l G y cc nL ret R E QF k n pc lv (.int z :: .int x :: st) h := by
  intro p ev s m args below meth c H locs ls Cx hH hS hl
  obtain ⟨hx, hb, hml, hr, hlk, hnm, hown, hK, hE, hB⟩ := id Cx
  exact va_mmax hx hb (by rw [hml, hl.1]) hown (hK.1 _ Lk args) (hK.1 _ sJ9_max_7cf53 args) (hK.1 _ mJ9_max_7cf53.2.1 args) (hK.1 _ mJ9_max_7cf53.1 args) hR.1 (by omega) hk.1 hk.2 hd (kk p ev s m args below meth c H locs ls Cx hH hS hl)
theorem aw_mmin {idx : Nat} {x z : Int32} (Lk : Cond.methodLink y.cls idx yJ9_min_7cf53 ∈ xT) (hd : decode cc pc = .ok (.invokestatic idx, 3)) (hst : (st.map fun v => v.category).sum ≤ 8) (hR : 1 ≤ R.frames ∧ 21 ≤ R.locals) (hk : k ≤ R.cells ∧ n ≤ R.slots) (kk : AW l G y cc nL ret R E QF k n (pc + 3) lv (.int (if z < x then z else x) :: st) h) : AW l G y cc nL ret R E QF k n pc lv (.int z :: .int x :: st) h := by
  intro p ev s m args below meth c H locs ls Cx hH hS hl
  obtain ⟨hx, hb, hml, hr, hlk, hnm, hown, hK, hE, hB⟩ := id Cx
  exact va_mmin hx hb (by rw [hml, hl.1]) hown (hK.1 _ Lk args) (hK.1 _ sJ9_min_7cf53 args) (hK.1 _ mJ9_min_7cf53.2.1 args) (hK.1 _ mJ9_min_7cf53.1 args) hR.1 (by omega) hk.1 hk.2 hd (kk p ev s m args below meth c H locs ls Cx hH hS hl)
theorem aw_mabs {idx : Nat} {x : Int32} (Lk : Cond.methodLink y.cls idx yJ9_abs_0f7a4 ∈ xT) (hd : decode cc pc = .ok (.invokestatic idx, 3)) (hst : (st.map fun v => v.category).sum ≤ 8) (hR : 1 ≤ R.frames ∧ 21 ≤ R.locals) (hk : k ≤ R.cells ∧ n ≤ R.slots) (kk : AW l G y cc nL ret R E QF k n (pc + 3) lv (.int (if 0 ≤ x then x else 0 - x) :: st) h) : AW l G y cc nL ret R E QF k n pc lv (.int x :: st) h := by
  intro p ev s m args below meth c H locs ls Cx hH hS hl
  obtain ⟨hx, hb, hml, hr, hlk, hnm, hown, hK, hE, hB⟩ := id Cx
  exact va_mabs hx hb (by rw [hml, hl.1]) hown (hK.1 _ Lk args) (hK.1 _ sJ9_abs_0f7a4 args) (hK.1 _ mJ9_abs_0f7a4.2.1 args) (hK.1 _ mJ9_abs_0f7a4.1 args) hR.1 (by omega) hk.1 hk.2 hd (kk p ev s m args below meth c H locs ls Cx hH hS hl)
end AMx
