/-- what the law's walk knows of its start -/
def xEl (G : xG) (b L : Nat) (xs : Nat → Int32) : Array Value → State → Prop := fun args s => args = #[Value.ref b] ∧ va_X b L xs s s.heap ∧ b < s.heap.size ∧ s.heap.size = G.1
section ALw
variable {l : Launch} {G : xG} {y : MethodName} {cc : ByteArray} {nL : Nat} {ret1 : Option FieldType} {R : Room} {QF : List Frame → Array Value → State → State → Prop} {k n pc : Nat} {lv : List (Nat × Value)} {st : List Value} {h : List va_E} {b L : Nat} {xs : Nat → Int32}
theorem aw_sld {j : Int32} (x : Nat) (hj : j = nI x) (hx0 : x < L) (hL : L < 2 ^ 31) (hd : decode cc pc = .ok (.iaload, 1)) (kk : AW l G y cc nL ret1 R (xEl G b L xs) QF k n (pc + 1) lv (.int (xs x) :: st) h) : AW l G y cc nL ret1 R (xEl G b L xs) QF k n pc lv (.int j :: .ref b :: st) h := by
  intro p ev s m args below meth c H locs ls Cx hH hS hl
  obtain ⟨hx, hb, hml, hr, hlk, hnm, hown, hK, ⟨hE0, hX, hbl, hsz⟩, hB⟩ := id Cx
  subst hj
  have hcl : (nI x).toNatClampNeg = x := nI_clamp (Nat.lt_trans hx0 hL)
  exact va_sld hx hb hX hbl (by show ¬ G.1 ≤ b; omega) hS (vp_in_nI hx0 hL) hd (by rw [hcl]; exact kk p ev s m args below meth c H locs ls Cx hH hS hl)
theorem aw_slen (hd : decode cc pc = .ok (.arraylength, 1)) (kk : AW l G y cc nL ret1 R (xEl G b L xs) QF k n (pc + 1) lv (.int (nI L) :: st) h) : AW l G y cc nL ret1 R (xEl G b L xs) QF k n pc lv (.ref b :: st) h := by
  intro p ev s m args below meth c H locs ls Cx hH hS hl
  obtain ⟨hx, hb, hml, hr, hlk, hnm, hown, hK, ⟨hE0, hX, hbl, hsz⟩, hB⟩ := id Cx
  exact va_slen hx hb hX hbl (by show ¬ G.1 ≤ b; omega) hS hd (kk p ev s m args below meth c H locs ls Cx hH hS hl)
end ALw
/-- the law's answer -/
theorem aw_lret {l : Launch} {G : xG} {k n pc : Nat} {lv : List (Nat × Value)} {h : List va_E} {b L : Nat} {xs : Nat → Int32} (hd : decode code pc = .ok (.ireturn, 1)) (h1 : k ≤ 221190) (h2 : n ≤ 8438680) : AW l G yL_law code 4 ret room_1 (xEl G b L xs) (fun below args s => lw_Z below args s) k n pc lv [.int 1] h := by
  intro p ev s m args below meth c H locs ls Cx hH hS hl
  obtain ⟨hx, hb, hml, hr, hlk, hnm, hown, hK, ⟨hE0, hX, hbl, hsz⟩, hB⟩ := id Cx
  subst hE0
  refine va_forget (fun q hq => by rw [hsz]; exact hS.2.2 q hq) (W.widen h1 h2 ?_)
  exact lw_ret hx hb hr hlk hd
