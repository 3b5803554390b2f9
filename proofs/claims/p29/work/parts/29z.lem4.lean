def bcS (y k : Int32) : Int32 := (y.toUInt32 >>> (k.toUInt32 &&& Int32.toUInt32 31)).toInt32
def bcA (x : Int32) : Int32 := x - (bcS x 1 &&& 1431655765)
def bcB (a : Int32) : Int32 := (a &&& 858993459) + (bcS a 2 &&& 858993459)
def bcC (b : Int32) : Int32 := (b + bcS b 4) &&& 252645135
def bcD (c : Int32) : Int32 := c + bcS c 8
def bcE (d : Int32) : Int32 := d + bcS d 16
def bcF (x : Int32) : Int32 := bcE (bcD (bcC (bcB (bcA x)))) &&& 63
def popN (n : Nat) : Nat := ((List.range 12).filter (fun i => n.testBit i)).length
theorem popN_le (n : Nat) : popN n ≤ 12 := by
  unfold popN
  exact Nat.le_trans (List.length_filter_le _ _) (by simp)
def popP (n : Nat) : Nat := Nat.add (Nat.mod (Nat.div n 1) 2) (Nat.add (Nat.mod (Nat.div n 2) 2) (Nat.add (Nat.mod (Nat.div n 4) 2) (Nat.add (Nat.mod (Nat.div n 8) 2) (Nat.add (Nat.mod (Nat.div n 16) 2) (Nat.add (Nat.mod (Nat.div n 32) 2) (Nat.add (Nat.mod (Nat.div n 64) 2) (Nat.add (Nat.mod (Nat.div n 128) 2) (Nat.add (Nat.mod (Nat.div n 256) 2) (Nat.add (Nat.mod (Nat.div n 512) 2) (Nat.add (Nat.mod (Nat.div n 1024) 2) (Nat.mod (Nat.div n 2048) 2)))))))))))
theorem popP_i {n k : Nat} : (if (n / k % 2 == 1) = true then 1 else 0) = Nat.mod (Nat.div n k) 2 := by
  show _ = n / k % 2
  split
  · rename_i h; have := beq_iff_eq.mp h; omega
  · rename_i h; have : ¬ n / k % 2 = 1 := fun q => h (beq_iff_eq.mpr q); omega
theorem popP_c (p : Nat → Bool) (a : Nat) (l : List Nat) : ((a :: l).filter p).length = (if p a = true then 1 else 0) + (l.filter p).length := by
  by_cases h : p a = true
  · rw [List.filter_cons_of_pos h, if_pos h, List.length_cons, Nat.add_comm]
  · rw [List.filter_cons_of_neg h, if_neg h, Nat.zero_add]
theorem popP_b (n i : Nat) : n.testBit i = (n / 2 ^ i % 2 == 1) := by
  rw [Nat.testBit_eq_decide_div_mod_eq]; rfl
theorem popP_e (n : Nat) : popN n = popP n := by
  unfold popN
  rw [show List.range 12 = [0, 1, 2, 3, 4, 5, 6, 7, 8, 9, 10, 11] from rfl]
  simp only [popP_c, popP_b, List.filter_nil, List.length_nil, Nat.add_zero]
  simp only [popP_i]
  rfl
set_option maxRecDepth 100000 in
theorem bc_pop0 : (List.range 4096).all (fun n => decide (bcF (nI n) = nI (popP n))) = true := by decide +kernel
theorem bc_pop {n : Nat} (h : n < 4096) : bcF (nI n) = nI (popN n) := by rw [popP_e]; exact co_dec bc_pop0 h
set_option maxRecDepth 100000 in
theorem pop_st1 : (List.range 4096).all (fun n => Nat.beq n 0 || (Nat.beq (Nat.add (popP (Nat.land n (Nat.sub n 1))) 1) (popP n) && Nat.ble (Nat.succ (Nat.land n (Nat.sub n 1))) n)) = true := by decide +kernel
theorem pop_st {n : Nat} (h : n < 4096) (h0 : n ≠ 0) : popN (n &&& (n - 1)) + 1 = popN n ∧ n &&& (n - 1) < n := by
  have e := List.all_eq_true.mp pop_st1 n (List.mem_range.mpr h)
  rw [Bool.or_eq_true, Bool.and_eq_true] at e
  rw [popP_e, popP_e]
  rcases e with e | ⟨e1, e2⟩
  · exact absurd (Nat.eq_of_beq_eq_true e) h0
  · exact ⟨Nat.eq_of_beq_eq_true e1, Nat.le_of_ble_eq_true e2⟩
theorem pop_0 : popN 0 = 0 := by decide
theorem pop_pos {n : Nat} (h : n < 4096) (h0 : n ≠ 0) : 0 < popN n := by have := (pop_st h h0).1; omega
theorem nn_and (a b : Nat) : nI a &&& nI b = nI (a &&& b) := by
  apply Int32.toBitVec_inj.mp
  show BitVec.ofNat 32 a &&& BitVec.ofNat 32 b = BitVec.ofNat 32 (a &&& b)
  exact (BitVec.ofNat_and).symm
