def bcS (y k : Int32) : Int32 := (y.toUInt32 >>> (k.toUInt32 &&& Int32.toUInt32 31)).toInt32
def bcA (x : Int32) : Int32 := x - (bcS x 1 &&& 1431655765)
def bcB (a : Int32) : Int32 := (a &&& 858993459) + (bcS a 2 &&& 858993459)
def bcC (b : Int32) : Int32 := (b + bcS b 4) &&& 252645135
def bcD (c : Int32) : Int32 := c + bcS c 8
def bcE (d : Int32) : Int32 := d + bcS d 16
def bcF (x : Int32) : Int32 := bcE (bcD (bcC (bcB (bcA x)))) &&& 63
def popN (n : Nat) : Nat := ((List.range 12).filter (fun i => n.testBit i)).length
theorem popN_le (n : Nat) : popN n ≤ 12 := by
  unfold popN
  exact Nat.le_trans (List.length_filter_le _ _) (by simp)
set_option maxRecDepth 100000 in
theorem bc_pop0 : (List.range 4096).all (fun n => decide (bcF (nI n) = nI (popN n))) = true := by decide +kernel
theorem bc_pop {n : Nat} (h : n < 4096) : bcF (nI n) = nI (popN n) := co_dec bc_pop0 h
set_option maxRecDepth 100000 in
theorem pop_st0 : (List.range 4096).all (fun n => decide (n = 0 ∨ (popN (n &&& (n - 1)) + 1 = popN n ∧ n &&& (n - 1) < n))) = true := by decide +kernel
theorem pop_st {n : Nat} (h : n < 4096) (h0 : n ≠ 0) : popN (n &&& (n - 1)) + 1 = popN n ∧ n &&& (n - 1) < n := (co_dec (P := fun n => n = 0 ∨ (popN (n &&& (n - 1)) + 1 = popN n ∧ n &&& (n - 1) < n)) pop_st0 h).resolve_left h0
theorem pop_0 : popN 0 = 0 := by decide
theorem pop_pos {n : Nat} (h : n < 4096) (h0 : n ≠ 0) : 0 < popN n := by have := (pop_st h h0).1; omega
theorem nn_and (a b : Nat) : nI a &&& nI b = nI (a &&& b) := by
  apply Int32.toBitVec_inj.mp
  show BitVec.ofNat 32 a &&& BitVec.ofNat 32 b = BitVec.ofNat 32 (a &&& b)
  exact (BitVec.ofNat_and).symm
