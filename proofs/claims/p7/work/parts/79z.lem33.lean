/-- the number of bits, by bytes -/
theorem bcS_k {n k : Nat} {z : Int32} (hn : n < 2 ^ 31) (hk : k < 32) (hz : (z.toUInt32 &&& Int32.toUInt32 31).toBitVec % 32#32 = BitVec.ofNat 32 k) : bcS (nI n) z = nI (n / 2 ^ k) := by
  apply Int32.toBitVec_inj.mp
  show ((nI n).toUInt32 >>> (z.toUInt32 &&& Int32.toUInt32 31)).toBitVec = BitVec.ofNat 32 (n / 2 ^ k)
  rw [UInt32.toBitVec_shiftRight]
  rw [show ((z.toUInt32 &&& Int32.toUInt32 31).toBitVec % 32) = BitVec.ofNat 32 k from hz]
  show BitVec.ofNat 32 n >>> BitVec.ofNat 32 k = BitVec.ofNat 32 (n / 2 ^ k)
  apply BitVec.eq_of_toNat_eq
  rw [BitVec.ushiftRight_eq', BitVec.toNat_ushiftRight, BitVec.toNat_ofNat, BitVec.toNat_ofNat, BitVec.toNat_ofNat, Nat.shiftRight_eq_div_pow]
  have h1 := Nat.div_le_self n (2 ^ k)
  rw [Nat.mod_eq_of_lt (by omega : n < 2 ^ 32), Nat.mod_eq_of_lt (by omega : k < 2 ^ 32), Nat.mod_eq_of_lt (by omega : n / 2 ^ k < 2 ^ 32)]
def nbA (n : Nat) : Nat := n - ((n / 2) &&& 1431655765)
def nbB (n : Nat) : Nat := (n &&& 858993459) + ((n / 4) &&& 858993459)
def nbC (n : Nat) : Nat := (n + n / 16) &&& 252645135
def nbT (n : Nat) : Nat := nbC (nbB (nbA n))
def nbD (n : Nat) : Nat := nbT n + nbT n / 256
def nbE (n : Nat) : Nat := (nbD n + nbD n / 65536) &&& 63
theorem bc_nb {n : Nat} (hn : n < 1048576) : bcF (nI n) = nI (nbE n) := by
  have a0 : (n / 2) &&& 1431655765 ≤ n / 2 := Nat.and_le_left
  have a1 : bcA (nI n) = nI (nbA n) := by
    unfold bcA nbA
    rw [bcS_k (k := 1) (by omega) (by omega) (by decide), show (2 : Nat) ^ 1 = 2 from rfl, show (1431655765 : Int32) = nI 1431655765 from rfl, nn_and, pk_sub (by omega)]
  have a2 : nbA n ≤ n := Nat.sub_le _ _
  have b1 : bcB (nI (nbA n)) = nI (nbB (nbA n)) := by
    unfold bcB nbB
    rw [bcS_k (k := 2) (by omega) (by omega) (by decide), show (858993459 : Int32) = nI 858993459 from rfl, nn_and, nn_and, nI_add]
  have b2 : nbB (nbA n) < 2 * 1048576 := by
    unfold nbB
    have q1 : nbA n &&& 858993459 ≤ nbA n := Nat.and_le_left
    have q2 : (nbA n / 4) &&& 858993459 ≤ nbA n / 4 := Nat.and_le_left
    omega
  have c1 : bcC (nI (nbB (nbA n))) = nI (nbT n) := by
    unfold bcC nbT nbC
    rw [bcS_k (k := 4) (by omega) (by omega) (by decide), nI_add, show (252645135 : Int32) = nI 252645135 from rfl, nn_and]
  have c2 : nbT n ≤ 4 * 1048576 := by
    unfold nbT nbC
    have q1 : (nbB (nbA n) + nbB (nbA n) / 16) &&& 252645135 ≤ nbB (nbA n) + nbB (nbA n) / 16 := Nat.and_le_left
    omega
  have d1 : bcD (nI (nbT n)) = nI (nbD n) := by
    unfold bcD nbD
    rw [bcS_k (k := 8) (by omega) (by omega) (by decide), nI_add]
  have d2 : nbD n ≤ 8 * 1048576 := by unfold nbD; omega
  have e1 : bcE (nI (nbD n)) = nI (nbD n + nbD n / 65536) := by
    unfold bcE
    rw [bcS_k (k := 16) (by omega) (by omega) (by decide), nI_add]
  unfold bcF
  rw [a1, b1, c1, d1, e1, show (63 : Int32) = nI 63 from rfl, nn_and]
  rfl
theorem an_by {x X y Y : Nat} (hx : x < 256) (hy : y < 256) : (x + 256 * X) &&& (y + 256 * Y) = (x &&& y) + 256 * (X &&& Y) := by
  have q : x &&& y ≤ x := Nat.and_le_left
  have h1 : ((x + 256 * X) &&& (y + 256 * Y)) % 2 ^ 8 = x &&& y := by
    rw [Nat.and_mod_two_pow, show (x + 256 * X) % 2 ^ 8 = x by omega, show (y + 256 * Y) % 2 ^ 8 = y by omega]
  have h2 : ((x + 256 * X) &&& (y + 256 * Y)) / 2 ^ 8 = X &&& Y := by
    rw [Nat.and_div_two_pow, show (x + 256 * X) / 2 ^ 8 = X by omega, show (y + 256 * Y) / 2 ^ 8 = Y by omega]
  omega
theorem nb_a1 : ∀ x, x < 256 → ∀ e, e < 2 → (x / 2 + 128 * e) &&& 85 = (x / 2) &&& 85 := by decide +kernel
theorem nb_b1 : ∀ x, x < 256 → ∀ e, e < 4 → (x / 4 + 64 * e) &&& 51 = (x / 4) &&& 51 := by decide +kernel
theorem nb_c1 : ∀ x, x < 128 → ∀ e, e < 16 → (x + 16 * e) &&& 15 = x &&& 15 := by decide +kernel
def yA (x : Nat) : Nat := x - ((x / 2) &&& 85)
def yB (x : Nat) : Nat := (x &&& 51) + ((x / 4) &&& 51)
def yC (x : Nat) : Nat := (x + x / 16) &&& 15
theorem y_lt : ∀ x, x < 256 → yA x < 256 ∧ yB (yA x) ≤ 68 ∧ yB (yA x) % 16 ≤ 4 ∧ yC (yB (yA x)) = pcF 8 x := by decide +kernel
theorem nbA_s {x X M : Nat} (hx : x < 256) : (x + 256 * X) - (((x + 256 * X) / 2) &&& (85 + 256 * M)) = yA x + 256 * (X - ((X / 2) &&& M)) := by
  have h1 : (x + 256 * X) / 2 = (x / 2 + 128 * (X % 2)) + 256 * (X / 2) := by omega
  have h2 : x / 2 + 128 * (X % 2) < 256 := by omega
  rw [h1, an_by h2 (by decide), nb_a1 x hx (X % 2) (by omega)]
  have q1 : (x / 2) &&& 85 ≤ x / 2 := Nat.and_le_left
  have q2 : (X / 2) &&& M ≤ X / 2 := Nat.and_le_left
  unfold yA
  omega
theorem nbB_s {x X M : Nat} (hx : x < 256) : ((x + 256 * X) &&& (51 + 256 * M)) + (((x + 256 * X) / 4) &&& (51 + 256 * M)) = yB x + 256 * ((X &&& M) + ((X / 4) &&& M)) := by
  have h1 : (x + 256 * X) / 4 = (x / 4 + 64 * (X % 4)) + 256 * (X / 4) := by omega
  have h2 : x / 4 + 64 * (X % 4) < 256 := by omega
  rw [h1, an_by h2 (by decide), nb_b1 x hx (X % 4) (by omega), an_by hx (by decide)]
  unfold yB
  omega
theorem nbC_s {x X M : Nat} (hx : x ≤ 68) (hX : X % 16 ≤ 4) : ((x + 256 * X) + (x + 256 * X) / 16) &&& (15 + 256 * M) = yC x + 256 * ((X + X / 16) &&& M) := by
  have h1 : (x + 256 * X) + (x + 256 * X) / 16 = (x + x / 16 + 16 * (X % 16)) + 256 * (X + X / 16) := by omega
  have h2 : x + x / 16 + 16 * (X % 16) < 256 := by omega
  rw [h1, an_by h2 (by decide), nb_c1 (x + x / 16) (by omega) (X % 16) (by omega)]
  rfl
theorem pcF_2 : ∀ k f x X, x < 2 ^ k → pcF (k + f) (x + 2 ^ k * X) = pcF k x + pcF f X := by
  intro k
  induction k with
  | zero => intro f x X h; have : x = 0 := by omega
            subst this; simp [pcF]
  | succ k ih =>
    intro f x X h
    rw [show k + 1 + f = (k + f) + 1 by omega]
    simp only [pcF]
    have e : 2 ^ (k + 1) * X = 2 * (2 ^ k * X) := by rw [Nat.pow_succ]; rw [Nat.mul_comm (2 ^ k) 2, Nat.mul_assoc]
    rw [e, show (x + 2 * (2 ^ k * X)) % 2 = x % 2 by omega, show (x + 2 * (2 ^ k * X)) / 2 = x / 2 + 2 ^ k * X by omega, ih f (x / 2) X (by rw [Nat.pow_succ] at h; omega)]
    omega
theorem pc16 : ∀ x, x < 16 → pcF 8 x = pcF 4 x := by decide +kernel
theorem nb_fin {X Y Z : Nat} (hX : X ≤ 8) (hY : Y ≤ 8) (hZ : Z ≤ 8) : ((X + 256 * (Y + 256 * Z)) + (X + 256 * (Y + 256 * Z)) / 256 + ((X + 256 * (Y + 256 * Z)) + (X + 256 * (Y + 256 * Z)) / 256) / 65536) % 2 ^ 6 = X + Y + Z := by
  have r1 : (X + 256 * (Y + 256 * Z)) / 256 = Y + 256 * Z := by omega
  rw [r1]
  have r2 : (X + 256 * (Y + 256 * Z) + (Y + 256 * Z)) / 65536 = Z := by omega
  rw [r2]
  show _ % 64 = _
  omega
theorem nb_pc {n : Nat} (hn : n < 1048576) : nbE n = pcF 20 n := by
  obtain ⟨x, y, z, hx, hy, hz, e⟩ : ∃ x y z, x < 256 ∧ y < 256 ∧ z < 16 ∧ n = x + 256 * (y + 256 * z) := ⟨n % 256, n / 256 % 256, n / 65536, by omega, by omega, by omega, by omega⟩
  obtain ⟨x1, x2, x3, x4⟩ := y_lt x hx
  obtain ⟨y1, y2, y3, y4⟩ := y_lt y hy
  obtain ⟨z1, z2, z3, z4⟩ := y_lt z (by omega)
  have hA : nbA n = yA x + 256 * (yA y + 256 * yA z) := by
    unfold nbA
    rw [e, show (1431655765 : Nat) = 85 + 256 * (85 + 256 * (85 + 256 * 85)) from rfl, nbA_s hx, nbA_s hy]
    have q := nbA_s (x := z) (X := 0) (M := 85) (by omega)
    simp only [Nat.mul_zero, Nat.add_zero, Nat.zero_div, Nat.zero_and, Nat.sub_zero] at q
    rw [q]
  have hB : nbB (nbA n) = yB (yA x) + 256 * (yB (yA y) + 256 * yB (yA z)) := by
    unfold nbB
    rw [hA, show (858993459 : Nat) = 51 + 256 * (51 + 256 * (51 + 256 * 51)) from rfl, nbB_s x1, nbB_s y1]
    have q := nbB_s (x := yA z) (X := 0) (M := 51) z1
    simp only [Nat.mul_zero, Nat.add_zero, Nat.zero_div, Nat.zero_and] at q
    rw [q]
  have hC : nbT n = pcF 8 x + 256 * (pcF 8 y + 256 * pcF 8 z) := by
    unfold nbT nbC
    rw [hB, show (252645135 : Nat) = 15 + 256 * (15 + 256 * (15 + 256 * 15)) from rfl, nbC_s x2 (by omega), nbC_s y2 (by omega)]
    have q := nbC_s (x := yB (yA z)) (X := 0) (M := 15) z2 (by decide)
    simp only [Nat.mul_zero, Nat.add_zero, Nat.zero_div, Nat.zero_and] at q
    rw [q, x4, y4, z4]
  have b1 := pcF_le 8 x
  have b2 := pcF_le 8 y
  have b3 := pcF_le 8 z
  have hE : nbE n = pcF 8 x + pcF 8 y + pcF 8 z := by
    unfold nbE nbD
    rw [hC, show (63 : Nat) = 2 ^ 6 - 1 from rfl, Nat.and_two_pow_sub_one_eq_mod]
    exact nb_fin b1 b2 b3
  have p1 := pcF_2 8 12 x (y + 256 * z) hx
  have p2 := pcF_2 8 4 y z hy
  rw [hE, e, show (20 : Nat) = 8 + 12 from rfl]
  rw [show (2 : Nat) ^ 8 = 256 from rfl] at p1 p2
  rw [p1, show (12 : Nat) = 8 + 4 from rfl, p2, pc16 z hz]
  omega
theorem bc_pc {n : Nat} (hn : n < 1048576) : bcF (nI n) = nI (pcF 20 n) := by rw [bc_nb hn, nb_pc hn]
/-- likeness, told for both sides -/
def flF (ye : Nat → Nat) (Co : Nat → Int32) (a b e f : Nat) : Int32 := if (if ye a = ye b then a < b else ye a < ye b) then Co e - Co f else Co f - Co e
def ynF (ye : Nat → Nat) (fa a b : Nat) : Nat := (max (ye a) (ye b) - min (ye a) (ye b)) * fa + 5
def lpS (S Z Ro : Nat → Int32) (e f : Nat) : Int32 := 10 * bcF (S e &&& S f) - 2 * bcF (S e ^^^ S f) - apF Z e f + (if Ro e = Ro f then 7 else 0)
def lkS (ye : Nat → Nat) (S Z Ro Co : Nat → Int32) (bar : Prop) [Decidable bar] (sp fa a i b k : Nat) : Int32 :=
  if nI sp < apF Z (a * 10 + i) (b * 10 + k) ∨ S (a * 10 + i) &&& S (b * 10 + k) = 0 ∨ bar ∨ flF ye Co a b (a * 10 + i) (b * 10 + k) < 0 ∨ nI (ynF ye fa a b) < flF ye Co a b (a * 10 + i) (b * 10 + k) then 0
  else if 1 < lpS S Z Ro (a * 10 + i) (b * 10 + k) then lpS S Z Ro (a * 10 + i) (b * 10 + k) else 1
section LK
variable {ye : Nat → Nat} {S Z Ro Co : Nat → Int32} {bar : Prop} {sp fa a i b k : Nat}
theorem fl_t {e f : Nat} (h : if ye a = ye b then a < b else ye a < ye b) : Co e - Co f = flF ye Co a b e f := (if_pos h).symm
theorem fl_f {e f : Nat} (h : ¬ (if ye a = ye b then a < b else ye a < ye b)) : Co f - Co e = flF ye Co a b e f := (if_neg h).symm
theorem ab_y {x y : Nat} (hx : x < 1901) (hy : y < 1901) : (if 0 ≤ nI x - nI y then nI x - nI y else 0 - (nI x - nI y)) = nI (max x y - min x y) := by
  rcases Nat.lt_or_ge x y with q | q
  · have e : nI x - nI y = 0 - nI (y - x) := by
      have h := pk_sub (a := y) (b := x) (by omega)
      rw [← h]
      apply Int32.toBitVec_inj.mp
      simp only [Int32.toBitVec_sub]
      generalize (nI x).toBitVec = u
      generalize (nI y).toBitVec = v
      rw [show (0 : Int32).toBitVec = 0#32 from rfl, BitVec.zero_sub, BitVec.neg_sub, BitVec.sub_eq_add_neg, BitVec.add_comm]
    have l : ¬ (0 : Int32) ≤ nI x - nI y := by
      rw [e, Int32.le_iff_toInt_le]
      intro h
      have h2 : (0 - nI (y - x)).toInt = -((y - x : Nat) : Int) := by
        rw [show (0 : Int32) - nI (y - x) = -(nI (y - x)) from Int32.zero_sub _]
        rw [Int32.toInt_neg, nI_toInt (by omega)]
        rw [Int.bmod_def]
        split <;> omega
      rw [h2] at h
      rw [show (0 : Int32).toInt = 0 from rfl] at h
      omega
    rw [if_neg l, e]
    rw [show (0 : Int32) - (0 - nI (y - x)) = nI (y - x) by rw [Int32.zero_sub, Int32.zero_sub, Int32.neg_neg]]
    congr 1
    omega
  · have e : nI x - nI y = nI (x - y) := pk_sub q
    rw [e, if_pos (by rw [Int32.le_iff_toInt_le, nI_toInt (by omega)]; show (0 : Int) ≤ _; omega)]
    congr 1
    omega
theorem ynF_e : nI (max (ye a) (ye b) - min (ye a) (ye b)) * nI fa + 5 = nI (ynF ye fa a b) := by
  unfold ynF
  rw [pk_mul, show (5 : Int32) = nI 5 from rfl, nI_add]
theorem lk_0 [Decidable bar] (h : nI sp < apF Z (a * 10 + i) (b * 10 + k) ∨ S (a * 10 + i) &&& S (b * 10 + k) = 0 ∨ bar ∨ flF ye Co a b (a * 10 + i) (b * 10 + k) < 0 ∨ nI (ynF ye fa a b) < flF ye Co a b (a * 10 + i) (b * 10 + k)) : (0 : Int32) = lkS ye S Z Ro Co bar sp fa a i b k := (if_pos h).symm
theorem lk_1 [Decidable bar] {n1 n2 : Nat} {v z : Int32} (e1 : S (a * 10 + i) = nI n1) (e2 : S (b * 10 + k) = nI n2) (b1 : n1 < 1048576) (b2 : n2 < 1048576) (ev : v = apF Z (a * 10 + i) (b * 10 + k)) (ez : z = if Ro (a * 10 + i) = Ro (b * 10 + k) then 7 else 0)
    (h1 : ¬ nI sp < v) (h2 : ¬ nI (n1 &&& n2) = 0) (h3 : ¬ bar) (h4 : ¬ flF ye Co a b (a * 10 + i) (b * 10 + k) < 0) (h5 : ¬ nI (ynF ye fa a b) < flF ye Co a b (a * 10 + i) (b * 10 + k)) :
    (if 1 < nI (10 * pcF 20 (n1 &&& n2)) - nI (2 * pcF 20 (n1 ^^^ n2)) - v + z then nI (10 * pcF 20 (n1 &&& n2)) - nI (2 * pcF 20 (n1 ^^^ n2)) - v + z else 1) = lkS ye S Z Ro Co bar sp fa a i b k := by
  have q1 : n1 &&& n2 < 1048576 := Nat.lt_of_le_of_lt Nat.and_le_left b1
  have q2 : n1 ^^^ n2 < 1048576 := Nat.xor_lt_two_pow (n := 20) b1 b2
  have e3 : nI (10 * pcF 20 (n1 &&& n2)) - nI (2 * pcF 20 (n1 ^^^ n2)) - v + z = lpS S Z Ro (a * 10 + i) (b * 10 + k) := by
    unfold lpS
    rw [e1, e2, nn_and, show nI n1 ^^^ nI n2 = nI (n1 ^^^ n2) from (nv_xor rfl rfl), bc_pc q1, bc_pc q2, ← ev, ← ez, show (10 : Int32) = nI 10 from rfl, show (2 : Int32) = nI 2 from rfl, pk_mul, pk_mul]
  rw [e3]
  unfold lkS
  refine (if_neg ?_).symm
  rintro (w | w | w | w | w)
  · rw [← ev] at w; exact h1 w
  · rw [e1, e2, nn_and] at w; exact h2 w
  · exact h3 w
  · exact h4 w
  · exact h5 w
end LK
