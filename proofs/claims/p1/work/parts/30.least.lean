set_option maxHeartbeats 4000000 in
theorem J6_bitCount_g {l : Launch} {G : xG} {h : List va_E} {x : Int32}  : CD l G yJ6_bitCount_0f7a4 cJ6_bitCount_0f7a4 1 (some .int) 0 0 0 [.int x] h (some (.int (bcF x))) h := by
  refine cm_of rfl (Nat.le_of_ble_eq_true rfl) [(0, .int x)] rfl ?_
  refine aw_iload_n 0 dJ6_bitCount_0f7a4_0 rfl rfl ?_
  refine aw_iload_n 0 dJ6_bitCount_0f7a4_1 rfl rfl ?_
  refine aw_iconst (1) dJ6_bitCount_0f7a4_2 (by decide) ?_
  refine aw_iushr _ dJ6_bitCount_0f7a4_3 rfl ?_
  refine aw_ldcw (1431655765) kJ6_265 dJ6_bitCount_0f7a4_4 ?_
  refine aw_iand dJ6_bitCount_0f7a4_7 ?_
  refine aw_isub dJ6_bitCount_0f7a4_8 ?_
  refine aw_top (fun v1 ev1 => ?_)
  refine aw_istore_n [(0, .int v1)] dJ6_bitCount_0f7a4_9 rfl (by decide) rfl ?_
  refine aw_iload_n 0 dJ6_bitCount_0f7a4_10 rfl rfl ?_
  refine aw_ldcw (858993459) kJ6_266 dJ6_bitCount_0f7a4_11 ?_
  refine aw_iand dJ6_bitCount_0f7a4_14 ?_
  refine aw_iload_n 0 dJ6_bitCount_0f7a4_15 rfl rfl ?_
  refine aw_iconst (2) dJ6_bitCount_0f7a4_16 (by decide) ?_
  refine aw_iushr _ dJ6_bitCount_0f7a4_17 rfl ?_
  refine aw_ldcw (858993459) kJ6_266 dJ6_bitCount_0f7a4_18 ?_
  refine aw_iand dJ6_bitCount_0f7a4_21 ?_
  refine aw_iadd dJ6_bitCount_0f7a4_22 ?_
  refine aw_top (fun v2 ev2 => ?_)
  refine aw_istore_n [(0, .int v2)] dJ6_bitCount_0f7a4_23 rfl (by decide) rfl ?_
  refine aw_iload_n 0 dJ6_bitCount_0f7a4_24 rfl rfl ?_
  refine aw_iload_n 0 dJ6_bitCount_0f7a4_25 rfl rfl ?_
  refine aw_iconst (4) dJ6_bitCount_0f7a4_26 (by decide) ?_
  refine aw_iushr _ dJ6_bitCount_0f7a4_27 rfl ?_
  refine aw_iadd dJ6_bitCount_0f7a4_28 ?_
  refine aw_ldcw (252645135) kJ6_267 dJ6_bitCount_0f7a4_29 ?_
  refine aw_iand dJ6_bitCount_0f7a4_32 ?_
  refine aw_top (fun v3 ev3 => ?_)
  refine aw_istore_n [(0, .int v3)] dJ6_bitCount_0f7a4_33 rfl (by decide) rfl ?_
  refine aw_iload_n 0 dJ6_bitCount_0f7a4_34 rfl rfl ?_
  refine aw_iload_n 0 dJ6_bitCount_0f7a4_35 rfl rfl ?_
  refine aw_bipush (8) dJ6_bitCount_0f7a4_36 (by decide) ?_
  refine aw_iushr _ dJ6_bitCount_0f7a4_38 rfl ?_
  refine aw_iadd dJ6_bitCount_0f7a4_39 ?_
  refine aw_top (fun v4 ev4 => ?_)
  refine aw_istore_n [(0, .int v4)] dJ6_bitCount_0f7a4_40 rfl (by decide) rfl ?_
  refine aw_iload_n 0 dJ6_bitCount_0f7a4_41 rfl rfl ?_
  refine aw_iload_n 0 dJ6_bitCount_0f7a4_42 rfl rfl ?_
  refine aw_bipush (16) dJ6_bitCount_0f7a4_43 (by decide) ?_
  refine aw_iushr _ dJ6_bitCount_0f7a4_45 rfl ?_
  refine aw_iadd dJ6_bitCount_0f7a4_46 ?_
  refine aw_top (fun v5 ev5 => ?_)
  refine aw_istore_n [(0, .int v5)] dJ6_bitCount_0f7a4_47 rfl (by decide) rfl ?_
  refine aw_iload_n 0 dJ6_bitCount_0f7a4_48 rfl rfl ?_
  refine aw_bipush (63) dJ6_bitCount_0f7a4_49 (by decide) ?_
  refine aw_iand dJ6_bitCount_0f7a4_51 ?_
  exact aw_iret rfl dJ6_bitCount_0f7a4_52 (by decide) (by decide) ⟨by subst_vars; rfl, rfl⟩
theorem J6_bitCount_n {l : Launch} {G : xG} {h : List va_E} {v : Int32} {x : Nat} (e : v = nI x) (hx : x < 4096) : CD l G yJ6_bitCount_0f7a4 cJ6_bitCount_0f7a4 1 (some .int) 0 0 0 [.int v] h (some (.int (nI (popN x)))) h := by
  subst e
  rw [← bc_pop hx]
  exact J6_bitCount_g
set_option maxHeartbeats 4000000 in
theorem X9_bitsOf_l {l : Launch} {G : xG} {R : Room} {E : Array Value → State → Prop} {QF : List Frame → Array Value → State → State → Prop} {kc ns : Nat} {h : List va_E} {w : Int32} {N : Nat}
    (K : ∀ (nv sv : Int32), nv = nI N → AW l G yX9_bitsOf cX9_bitsOf 3 (some .int) R E QF kc ns 20 [(1, .int nv)] [] h) :
    ∀ (b s c : Nat) (nv sv : Int32), s < b → s < 4096 → sv = nI s → nv = nI c → c + popN s = N → AW l G yX9_bitsOf cX9_bitsOf 3 (some .int) R E QF kc ns 4 [(2, .int sv), (1, .int nv)] [] h := by
  intro b
  induction b with
  | zero => intro s c nv sv hb; omega
  | succ b ih =>
    intro s c nv sv hb hs es ec hc
    refine aw_iload_n 0 dX9_bitsOf_4 rfl rfl ?_
    refine aw_if_eq 20 dX9_bitsOf_5 (by decide) (fun c5 => ?_) (fun c5 => ?_)
    · refine aw_lv [(1, .int nv)] [1] rfl ?_
      have e0 : s = 0 := by rw [es, ← nI_0] at c5; exact (nI_eq (by omega) (by decide)).mp c5
      subst e0
      rw [pop_0] at hc
      exact K _ sv (by rw [ec, ← hc]; rfl)
    · obtain ⟨v6, ev6⟩ : ∃ q : Int32, q = nv + Int32.ofInt (1) := ⟨_, rfl⟩
      refine aw_iinc (j := 1) v6 [(1, .int v6), (2, .int sv)] dX9_bitsOf_8 rfl ev6.symm (by decide) rfl ?_
      refine aw_iload_n 1 dX9_bitsOf_11 rfl rfl ?_
      refine aw_iload_n 1 dX9_bitsOf_12 rfl rfl ?_
      refine aw_iconst (1) dX9_bitsOf_13 (by decide) ?_
      refine aw_isub dX9_bitsOf_14 ?_
      refine aw_iand dX9_bitsOf_15 ?_
      refine aw_top (fun v7 ev7 => ?_)
      refine aw_istore_n [(2, .int v7), (1, .int v6)] dX9_bitsOf_16 rfl (by decide) rfl ?_
      refine aw_goto 4 dX9_bitsOf_17 (by decide) ?_
      refine aw_lv [(2, .int v7), (1, .int v6)] [0, 1] rfl ?_
      have s0 : s ≠ 0 := fun q => c5 (by rw [es, q]; rfl)
      have q := pop_st hs s0
      refine ih (s &&& (s - 1)) (c + 1) _ _ (by omega) (by omega) ?_ (ev6.trans (nv_inc (ec))) (by omega)
      rw [ev7, es, show (1 : Int32) = nI 1 from rfl, pk_sub (by omega), nn_and]
set_option maxHeartbeats 4000000 in
theorem X9_bitsOf_n {l : Launch} {G : xG} {h : List va_E} {w : Int32} {x : Nat} (ew : w = nI x) (hx : x < 4096) : CD l G yX9_bitsOf cX9_bitsOf 3 (some .int) 0 0 0 [.int w] h (some (.int (nI (popN x)))) h := by
  refine cm_of rfl (Nat.le_of_ble_eq_true rfl) [(0, .int w)] rfl ?_
  refine aw_iconst (0) dX9_bitsOf_0 (by decide) ?_
  refine aw_istore_n [(1, .int 0), (0, .int w)] dX9_bitsOf_1 rfl (by decide) rfl ?_
  refine aw_iload_n 1 dX9_bitsOf_2 rfl rfl ?_
  refine aw_istore_n [(2, .int w), (1, .int 0), (0, .int w)] dX9_bitsOf_3 rfl (by decide) rfl ?_
  refine aw_lv [(2, .int w), (1, .int 0)] [0, 1] rfl ?_
  refine X9_bitsOf_l (w := w) (N := popN x) ?_ (x + 1) x 0 _ _ (by omega) hx ew rfl (by omega)
  intro nv sv env
  refine aw_iload_n 0 dX9_bitsOf_20 rfl rfl ?_
  exact aw_iret rfl dX9_bitsOf_21 (by decide) (by decide) ⟨by rw [env], rfl⟩
set_option maxHeartbeats 4000000 in
theorem X0_leastWithout_l {l : Launch} {G : xG} {R : Room} {E : Array Value → State → Prop} {QF : List Frame → Array Value → State → State → Prop} {kc ns : Nat} {h : List va_E} {b : Int32} {b0 : Nat} (hF : xF8 G h) (eb : b = nI b0) (hb : b0 < 1024) (hR : 1 ≤ R.frames ∧ 40 ≤ R.locals ∧ kc ≤ R.cells ∧ ns ≤ R.slots) 
    (K : AW l G yX0_leastWithout cX0_leastWithout 5 (some .int) R E QF kc ns 59 [(2, .int 0)] [] h) :
    ∀ (n i : Nat) (iv : Int32), i + n = b0 → iv = nI i → AW l G yX0_leastWithout cX0_leastWithout 5 (some .int) R E QF kc ns 4 [(3, .int iv), (2, .int 0), (1, .int b), (0, .ref (G.1 + 84))] [] h := by
  intro n
  induction n with
  | zero =>
    intro i  iv hi ei
    refine aw_iload_n 0 dX0_leastWithout_4 rfl rfl ?_
    refine aw_iload_n 2 dX0_leastWithout_5 rfl rfl ?_
    refine aw_icmp_ge 59 dX0_leastWithout_6 (by decide) (fun c6 => ?_) (fun c6 => absurd (by simp only [i_le, (i_toNat (ei) (by omega)), (i_toNat (eb) (by omega))] <;> omega) c6)
    refine aw_lv [(2, .int 0)] [1] rfl ?_
    exact K
  | succ n ih =>
    intro i  iv hi ei
    refine aw_iload_n 0 dX0_leastWithout_4 rfl rfl ?_
    refine aw_iload_n 2 dX0_leastWithout_5 rfl rfl ?_
    refine aw_icmp_ge 59 dX0_leastWithout_6 (by decide) (fun c6 => absurd c6 (by simp only [i_le, (i_toNat (ei) (by omega)), (i_toNat (eb) (by omega))] <;> omega)) (fun c6 => ?_)
    refine aw_iload_n 0 dX0_leastWithout_9 rfl rfl ?_
    refine aw_iload_n 2 dX0_leastWithout_10 rfl rfl ?_
    refine aw_iand dX0_leastWithout_11 ?_
    refine aw_iload_n 0 dX0_leastWithout_12 rfl rfl ?_
    refine aw_icmp_ne 20 dX0_leastWithout_13 (by decide) (fun c13 => ?_) (fun c13 => ?_)
    · refine aw_iconst (0) dX0_leastWithout_20 (by decide) ?_
      refine aw_istore [(4, .int 0), (3, .int iv), (2, .int 0), (1, .int b), (0, .ref (G.1 + 84))] dX0_leastWithout_21 (by decide) rfl ?_
      refine aw_iload 0 dX0_leastWithout_23 rfl ?_
      refine aw_if_eq 53 dX0_leastWithout_25 (by decide) (fun c25 => ?_) (fun c25 => absurd (by decide) c25)
      obtain ⟨v8, ev8⟩ : ∃ q : Int32, q = iv + Int32.ofInt (1) := ⟨_, rfl⟩
      refine aw_iinc (j := 1) v8 [(3, .int v8), (4, .int 0), (2, .int 0), (1, .int b), (0, .ref (G.1 + 84))] dX0_leastWithout_53 rfl ev8.symm (by decide) rfl ?_
      refine aw_goto 4 dX0_leastWithout_56 (by decide) ?_
      refine aw_lv [(3, .int v8), (2, .int 0), (1, .int b), (0, .ref (G.1 + 84))] [0, 2, 3, 4] rfl ?_
      exact ih (i + 1) _ (by omega) (ev8.trans (nv_inc (ei)))
    · refine aw_iconst (1) dX0_leastWithout_16 (by decide) ?_
      refine aw_goto 21 dX0_leastWithout_17 (by decide) ?_
      refine aw_istore [(4, .int 1), (3, .int iv), (2, .int 0), (1, .int b), (0, .ref (G.1 + 84))] dX0_leastWithout_21 (by decide) rfl ?_
      refine aw_iload 0 dX0_leastWithout_23 rfl ?_
      refine aw_if_eq 53 dX0_leastWithout_25 (by decide) (fun c25 => absurd c25 (by decide)) (fun c25 => ?_)
      refine aw_iload_n 1 dX0_leastWithout_28 rfl rfl ?_
      refine aw_dS [.int iv] [] lX0_22 sJ6_bitCount_0f7a4 mJ6_bitCount_0f7a4 dX0_leastWithout_29 (J6_bitCount_n (x := i) (ei) (by omega)) rfl (Nat.le_of_ble_eq_true rfl) (by omega) (by omega) rfl ?_
      refine aw_iload_n 2 dX0_leastWithout_32 rfl rfl ?_
      refine aw_dS [.int 0] [.int (nI (popN i))] lX0_22 sJ6_bitCount_0f7a4 mJ6_bitCount_0f7a4 dX0_leastWithout_33 (J6_bitCount_n (x := 0) (rfl) (by decide)) rfl (Nat.le_of_ble_eq_true rfl) (by omega) (by omega) rfl ?_
      refine aw_icmp_ge 53 dX0_leastWithout_36 (by decide) (fun c36 => ?_) (fun c36 => absurd (nI_pos' (by have := popN_le i; omega)) c36)
      obtain ⟨v9, ev9⟩ : ∃ q : Int32, q = iv + Int32.ofInt (1) := ⟨_, rfl⟩
      refine aw_iinc (j := 1) v9 [(3, .int v9), (4, .int 1), (2, .int 0), (1, .int b), (0, .ref (G.1 + 84))] dX0_leastWithout_53 rfl ev9.symm (by decide) rfl ?_
      refine aw_goto 4 dX0_leastWithout_56 (by decide) ?_
      refine aw_lv [(3, .int v9), (2, .int 0), (1, .int b), (0, .ref (G.1 + 84))] [0, 2, 3, 4] rfl ?_
      exact ih (i + 1) _ (by omega) (ev9.trans (nv_inc (ei)))
set_option maxHeartbeats 4000000 in
theorem X0_leastWithout_z {l : Launch} {G : xG} {h : List va_E} {b : Int32} (hF : xF8 G h) (hb : 0 ≤ b.toInt ∧ b.toInt < 1024) (hb0 : b.toInt = 0) : CD l G yX0_leastWithout cX0_leastWithout 5 (some .int) 1 0 0 [.ref (G.1 + 84), .int b] h (some (.int 0)) h := by
  refine cm_of rfl (Nat.le_of_ble_eq_true rfl) [(0, .ref (G.1 + 84)), (1, .int b)] rfl ?_
  obtain ⟨b0, bb, eb⟩ := i_nat (N := 1024) hb.1 hb.2
  have tb : b.toInt = (b0 : Int) := i_toNat eb (by omega)
  refine aw_iload_n 1 dX0_leastWithout_0 rfl rfl ?_
  refine aw_istore_n [(2, .int b), (0, .ref (G.1 + 84)), (1, .int b)] dX0_leastWithout_1 rfl (by decide) rfl ?_
  refine aw_iconst (0) dX0_leastWithout_2 (by decide) ?_
  refine aw_istore_n [(3, .int 0), (2, .int b), (0, .ref (G.1 + 84)), (1, .int b)] dX0_leastWithout_3 rfl (by decide) rfl ?_
  refine aw_lv [(3, .int 0), (2, .int b), (1, .int b), (0, .ref (G.1 + 84))] [0, 1, 3, 2] rfl ?_
  refine aw_iload_n 0 dX0_leastWithout_4 rfl rfl ?_
  refine aw_iload_n 2 dX0_leastWithout_5 rfl rfl ?_
  refine aw_icmp_ge 59 dX0_leastWithout_6 (by decide) (fun c6 => ?_) (fun c6 => absurd (by simp only [i_le, (show (0 : Int32).toInt = 0 from rfl), (i_toNat (eb) (by omega))] <;> omega) c6)
  refine aw_iload_n 1 dX0_leastWithout_59 rfl rfl ?_
  exact aw_iret rfl dX0_leastWithout_60 (by decide) (by decide) ⟨by rw [show b = 0 from (i_eq _ _).mpr (by rw [hb0]; rfl)], rfl⟩
set_option maxHeartbeats 4000000 in
theorem X0_leastWithout_p {l : Launch} {G : xG} {h : List va_E} {b : Int32} (hF : xF8 G h) (hb : 0 ≤ b.toInt ∧ b.toInt < 1024) (hb0 : 0 < b.toInt) : CD l G yX0_leastWithout cX0_leastWithout 5 (some .int) 1 0 0 [.ref (G.1 + 84), .int b] h (some (.int 0)) h := by
  refine cm_of rfl (Nat.le_of_ble_eq_true rfl) [(0, .ref (G.1 + 84)), (1, .int b)] rfl ?_
  obtain ⟨b0, bb, eb⟩ := i_nat (N := 1024) hb.1 hb.2
  have tb : b.toInt = (b0 : Int) := i_toNat eb (by omega)
  refine aw_iload_n 1 dX0_leastWithout_0 rfl rfl ?_
  refine aw_istore_n [(2, .int b), (0, .ref (G.1 + 84)), (1, .int b)] dX0_leastWithout_1 rfl (by decide) rfl ?_
  refine aw_iconst (0) dX0_leastWithout_2 (by decide) ?_
  refine aw_istore_n [(3, .int 0), (2, .int b), (0, .ref (G.1 + 84)), (1, .int b)] dX0_leastWithout_3 rfl (by decide) rfl ?_
  refine aw_lv [(3, .int 0), (2, .int b), (1, .int b), (0, .ref (G.1 + 84))] [0, 1, 3, 2] rfl ?_
  refine aw_iload_n 0 dX0_leastWithout_4 rfl rfl ?_
  refine aw_iload_n 2 dX0_leastWithout_5 rfl rfl ?_
  refine aw_icmp_ge 59 dX0_leastWithout_6 (by decide) (fun c6 => absurd c6 (by simp only [i_le, (show (0 : Int32).toInt = 0 from rfl), (i_toNat (eb) (by omega))] <;> omega)) (fun c6 => ?_)
  refine aw_iload_n 0 dX0_leastWithout_9 rfl rfl ?_
  refine aw_iload_n 2 dX0_leastWithout_10 rfl rfl ?_
  refine aw_iand dX0_leastWithout_11 ?_
  refine aw_iload_n 0 dX0_leastWithout_12 rfl rfl ?_
  refine aw_icmp_ne 20 dX0_leastWithout_13 (by decide) (fun c13 => absurd (by simp) c13) (fun c13 => ?_)
  refine aw_iconst (1) dX0_leastWithout_16 (by decide) ?_
  refine aw_goto 21 dX0_leastWithout_17 (by decide) ?_
  refine aw_istore [(4, .int 1), (3, .int 0), (2, .int b), (1, .int b), (0, .ref (G.1 + 84))] dX0_leastWithout_21 (by decide) rfl ?_
  refine aw_iload 0 dX0_leastWithout_23 rfl ?_
  refine aw_if_eq 53 dX0_leastWithout_25 (by decide) (fun c25 => absurd c25 (by decide)) (fun c25 => ?_)
  refine aw_iload_n 1 dX0_leastWithout_28 rfl rfl ?_
  refine aw_dS [.int 0] [] lX0_22 sJ6_bitCount_0f7a4 mJ6_bitCount_0f7a4 dX0_leastWithout_29 (J6_bitCount_n (x := 0) (rfl) (by decide)) rfl (Nat.le_of_ble_eq_true rfl) (by decide) (by decide) rfl ?_
  refine aw_iload_n 2 dX0_leastWithout_32 rfl rfl ?_
  refine aw_dS [.int b] [.int (nI (popN 0))] lX0_22 sJ6_bitCount_0f7a4 mJ6_bitCount_0f7a4 dX0_leastWithout_33 (J6_bitCount_n (x := b0) (eb) (by omega)) rfl (Nat.le_of_ble_eq_true rfl) (by decide) (by decide) rfl ?_
  refine aw_icmp_ge 53 dX0_leastWithout_36 (by decide) (fun c36 => absurd c36 (by rw [pop_0]; simp only [i_le, (show (nI 0).toInt = 0 from rfl), (nI_toInt (n := popN b0) (by have := popN_le b0; omega))]; have := pop_pos (n := b0) (by omega) (by omega); omega)) (fun c36 => ?_)
  refine aw_aload_n 4 dX0_leastWithout_39 rfl rfl ?_
  refine aw_iload_n 3 dX0_leastWithout_40 rfl rfl ?_
  refine aw_iload_n 1 dX0_leastWithout_41 rfl rfl ?_
  refine aw_iconst (-1) dX0_leastWithout_42 (by decide) ?_
  refine aw_ixor dX0_leastWithout_43 ?_
  refine aw_toe (-1) (by decide) ?_
  refine aw_iand dX0_leastWithout_44 ?_
  refine aw_dV [.int (b &&& (-1))] [] lX0_28 vX0_isFake mX0_isFake dX0_leastWithout_45 (X0_isFake_o hF) hF.2.2.2.2.2.2.2.2.2.2.2.2.2.2.2.2.2.2.2.2.2.2.2.2.2.2.2.2.2.2.2.2.2.2.2.2.1 rfl rfl rfl (Nat.le_of_ble_eq_true rfl) (by decide) (by decide) rfl ?_
  refine aw_if_ne 53 dX0_leastWithout_48 (by decide) (fun c48 => absurd (by decide) c48) (fun c48 => ?_)
  refine aw_iload_n 1 dX0_leastWithout_51 rfl rfl ?_
  refine aw_istore_n [(2, .int 0), (4, .int 1), (3, .int 0), (1, .int b), (0, .ref (G.1 + 84))] dX0_leastWithout_52 rfl (by decide) rfl ?_
  refine aw_iinc (j := 2) (1) [(3, .int 1), (2, .int 0), (4, .int 1), (1, .int b), (0, .ref (G.1 + 84))] dX0_leastWithout_53 rfl (by decide) (by decide) rfl ?_
  refine aw_goto 4 dX0_leastWithout_56 (by decide) ?_
  refine aw_lv [(3, .int 1), (2, .int 0), (1, .int b), (0, .ref (G.1 + 84))] [0, 1, 3, 4] rfl ?_
  refine X0_leastWithout_l hF eb bb (by decide) ?_ (b0 - 1) 1 _ (by omega) rfl
  refine aw_iload_n 0 dX0_leastWithout_59 rfl rfl ?_
  exact aw_iret rfl dX0_leastWithout_60 (by decide) (by decide) ⟨rfl, rfl⟩
set_option maxHeartbeats 4000000 in
theorem X9_least_l {l : Launch} {G : xG} {R : Room} {E : Array Value → State → Prop} {QF : List Frame → Array Value → State → State → Prop} {kc ns : Nat} {h : List va_E} {b : Int32} (hM : xF9 G h) (hR : 2 ≤ R.frames ∧ 80 ≤ R.locals ∧ kc ≤ R.cells ∧ ns ≤ R.slots)
    (K : ∀ (bv : Int32), AW l G yX9_least cX9_least 4 (some .int) R E QF kc ns 63 [(2, .int bv), (1, .int b), (0, .ref (G.1 + 88))] [] h) :
    ∀ (n i bn : Nat) (bv iv : Int32), i + n = 1024 → iv = nI i → bv = nI bn → bn < 1024 → AW l G yX9_least cX9_least 4 (some .int) R E QF kc ns 17 [(3, .int iv), (2, .int bv), (1, .int b), (0, .ref (G.1 + 88))] [] h := by
  intro n
  induction n with
  | zero =>
    intro i bn bv iv hi ei ebn hbn
    refine aw_iload_n 0 dX9_least_17 rfl rfl ?_
    refine aw_sipush (1024) dX9_least_18 (by decide) ?_
    refine aw_icmp_ge 63 dX9_least_21 (by decide) (fun c21 => ?_) (fun c21 => absurd (by simp only [i_le, (i_toNat (ei) (by omega)), (show (1024 : Int32).toInt = 1024 from rfl)] <;> omega) c21)
    refine aw_lv [(2, .int bv), (1, .int b), (0, .ref (G.1 + 88))] [1, 2, 3] rfl ?_
    exact K _
  | succ n ih =>
    intro i bn bv iv hi ei ebn hbn
    refine aw_iload_n 0 dX9_least_17 rfl rfl ?_
    refine aw_sipush (1024) dX9_least_18 (by decide) ?_
    refine aw_icmp_ge 63 dX9_least_21 (by decide) (fun c21 => absurd c21 (by simp only [i_le, (i_toNat (ei) (by omega)), (show (1024 : Int32).toInt = 1024 from rfl)] <;> omega)) (fun c21 => ?_)
    refine aw_iload_n 0 dX9_least_24 rfl rfl ?_
    refine aw_iload_n 2 dX9_least_25 rfl rfl ?_
    refine aw_iconst (-1) dX9_least_26 (by decide) ?_
    refine aw_ixor dX9_least_27 ?_
    refine aw_iand dX9_least_28 ?_
    refine aw_if_ne 57 dX9_least_29 (by decide) (fun c29 => ?_) (fun c29 => ?_)
    · obtain ⟨v10, ev10⟩ : ∃ q : Int32, q = iv + Int32.ofInt (1) := ⟨_, rfl⟩
      refine aw_iinc (j := 0) v10 [(3, .int v10), (2, .int bv), (1, .int b), (0, .ref (G.1 + 88))] dX9_least_57 rfl ev10.symm (by decide) rfl ?_
      refine aw_goto 17 dX9_least_60 (by decide) ?_
      refine aw_lv [(3, .int v10), (2, .int bv), (1, .int b), (0, .ref (G.1 + 88))] [0, 1, 2, 3] rfl ?_
      exact ih (i + 1) bn _ _ (by omega) (ev10.trans (nv_inc (ei))) (ebn) (by omega)
    · refine aw_iload_n 0 dX9_least_32 rfl rfl ?_
      refine aw_dS [.int iv] [] lX9_159 sX9_bitsOf mX9_bitsOf dX9_least_33 (X9_bitsOf_n (x := i) (ei) (by omega)) rfl (Nat.le_of_ble_eq_true rfl) (by omega) (by omega) rfl ?_
      refine aw_iload_n 1 dX9_least_36 rfl rfl ?_
      refine aw_dS [.int bv] [.int (nI (popN i))] lX9_159 sX9_bitsOf mX9_bitsOf dX9_least_37 (X9_bitsOf_n (x := bn) (ebn) (by omega)) rfl (Nat.le_of_ble_eq_true rfl) (by omega) (by omega) rfl ?_
      refine aw_icmp_ge 57 dX9_least_40 (by decide) (fun c40 => ?_) (fun c40 => ?_)
      · obtain ⟨v11, ev11⟩ : ∃ q : Int32, q = iv + Int32.ofInt (1) := ⟨_, rfl⟩
        refine aw_iinc (j := 0) v11 [(3, .int v11), (2, .int bv), (1, .int b), (0, .ref (G.1 + 88))] dX9_least_57 rfl ev11.symm (by decide) rfl ?_
        refine aw_goto 17 dX9_least_60 (by decide) ?_
        refine aw_lv [(3, .int v11), (2, .int bv), (1, .int b), (0, .ref (G.1 + 88))] [0, 1, 2, 3] rfl ?_
        exact ih (i + 1) bn _ _ (by omega) (ev11.trans (nv_inc (ei))) (ebn) (by omega)
      · refine aw_aload_n 3 dX9_least_43 rfl rfl ?_
        refine aw_iload_n 2 dX9_least_44 rfl rfl ?_
        refine aw_iload_n 0 dX9_least_45 rfl rfl ?_
        refine aw_iconst (-1) dX9_least_46 (by decide) ?_
        refine aw_ixor dX9_least_47 ?_
        refine aw_iand dX9_least_48 ?_
        refine aw_dV [.int (b &&& (iv ^^^ (-1)))] [] lX9_249 vX9_isFake mX9_isFake dX9_least_49 (X9_isFake_o hM) hM.1 rfl rfl rfl (Nat.le_of_ble_eq_true rfl) (by omega) (by omega) rfl ?_
        refine aw_if_ne 57 dX9_least_52 (by decide) (fun c52 => absurd (by decide) c52) (fun c52 => ?_)
        refine aw_iload_n 0 dX9_least_55 rfl rfl ?_
        refine aw_istore_n [(2, .int iv), (3, .int iv), (1, .int b), (0, .ref (G.1 + 88))] dX9_least_56 rfl (by decide) rfl ?_
        obtain ⟨v12, ev12⟩ : ∃ q : Int32, q = iv + Int32.ofInt (1) := ⟨_, rfl⟩
        refine aw_iinc (j := 1) v12 [(3, .int v12), (2, .int iv), (1, .int b), (0, .ref (G.1 + 88))] dX9_least_57 rfl ev12.symm (by decide) rfl ?_
        refine aw_goto 17 dX9_least_60 (by decide) ?_
        refine aw_lv [(3, .int v12), (2, .int iv), (1, .int b), (0, .ref (G.1 + 88))] [0, 1, 2, 3] rfl ?_
        exact ih (i + 1) i _ _ (by omega) (ev12.trans (nv_inc (ei))) (ei) (by omega)
set_option maxHeartbeats 4000000 in
theorem A27a {l : Launch} {G : xG} {h : List va_E} {b : Int32} (hF : xF8 G h) (hb : ¬ (0 ≤ b.toInt ∧ b.toInt < 1024)) : CE l G yX8_least cX8_least 2 (some .int) 2 0 0 [.ref (G.1 + 0), .int b] h (some (.int (-1))) (kp h) := by
  refine cm_of rfl (Nat.le_of_ble_eq_true rfl) [(0, .ref (G.1 + 0)), (1, .int b)] rfl ?_
  refine aw_iload_n 1 dX8_least_0 rfl rfl ?_
  refine aw_bipush (10) dX8_least_1 (by decide) ?_
  refine aw_dS [.int b, .int 10] [] lX8_87 sX8_hasOtherBits mX8_hasOtherBits dX8_least_3 (X8_hasOtherBits10_t (by omega)) rfl (Nat.le_of_ble_eq_true rfl) (by decide) (by decide) rfl ?_
  refine aw_if_eq 15 dX8_least_6 (by decide) (fun c6 => absurd c6 (by decide)) (fun c6 => ?_)
  refine aw_aload_n 0 dX8_least_9 rfl rfl ?_
  refine aw_iconst (-1) dX8_least_10 (by decide) ?_
  refine aw_eV [.int (-1)] [] lX8_70 vX8_refuse mX8_refuse dX8_least_11 (X8_refuse1 hF) hF.1 rfl rfl rfl (Nat.le_of_ble_eq_true rfl) (by decide) (by decide) rfl (fun h13 q14 => ?_)
  exact aw_iret rfl dX8_least_14 (by decide) (by decide) ⟨rfl, (kp_tr (kp_rf h) q14)⟩
set_option maxHeartbeats 4000000 in
theorem A27z {l : Launch} {G : xG} {h : List va_E} {b : Int32} (hF : xF8 G h) (hb : 0 ≤ b.toInt ∧ b.toInt < 1024)(hz : b.toInt = 0) : CE l G yX8_least cX8_least 2 (some .int) 2 0 0 [.ref (G.1 + 0), .int b] h (some (.int 0)) (kp h) := by
  refine cm_of rfl (Nat.le_of_ble_eq_true rfl) [(0, .ref (G.1 + 0)), (1, .int b)] rfl ?_
  refine aw_iload_n 1 dX8_least_0 rfl rfl ?_
  refine aw_bipush (10) dX8_least_1 (by decide) ?_
  refine aw_dS [.int b, .int 10] [] lX8_87 sX8_hasOtherBits mX8_hasOtherBits dX8_least_3 (X8_hasOtherBits10_f (by omega)) rfl (Nat.le_of_ble_eq_true rfl) (by decide) (by decide) rfl ?_
  refine aw_if_eq 15 dX8_least_6 (by decide) (fun c6 => ?_) (fun c6 => absurd (by decide) c6)
  refine aw_aload_n 0 dX8_least_15 rfl rfl ?_
  refine aw_get fX8_58 dX8_least_16 hF.1 rfl ?_
  refine aw_iload_n 1 dX8_least_19 rfl rfl ?_
  refine aw_dV [.int b] [] lX8_237 vX0_leastWithout mX0_leastWithout dX8_least_20 (X0_leastWithout_z hF hb hz) hF.2.2.2.2.2.2.2.2.2.2.2.2.2.2.2.2.2.2.2.2.2.2.2.2.2.2.2.2.2.2.2.2.2.2.2.2.1 rfl rfl rfl (Nat.le_of_ble_eq_true rfl) (by decide) (by decide) rfl ?_
  exact aw_iret rfl dX8_least_23 (by decide) (by decide) ⟨rfl, kp_rf h⟩
set_option maxHeartbeats 4000000 in
theorem A27p {l : Launch} {G : xG} {h : List va_E} {b : Int32} (hF : xF8 G h) (hb : 0 ≤ b.toInt ∧ b.toInt < 1024)(hz : 0 < b.toInt) : CE l G yX8_least cX8_least 2 (some .int) 2 0 0 [.ref (G.1 + 0), .int b] h (some (.int 0)) (kp h) := by
  refine cm_of rfl (Nat.le_of_ble_eq_true rfl) [(0, .ref (G.1 + 0)), (1, .int b)] rfl ?_
  refine aw_iload_n 1 dX8_least_0 rfl rfl ?_
  refine aw_bipush (10) dX8_least_1 (by decide) ?_
  refine aw_dS [.int b, .int 10] [] lX8_87 sX8_hasOtherBits mX8_hasOtherBits dX8_least_3 (X8_hasOtherBits10_f (by omega)) rfl (Nat.le_of_ble_eq_true rfl) (by decide) (by decide) rfl ?_
  refine aw_if_eq 15 dX8_least_6 (by decide) (fun c6 => ?_) (fun c6 => absurd (by decide) c6)
  refine aw_aload_n 0 dX8_least_15 rfl rfl ?_
  refine aw_get fX8_58 dX8_least_16 hF.1 rfl ?_
  refine aw_iload_n 1 dX8_least_19 rfl rfl ?_
  refine aw_dV [.int b] [] lX8_237 vX0_leastWithout mX0_leastWithout dX8_least_20 (X0_leastWithout_p hF hb hz) hF.2.2.2.2.2.2.2.2.2.2.2.2.2.2.2.2.2.2.2.2.2.2.2.2.2.2.2.2.2.2.2.2.2.2.2.2.1 rfl rfl rfl (Nat.le_of_ble_eq_true rfl) (by decide) (by decide) rfl ?_
  exact aw_iret rfl dX8_least_23 (by decide) (by decide) ⟨rfl, kp_rf h⟩
set_option maxHeartbeats 4000000 in
theorem B27a {l : Launch} {G : xG} {h : List va_E} {b : Int32} (hM : xF9 G h)(hb : ¬ (0 ≤ b.toInt ∧ b.toInt < 1024)) : CE l G yX9_least cX9_least 4 (some .int) 2 0 0 [.ref (G.1 + 88), .int b] h (some (.int (-1))) (fun _ => True) := by
  refine cm_of rfl (Nat.le_of_ble_eq_true rfl) [(0, .ref (G.1 + 88)), (1, .int b)] rfl ?_
  refine aw_iload_n 1 dX9_least_0 rfl rfl ?_
  refine aw_dS [.int b] [] lX9_245 sX9_isBeast mX9_isBeast dX9_least_1 (X9_isBeast_f (by omega)) rfl (Nat.le_of_ble_eq_true rfl) (by decide) (by decide) rfl ?_
  refine aw_if_ne 13 dX9_least_4 (by decide) (fun c4 => absurd (by decide) c4) (fun c4 => ?_)
  refine aw_aload_n 0 dX9_least_7 rfl rfl ?_
  refine aw_iconst (-1) dX9_least_8 (by decide) ?_
  refine aw_eV [.int (-1)] [] lX9_130 vX9_refuse mX9_refuse dX9_least_9 (X9_refuse1 hM) hM.1 rfl rfl rfl (Nat.le_of_ble_eq_true rfl) (by decide) (by decide) rfl (fun h15 q16 => ?_)
  exact aw_iret rfl dX9_least_12 (by decide) (by decide) ⟨rfl, trivial⟩
set_option maxHeartbeats 4000000 in
theorem B27o {l : Launch} {G : xG} {h : List va_E} {b : Int32} (hM : xF9 G h)(hb : 0 ≤ b.toInt ∧ b.toInt < 1024) : CE l G yX9_least cX9_least 4 (some .int) 2 0 0 [.ref (G.1 + 88), .int b] h (some (.int 0)) (fun _ => True) := by
  refine cm_of rfl (Nat.le_of_ble_eq_true rfl) [(0, .ref (G.1 + 88)), (1, .int b)] rfl ?_
  obtain ⟨b0, bb, eb⟩ := i_nat (N := 1024) hb.1 hb.2
  have tb : b.toInt = (b0 : Int) := i_toNat eb (by omega)
  refine aw_iload_n 1 dX9_least_0 rfl rfl ?_
  refine aw_dS [.int b] [] lX9_245 sX9_isBeast mX9_isBeast dX9_least_1 (X9_isBeast_t (by omega)) rfl (Nat.le_of_ble_eq_true rfl) (by decide) (by decide) rfl ?_
  refine aw_if_ne 13 dX9_least_4 (by decide) (fun c4 => ?_) (fun c4 => absurd c4 (by decide))
  refine aw_iload_n 1 dX9_least_13 rfl rfl ?_
  refine aw_istore_n [(2, .int b), (0, .ref (G.1 + 88)), (1, .int b)] dX9_least_14 rfl (by decide) rfl ?_
  refine aw_iconst (0) dX9_least_15 (by decide) ?_
  refine aw_istore_n [(3, .int 0), (2, .int b), (0, .ref (G.1 + 88)), (1, .int b)] dX9_least_16 rfl (by decide) rfl ?_
  refine aw_lv [(3, .int 0), (2, .int b), (1, .int b), (0, .ref (G.1 + 88))] [0, 1, 3, 2] rfl ?_
  refine X9_least_l hM (by decide) ?_ 1024 0 b0 _ _ rfl rfl eb (by omega)
  intro bv
  refine aw_aload_n 2 dX9_least_63 rfl rfl ?_
  refine aw_iload_n 1 dX9_least_64 rfl rfl ?_
  refine aw_dV [.int b] [] lX9_249 vX9_isFake mX9_isFake dX9_least_65 (X9_isFake_o hM) hM.1 rfl rfl rfl (Nat.le_of_ble_eq_true rfl) (by decide) (by decide) rfl ?_
  refine aw_if_eq 75 dX9_least_68 (by decide) (fun c68 => ?_) (fun c68 => absurd (by decide) c68)
  refine aw_iconst (0) dX9_least_75 (by decide) ?_
  exact aw_iret rfl dX9_least_76 (by decide) (by decide) ⟨rfl, trivial⟩
