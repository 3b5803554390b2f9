def xSh (G : xG) (tA pF tF : Nat → Int32) (sz tt sm bs bn : Int32) (h : List va_E) : Prop := h[125]? = some (.inr (7, [.ref (G.1 + 126), .ref (G.1 + 127), .ref (G.1 + 128), .ref (G.1 + 129), .ref (G.1 + 130), .ref (G.1 + 131), .ref (G.1 + 132), .ref (G.1 + 133), .ref (G.1 + 134), .int sz, .int tt, .int sm, .int bs, .int bn])) ∧ h[126]? = some (.inl (0, 8, .inl tA)) ∧ h[127]? = some (.inl (0, 12, .inl pF)) ∧ h[128]? = some (.inl (0, 64, .inl (fun _ => 0))) ∧ h[129]? = some (.inl (0, 64, .inl (fun _ => 0))) ∧ h[130]? = some (.inl (0, 8, .inl (fun _ => 0))) ∧ h[131]? = some (.inl (0, 8, .inl (fun _ => 0))) ∧ h[132]? = some (.inl (0, 8, .inl (fun _ => 0))) ∧ h[133]? = some (.inl (0, 2048, .inl (fun _ => 0))) ∧ h[134]? = some (.inl (0, 8, .inl tF))
set_option maxHeartbeats 4000000 in
theorem X7_valueOf_o {l : Launch} {G : xG} {h : List va_E} {tA pF tF : Nat → Int32} {sz tt sm bs bn : Int32} {n : Nat} {sv la nv : Int32} {st lb ne : Nat} (hS : xSh G tA pF tF sz tt sm bs bn h) (en : sz = nI n) (hn : n ≤ 8) (es : sv = nI st) (bst : st < 256) (el : la = nI lb) (bl : lb < 8) (ee : nv = nI ne) (bne : ne < 8) : CD l G yX7_valueOf cX7_valueOf 5 (some .int) 0 0 0 [.ref (G.1 + 125), .int sv, .int la, .int nv] h (some (.int 0)) h := by
  refine cm_of rfl (Nat.le_of_ble_eq_true rfl) [(0, .ref (G.1 + 125)), (1, .int sv), (2, .int la), (3, .int nv)] rfl ?_
  refine aw_aload_n 0 dX7_valueOf_0 rfl rfl ?_
  refine aw_get fX7_30 dX7_valueOf_1 hS.1 rfl ?_
  refine aw_iload_n 3 dX7_valueOf_4 rfl rfl ?_
  refine aw_iald ne (ee) (by omega) (by decide) dX7_valueOf_5 hS.2.2.2.2.2.2.2.1 ?_
  refine aw_toe 0 (rfl) ?_
  refine aw_aload_n 0 dX7_valueOf_6 rfl rfl ?_
  refine aw_get fX7_33 dX7_valueOf_7 hS.1 rfl ?_
  refine aw_iload_n 1 dX7_valueOf_10 rfl rfl ?_
  refine aw_iconst (1) dX7_valueOf_11 (by decide) ?_
  refine aw_iload_n 3 dX7_valueOf_12 rfl rfl ?_
  refine aw_ishl dX7_valueOf_13 ?_
  refine aw_ior dX7_valueOf_14 ?_
  refine aw_bipush (8) dX7_valueOf_15 (by decide) ?_
  refine aw_imul dX7_valueOf_17 ?_
  refine aw_iload_n 3 dX7_valueOf_18 rfl rfl ?_
  refine aw_iadd dX7_valueOf_19 ?_
  refine aw_iald ((st ||| 2 ^ ne) * 8 + ne) (nv_add (nv_mul (nv_or1 es ee (by omega)) rfl) ee) (by have := or_lt8 bst bne; omega) (by decide) dX7_valueOf_20 hS.2.2.2.2.2.2.2.2.1 ?_
  refine aw_toe 0 (rfl) ?_
  refine aw_iadd dX7_valueOf_21 ?_
  refine aw_toe 0 (by decide) ?_
  refine aw_istore [(4, .int 0), (0, .ref (G.1 + 125)), (1, .int sv), (2, .int la), (3, .int nv)] dX7_valueOf_22 (by decide) rfl ?_
  refine aw_iload_n 2 dX7_valueOf_24 rfl rfl ?_
  refine aw_if_ne 33 dX7_valueOf_25 (by decide) (fun c25 => ?_) (fun c25 => ?_)
  · refine aw_iload 0 dX7_valueOf_33 rfl ?_
    refine aw_aload_n 1 dX7_valueOf_35 rfl rfl ?_
    refine aw_get fX7_21 dX7_valueOf_36 hS.1 rfl ?_
    refine aw_iload_n 3 dX7_valueOf_39 rfl rfl ?_
    refine aw_bipush (8) dX7_valueOf_40 (by decide) ?_
    refine aw_imul dX7_valueOf_42 ?_
    refine aw_iload_n 4 dX7_valueOf_43 rfl rfl ?_
    refine aw_iadd dX7_valueOf_44 ?_
    refine aw_iald ((lb * 8) + ne) (nv_add (nv_mul (el) (rfl)) (ee)) (by omega) (by decide) dX7_valueOf_45 hS.2.2.2.2.1 ?_
    refine aw_toe 0 (rfl) ?_
    refine aw_iadd dX7_valueOf_46 ?_
    refine aw_toe 0 (by decide) ?_
    exact aw_iret rfl dX7_valueOf_47 (by decide) (by decide) ⟨rfl, rfl⟩
  · refine aw_iload 0 dX7_valueOf_28 rfl ?_
    refine aw_goto 47 dX7_valueOf_30 (by decide) ?_
    exact aw_iret rfl dX7_valueOf_47 (by decide) (by decide) ⟨rfl, rfl⟩
set_option maxHeartbeats 4000000 in
theorem X7_weighState_l {l : Launch} {G : xG} {R : Room} {E : Array Value → State → Prop} {QF : List Frame → Array Value → State → State → Prop} {kc ns : Nat} {h : List va_E} {tA pF tF : Nat → Int32} {sz tt sm bs bn : Int32} {n : Nat} {sv la : Int32} {st lb : Nat} (hS : xSh G tA pF tF sz tt sm bs bn h) (en : sz = nI n) (hn : n ≤ 8) (es : sv = nI st) (bst : st < 256) (el : la = nI lb) (bl : lb < 8) (hR : 1 ≤ R.frames ∧ 40 ≤ R.locals ∧ kc ≤ R.cells ∧ ns ≤ R.slots)
    (K : AW l G yX7_weighState cX7_weighState 5 (some .int) R E QF kc ns 42 [(3, .int 0), (2, .int la), (1, .int sv), (0, .ref (G.1 + 125))] [] h) :
    ∀ (mm i : Nat) (iv : Int32), i + mm = n → iv = nI i → AW l G yX7_weighState cX7_weighState 5 (some .int) R E QF kc ns 5 [(4, .int iv), (3, .int 0), (2, .int la), (1, .int sv), (0, .ref (G.1 + 125))] [] h := by
  intro mm
  induction mm with
  | zero =>
    intro i  iv hi ei
    refine aw_iload 0 dX7_weighState_5 rfl ?_
    refine aw_aload_n 4 dX7_weighState_7 rfl rfl ?_
    refine aw_get fX7_39 dX7_weighState_8 hS.1 rfl ?_
    refine aw_icmp_ge 42 dX7_weighState_11 (by decide) (fun c11 => ?_) (fun c11 => absurd (by simp only [i_le, (i_toNat (ei) (by omega)), (i_toNat (en) (by omega))] <;> omega) c11)
    refine aw_lv [(3, .int 0), (2, .int la), (1, .int sv), (0, .ref (G.1 + 125))] [1, 2, 3, 4] rfl ?_
    exact K
  | succ mm ih =>
    intro i  iv hi ei
    refine aw_iload 0 dX7_weighState_5 rfl ?_
    refine aw_aload_n 4 dX7_weighState_7 rfl rfl ?_
    refine aw_get fX7_39 dX7_weighState_8 hS.1 rfl ?_
    refine aw_icmp_ge 42 dX7_weighState_11 (by decide) (fun c11 => absurd c11 (by simp only [i_le, (i_toNat (ei) (by omega)), (i_toNat (en) (by omega))] <;> omega)) (fun c11 => ?_)
    refine aw_iload_n 3 dX7_weighState_14 rfl rfl ?_
    refine aw_iload 0 dX7_weighState_15 rfl ?_
    refine aw_ishr dX7_weighState_17 ?_
    refine aw_iconst (1) dX7_weighState_18 (by decide) ?_
    refine aw_iand dX7_weighState_19 ?_
    refine aw_if_ne 36 dX7_weighState_20 (by decide) (fun c20 => ?_) (fun c20 => ?_)
    · obtain ⟨v1, ev1⟩ : ∃ q : Int32, q = iv + Int32.ofInt (1) := ⟨_, rfl⟩
      refine aw_iinc (j := 0) v1 [(4, .int v1), (3, .int 0), (2, .int la), (1, .int sv), (0, .ref (G.1 + 125))] dX7_weighState_36 rfl ev1.symm (by decide) rfl ?_
      refine aw_goto 5 dX7_weighState_39 (by decide) ?_
      refine aw_lv [(4, .int v1), (3, .int 0), (2, .int la), (1, .int sv), (0, .ref (G.1 + 125))] [0, 1, 2, 3, 4] rfl ?_
      exact ih (i + 1) _ (by omega) (ev1.trans (nv_inc (ei)))
    · refine aw_iload_n 1 dX7_weighState_23 rfl rfl ?_
      refine aw_aload_n 4 dX7_weighState_24 rfl rfl ?_
      refine aw_iload_n 3 dX7_weighState_25 rfl rfl ?_
      refine aw_iload_n 2 dX7_weighState_26 rfl rfl ?_
      refine aw_iload 0 dX7_weighState_27 rfl ?_
      refine aw_dV [.int sv, .int la, .int iv] [.int 0] lX7_96 vX7_valueOf mX7_valueOf dX7_weighState_29 (X7_valueOf_o hS en hn (es) (by omega) (el) (by omega) (ei) (by omega)) hS.1 rfl rfl rfl (Nat.le_of_ble_eq_true rfl) (by omega) (by omega) rfl ?_
      refine aw_mmax lX7_100 dX7_weighState_32 (Nat.le_of_ble_eq_true rfl) (by omega) (by omega) ?_
      refine aw_toe 0 (by decide) ?_
      refine aw_istore_n [(3, .int 0), (4, .int iv), (2, .int la), (1, .int sv), (0, .ref (G.1 + 125))] dX7_weighState_35 rfl (by decide) rfl ?_
      obtain ⟨v2, ev2⟩ : ∃ q : Int32, q = iv + Int32.ofInt (1) := ⟨_, rfl⟩
      refine aw_iinc (j := 1) v2 [(4, .int v2), (3, .int 0), (2, .int la), (1, .int sv), (0, .ref (G.1 + 125))] dX7_weighState_36 rfl ev2.symm (by decide) rfl ?_
      refine aw_goto 5 dX7_weighState_39 (by decide) ?_
      refine aw_lv [(4, .int v2), (3, .int 0), (2, .int la), (1, .int sv), (0, .ref (G.1 + 125))] [0, 1, 2, 3, 4] rfl ?_
      exact ih (i + 1) _ (by omega) (ev2.trans (nv_inc (ei)))
set_option maxHeartbeats 4000000 in
theorem X7_weighState_o {l : Launch} {G : xG} {h : List va_E} {tA pF tF : Nat → Int32} {sz tt sm bs bn : Int32} {n : Nat} {sv la : Int32} {st lb : Nat} (hS : xSh G tA pF tF sz tt sm bs bn h) (en : sz = nI n) (hn : n ≤ 8) (es : sv = nI st) (bst : st < 256) (el : la = nI lb) (bl : lb < 8) : CD l G yX7_weighState cX7_weighState 5 (some .int) 1 0 0 [.ref (G.1 + 125), .int sv, .int la] h (some (.int 0)) h := by
  refine cm_of rfl (Nat.le_of_ble_eq_true rfl) [(0, .ref (G.1 + 125)), (1, .int sv), (2, .int la)] rfl ?_
  refine aw_iconst (0) dX7_weighState_0 (by decide) ?_
  refine aw_istore_n [(3, .int 0), (0, .ref (G.1 + 125)), (1, .int sv), (2, .int la)] dX7_weighState_1 rfl (by decide) rfl ?_
  refine aw_iconst (0) dX7_weighState_2 (by decide) ?_
  refine aw_istore [(4, .int 0), (3, .int 0), (0, .ref (G.1 + 125)), (1, .int sv), (2, .int la)] dX7_weighState_3 (by decide) rfl ?_
  refine aw_lv [(4, .int 0), (3, .int 0), (2, .int la), (1, .int sv), (0, .ref (G.1 + 125))] [0, 1, 4, 3, 2] rfl ?_
  refine X7_weighState_l hS en hn es bst el bl (by decide) ?_ n 0 _ (by omega) rfl
  refine aw_iload_n 0 dX7_weighState_42 rfl rfl ?_
  exact aw_iret rfl dX7_weighState_43 (by decide) (by decide) ⟨rfl, rfl⟩
set_option maxHeartbeats 4000000 in
theorem X7_firstBest_l {l : Launch} {G : xG} {R : Room} {E : Array Value → State → Prop} {QF : List Frame → Array Value → State → State → Prop} {kc ns : Nat} {h : List va_E} {tA pF tF : Nat → Int32} {sz tt sm bs bn : Int32} {n : Nat} {sv la : Int32} {p lb : Nat} (hS : xSh G tA pF tF sz tt sm bs bn h) (en : sz = nI n) (hn : n ≤ 8) (es : sv = nI (2 ^ p - 1)) (bp : p < n) (el : la = nI lb) (bl : lb < 8) (hR : 1 ≤ R.frames ∧ 40 ≤ R.locals ∧ kc ≤ R.cells ∧ ns ≤ R.slots)
    (K : ∀ iv : Int32, iv = nI p → AW l G yX7_firstBest cX7_firstBest 5 (some .int) R E QF kc ns 42 [(4, .int iv)] [.int iv] h) :
    ∀ (m i : Nat) (iv : Int32), i + m = p → iv = nI i → AW l G yX7_firstBest cX7_firstBest 5 (some .int) R E QF kc ns 10 [(4, .int iv), (3, .int 0), (2, .int la), (1, .int sv), (0, .ref (G.1 + 125))] [] h := by
  have b8 := pw_lt p (by omega)
  intro m
  induction m with
  | zero =>
    intro i iv hi ei
    refine aw_iload 0 dX7_firstBest_10 rfl ?_
    refine aw_aload_n 4 dX7_firstBest_12 rfl rfl ?_
    refine aw_get fX7_39 dX7_firstBest_13 hS.1 rfl ?_
    refine aw_icmp_ge 49 dX7_firstBest_16 (by decide) (fun c16 => absurd c16 (by simp only [i_le, (i_toNat (ei) (by omega)), (i_toNat (en) (by omega))] <;> omega)) (fun c16 => ?_)
    refine aw_iload_n 3 dX7_firstBest_19 rfl rfl ?_
    refine aw_iload 0 dX7_firstBest_20 rfl ?_
    refine aw_ishr dX7_firstBest_22 ?_
    refine aw_iconst (1) dX7_firstBest_23 (by decide) ?_
    refine aw_iand dX7_firstBest_24 ?_
    refine aw_if_ne 43 dX7_firstBest_25 (by decide) (fun c25 => absurd (nv_bf es ei (by omega) (by omega) (by rw [pw_b]; simp; omega)) c25) (fun c25 => ?_)
    refine aw_aload_n 4 dX7_firstBest_28 rfl rfl ?_
    refine aw_iload_n 3 dX7_firstBest_29 rfl rfl ?_
    refine aw_iload_n 2 dX7_firstBest_30 rfl rfl ?_
    refine aw_iload 0 dX7_firstBest_31 rfl ?_
    refine aw_dV [.int sv, .int la, .int iv] [] lX7_96 vX7_valueOf mX7_valueOf dX7_firstBest_33 (X7_valueOf_o hS en hn (es) (by omega) (el) (by omega) (ei) (by omega)) hS.1 rfl rfl rfl (Nat.le_of_ble_eq_true rfl) (by omega) (by omega) rfl ?_
    refine aw_iload_n 1 dX7_firstBest_36 rfl rfl ?_
    refine aw_icmp_ne 43 dX7_firstBest_37 (by decide) (fun c37 => absurd (by decide) c37) (fun c37 => ?_)
    refine aw_iload 0 dX7_firstBest_40 rfl ?_
    refine aw_lv [(4, .int iv)] [0] rfl ?_
    exact K _ (by rw [ei, show i = p by omega])
  | succ m ih =>
    intro i iv hi ei
    refine aw_iload 0 dX7_firstBest_10 rfl ?_
    refine aw_aload_n 4 dX7_firstBest_12 rfl rfl ?_
    refine aw_get fX7_39 dX7_firstBest_13 hS.1 rfl ?_
    refine aw_icmp_ge 49 dX7_firstBest_16 (by decide) (fun c16 => absurd c16 (by simp only [i_le, (i_toNat (ei) (by omega)), (i_toNat (en) (by omega))] <;> omega)) (fun c16 => ?_)
    refine aw_iload_n 3 dX7_firstBest_19 rfl rfl ?_
    refine aw_iload 0 dX7_firstBest_20 rfl ?_
    refine aw_ishr dX7_firstBest_22 ?_
    refine aw_iconst (1) dX7_firstBest_23 (by decide) ?_
    refine aw_iand dX7_firstBest_24 ?_
    refine aw_if_ne 43 dX7_firstBest_25 (by decide) (fun c25 => ?_) (fun c25 => absurd c25 (by rw [nv_bt es ei (by omega) (by omega) (by rw [pw_b]; simp; omega)]; decide))
    obtain ⟨v3, ev3⟩ : ∃ q : Int32, q = iv + Int32.ofInt (1) := ⟨_, rfl⟩
    refine aw_iinc (j := 0) v3 [(4, .int v3), (3, .int 0), (2, .int la), (1, .int sv), (0, .ref (G.1 + 125))] dX7_firstBest_43 rfl ev3.symm (by decide) rfl ?_
    refine aw_goto 10 dX7_firstBest_46 (by decide) ?_
    refine aw_lv [(4, .int v3), (3, .int 0), (2, .int la), (1, .int sv), (0, .ref (G.1 + 125))] [0, 1, 2, 3, 4] rfl ?_
    exact ih (i + 1) _ (by omega) (ev3.trans (nv_inc (ei)))
set_option maxHeartbeats 4000000 in
theorem X7_firstBest_o {l : Launch} {G : xG} {h : List va_E} {tA pF tF : Nat → Int32} {sz tt sm bs bn : Int32} {n : Nat} {sv la : Int32} {p lb : Nat} (hS : xSh G tA pF tF sz tt sm bs bn h) (en : sz = nI n) (hn : n ≤ 8) (es : sv = nI (2 ^ p - 1)) (bp : p < n) (el : la = nI lb) (bl : lb < 8) : CD l G yX7_firstBest cX7_firstBest 5 (some .int) 2 0 0 [.ref (G.1 + 125), .int sv, .int la] h (some (.int (nI p))) h := by
  refine cm_of rfl (Nat.le_of_ble_eq_true rfl) [(0, .ref (G.1 + 125)), (1, .int sv), (2, .int la)] rfl ?_
  refine aw_aload_n 0 dX7_firstBest_0 rfl rfl ?_
  refine aw_iload_n 1 dX7_firstBest_1 rfl rfl ?_
  refine aw_iload_n 2 dX7_firstBest_2 rfl rfl ?_
  refine aw_dV [.int sv, .int la] [] lX7_92 vX7_weighState mX7_weighState dX7_firstBest_3 (X7_weighState_o hS en hn es (pw_lt p (by omega)) el bl) hS.1 rfl rfl rfl (Nat.le_of_ble_eq_true rfl) (by decide) (by decide) rfl ?_
  refine aw_istore_n [(3, .int 0), (0, .ref (G.1 + 125)), (1, .int sv), (2, .int la)] dX7_firstBest_6 rfl (by decide) rfl ?_
  refine aw_iconst (0) dX7_firstBest_7 (by decide) ?_
  refine aw_istore [(4, .int 0), (3, .int 0), (0, .ref (G.1 + 125)), (1, .int sv), (2, .int la)] dX7_firstBest_8 (by decide) rfl ?_
  refine aw_lv [(4, .int 0), (3, .int 0), (2, .int la), (1, .int sv), (0, .ref (G.1 + 125))] [0, 1, 4, 3, 2] rfl ?_
  refine X7_firstBest_l hS en hn es bp el bl (by decide) ?_ p 0 _ (by omega) rfl
  intro iv ei
  exact aw_iret rfl dX7_firstBest_42 (by decide) (by decide) ⟨by rw [ei], rfl⟩
set_option maxHeartbeats 4000000 in
theorem X7_readGains_l2 {l : Launch} {G : xG} {R : Room} {E : Array Value → State → Prop} {QF : List Frame → Array Value → State → State → Prop} {kc ns : Nat} {h : List va_E} {tA pF tF : Nat → Int32} {sz tt sm bs bn : Int32} {n : Nat} {sv wv nv : Int32} {ne : Nat} (hS : xSh G tA pF tF sz tt sm bs bn h) (en : sz = nI n) (hn : n ≤ 8) (ee : nv = nI ne) (bne : ne < n) 
    (K : AW l G yX7_readGains cX7_readGains 6 none R E QF kc ns 99 [(4, .int 0), (3, .int nv), (2, .int wv), (1, .int sv), (0, .ref (G.1 + 125))] [] h) :
    ∀ (mm i : Nat) (iv : Int32), i + mm = n → iv = nI i → AW l G yX7_readGains cX7_readGains 6 none R E QF kc ns 58 [(5, .int iv), (4, .int 0), (3, .int nv), (2, .int wv), (1, .int sv), (0, .ref (G.1 + 125))] [] h := by
  intro mm
  induction mm with
  | zero =>
    intro i  iv hi ei
    refine aw_iload 0 dX7_readGains_58 rfl ?_
    refine aw_aload_n 5 dX7_readGains_60 rfl rfl ?_
    refine aw_get fX7_39 dX7_readGains_61 hS.1 rfl ?_
    refine aw_icmp_ge 99 dX7_readGains_64 (by decide) (fun c64 => ?_) (fun c64 => absurd (by simp only [i_le, (i_toNat (ei) (by omega)), (i_toNat (en) (by omega))] <;> omega) c64)
    refine aw_lv [(4, .int 0), (3, .int nv), (2, .int wv), (1, .int sv), (0, .ref (G.1 + 125))] [1, 2, 3, 4, 5] rfl ?_
    exact K
  | succ mm ih =>
    intro i  iv hi ei
    refine aw_iload 0 dX7_readGains_58 rfl ?_
    refine aw_aload_n 5 dX7_readGains_60 rfl rfl ?_
    refine aw_get fX7_39 dX7_readGains_61 hS.1 rfl ?_
    refine aw_icmp_ge 99 dX7_readGains_64 (by decide) (fun c64 => absurd c64 (by simp only [i_le, (i_toNat (ei) (by omega)), (i_toNat (en) (by omega))] <;> omega)) (fun c64 => ?_)
    refine aw_iload_n 4 dX7_readGains_67 rfl rfl ?_
    refine aw_iload 0 dX7_readGains_68 rfl ?_
    refine aw_ishr dX7_readGains_70 ?_
    refine aw_iconst (1) dX7_readGains_71 (by decide) ?_
    refine aw_iand dX7_readGains_72 ?_
    refine aw_if_eq 93 dX7_readGains_73 (by decide) (fun c73 => ?_) (fun c73 => ?_)
    · obtain ⟨v4, ev4⟩ : ∃ q : Int32, q = iv + Int32.ofInt (1) := ⟨_, rfl⟩
      refine aw_iinc (j := 0) v4 [(5, .int v4), (4, .int 0), (3, .int nv), (2, .int wv), (1, .int sv), (0, .ref (G.1 + 125))] dX7_readGains_93 rfl ev4.symm (by decide) rfl ?_
      refine aw_goto 58 dX7_readGains_96 (by decide) ?_
      refine aw_lv [(5, .int v4), (4, .int 0), (3, .int nv), (2, .int wv), (1, .int sv), (0, .ref (G.1 + 125))] [0, 1, 2, 3, 4, 5] rfl ?_
      exact ih (i + 1) _ (by omega) (ev4.trans (nv_inc (ei)))
    · refine aw_iload 1 dX7_readGains_76 rfl ?_
      refine aw_aload_n 5 dX7_readGains_78 rfl rfl ?_
      refine aw_get fX7_18 dX7_readGains_79 hS.1 rfl ?_
      refine aw_iload 0 dX7_readGains_82 rfl ?_
      refine aw_bipush (8) dX7_readGains_84 (by decide) ?_
      refine aw_imul dX7_readGains_86 ?_
      refine aw_iload_n 2 dX7_readGains_87 rfl rfl ?_
      refine aw_iadd dX7_readGains_88 ?_
      refine aw_iald ((i * 8) + ne) (nv_add (nv_mul (ei) (rfl)) (ee)) (by omega) (by decide) dX7_readGains_89 hS.2.2.2.1 ?_
      refine aw_toe 0 (rfl) ?_
      refine aw_iadd dX7_readGains_90 ?_
      refine aw_toe 0 (by decide) ?_
      refine aw_istore [(4, .int 0), (5, .int iv), (3, .int nv), (2, .int wv), (1, .int sv), (0, .ref (G.1 + 125))] dX7_readGains_91 (by decide) rfl ?_
      obtain ⟨v5, ev5⟩ : ∃ q : Int32, q = iv + Int32.ofInt (1) := ⟨_, rfl⟩
      refine aw_iinc (j := 1) v5 [(5, .int v5), (4, .int 0), (3, .int nv), (2, .int wv), (1, .int sv), (0, .ref (G.1 + 125))] dX7_readGains_93 rfl ev5.symm (by decide) rfl ?_
      refine aw_goto 58 dX7_readGains_96 (by decide) ?_
      refine aw_lv [(5, .int v5), (4, .int 0), (3, .int nv), (2, .int wv), (1, .int sv), (0, .ref (G.1 + 125))] [0, 1, 2, 3, 4, 5] rfl ?_
      exact ih (i + 1) _ (by omega) (ev5.trans (nv_inc (ei)))
set_option maxHeartbeats 4000000 in
theorem X7_readGains_l1 {l : Launch} {G : xG} {R : Room} {E : Array Value → State → Prop} {QF : List Frame → Array Value → State → State → Prop} {kc ns : Nat} {tA pF tF : Nat → Int32} {sz tt sm bs bn : Int32} {n : Nat} {sv wv : Int32} {hX : List va_E} (en : sz = nI n) (hn : n ≤ 8)
    (K : ∀ h, xSh G tA pF tF sz tt sm bs bn h → lo 125 hX h → AW l G yX7_readGains cX7_readGains 6 none R E QF kc ns 113 [(0, .ref (G.1 + 125))] [] h) :
    ∀ (m i : Nat) (h : List va_E) (iv : Int32), i + m = n → iv = nI i → xSh G tA pF tF sz tt sm bs bn h → lo 125 hX h → AW l G yX7_readGains cX7_readGains 6 none R E QF kc ns 11 [(3, .int iv), (2, .int wv), (1, .int sv), (0, .ref (G.1 + 125))] [] h := by
  intro m
  induction m with
  | zero =>
    intro i h iv hi ei hS hk
    refine aw_iload_n 0 dX7_readGains_11 rfl rfl ?_
    refine aw_aload_n 3 dX7_readGains_12 rfl rfl ?_
    refine aw_get fX7_39 dX7_readGains_13 hS.1 rfl ?_
    refine aw_icmp_ge 113 dX7_readGains_16 (by decide) (fun c16 => ?_) (fun c16 => absurd (by simp only [i_le, (i_toNat (ei) (by omega)), (i_toNat (en) (by omega))] <;> omega) c16)
    refine aw_lv [(0, .ref (G.1 + 125))] [3] rfl ?_
    exact K h hS hk
  | succ m ih =>
    intro i h iv hi ei hS hk
    refine aw_iload_n 0 dX7_readGains_11 rfl rfl ?_
    refine aw_aload_n 3 dX7_readGains_12 rfl rfl ?_
    refine aw_get fX7_39 dX7_readGains_13 hS.1 rfl ?_
    refine aw_icmp_ge 113 dX7_readGains_16 (by decide) (fun c16 => absurd c16 (by simp only [i_le, (i_toNat (ei) (by omega)), (i_toNat (en) (by omega))] <;> omega)) (fun c16 => ?_)
    refine aw_iload_n 2 dX7_readGains_19 rfl rfl ?_
    refine aw_if_ne 32 dX7_readGains_20 (by decide) (fun c20 => ?_) (fun c20 => ?_)
    · refine aw_iconst (0) dX7_readGains_32 (by decide) ?_
      refine aw_istore [(4, .int 0), (3, .int iv), (2, .int wv), (1, .int sv), (0, .ref (G.1 + 125))] dX7_readGains_33 (by decide) rfl ?_
      refine aw_iload_n 3 dX7_readGains_35 rfl rfl ?_
      refine aw_iconst (1) dX7_readGains_36 (by decide) ?_
      refine aw_iload_n 1 dX7_readGains_37 rfl rfl ?_
      refine aw_ishl dX7_readGains_38 ?_
      refine aw_ior dX7_readGains_39 ?_
      refine aw_iload_n 2 dX7_readGains_40 rfl rfl ?_
      refine aw_icmp_ne 55 dX7_readGains_41 (by decide) (fun c41 => ?_) (fun c41 => ?_)
      · refine aw_iconst (0) dX7_readGains_55 (by decide) ?_
        refine aw_istore [(5, .int 0), (4, .int 0), (3, .int iv), (2, .int wv), (1, .int sv), (0, .ref (G.1 + 125))] dX7_readGains_56 (by decide) rfl ?_
        refine aw_lv [(5, .int 0), (4, .int 0), (3, .int iv), (2, .int wv), (1, .int sv), (0, .ref (G.1 + 125))] [0, 1, 2, 3, 4, 5] rfl ?_
        refine X7_readGains_l2 hS en hn (ei) (by omega) ?_ n 0 _ (by omega) rfl
        refine aw_aload_n 4 dX7_readGains_99 rfl rfl ?_
        refine aw_get fX7_30 dX7_readGains_100 hS.1 rfl ?_
        refine aw_iload_n 1 dX7_readGains_103 rfl rfl ?_
        refine aw_iload 0 dX7_readGains_104 rfl ?_
        refine aw_iast i (ei) (by omega) (by decide) dX7_readGains_106 hS.2.2.2.2.2.2.2.1 ?_
        rw [upz]
        obtain ⟨v6, ev6⟩ : ∃ q : Int32, q = iv + Int32.ofInt (1) := ⟨_, rfl⟩
        refine aw_iinc (j := 1) v6 [(3, .int v6), (4, .int 0), (2, .int wv), (1, .int sv), (0, .ref (G.1 + 125))] dX7_readGains_107 rfl ev6.symm (by decide) rfl ?_
        refine aw_goto 11 dX7_readGains_110 (by decide) ?_
        refine aw_lv [(3, .int v6), (2, .int wv), (1, .int sv), (0, .ref (G.1 + 125))] [0, 2, 3, 4] rfl ?_
        exact ih (i + 1) _ _ (by omega) (ev6.trans (nv_inc (ei))) ⟨(gn (by decide) (hS.1)), (gn (by decide) (hS.2.1)), (gn (by decide) (hS.2.2.1)), (gn (by decide) (hS.2.2.2.1)), (gn (by decide) (hS.2.2.2.2.1)), (gn (by decide) (hS.2.2.2.2.2.1)), (gn (by decide) (hS.2.2.2.2.2.2.1)), (gs hS.2.2.2.2.2.2.2.1), (gn (by decide) (hS.2.2.2.2.2.2.2.2.1)), (gn (by decide) (hS.2.2.2.2.2.2.2.2.2))⟩ (lo_set (hk) (by decide))
      · refine aw_iload 0 dX7_readGains_44 rfl ?_
        refine aw_aload_n 4 dX7_readGains_46 rfl rfl ?_
        refine aw_get fX7_27 dX7_readGains_47 hS.1 rfl ?_
        refine aw_iload_n 1 dX7_readGains_50 rfl rfl ?_
        refine aw_iald i (ei) (by omega) (by decide) dX7_readGains_51 hS.2.2.2.2.2.2.1 ?_
        refine aw_toe 0 (rfl) ?_
        refine aw_iadd dX7_readGains_52 ?_
        refine aw_toe 0 (by decide) ?_
        refine aw_istore [(4, .int 0), (3, .int iv), (2, .int wv), (1, .int sv), (0, .ref (G.1 + 125))] dX7_readGains_53 (by decide) rfl ?_
        refine aw_iconst (0) dX7_readGains_55 (by decide) ?_
        refine aw_istore [(5, .int 0), (4, .int 0), (3, .int iv), (2, .int wv), (1, .int sv), (0, .ref (G.1 + 125))] dX7_readGains_56 (by decide) rfl ?_
        refine aw_lv [(5, .int 0), (4, .int 0), (3, .int iv), (2, .int wv), (1, .int sv), (0, .ref (G.1 + 125))] [0, 1, 2, 3, 4, 5] rfl ?_
        refine X7_readGains_l2 hS en hn (ei) (by omega) ?_ n 0 _ (by omega) rfl
        refine aw_aload_n 4 dX7_readGains_99 rfl rfl ?_
        refine aw_get fX7_30 dX7_readGains_100 hS.1 rfl ?_
        refine aw_iload_n 1 dX7_readGains_103 rfl rfl ?_
        refine aw_iload 0 dX7_readGains_104 rfl ?_
        refine aw_iast i (ei) (by omega) (by decide) dX7_readGains_106 hS.2.2.2.2.2.2.2.1 ?_
        rw [upz]
        obtain ⟨v7, ev7⟩ : ∃ q : Int32, q = iv + Int32.ofInt (1) := ⟨_, rfl⟩
        refine aw_iinc (j := 1) v7 [(3, .int v7), (4, .int 0), (2, .int wv), (1, .int sv), (0, .ref (G.1 + 125))] dX7_readGains_107 rfl ev7.symm (by decide) rfl ?_
        refine aw_goto 11 dX7_readGains_110 (by decide) ?_
        refine aw_lv [(3, .int v7), (2, .int wv), (1, .int sv), (0, .ref (G.1 + 125))] [0, 2, 3, 4] rfl ?_
        exact ih (i + 1) _ _ (by omega) (ev7.trans (nv_inc (ei))) ⟨(gn (by decide) (hS.1)), (gn (by decide) (hS.2.1)), (gn (by decide) (hS.2.2.1)), (gn (by decide) (hS.2.2.2.1)), (gn (by decide) (hS.2.2.2.2.1)), (gn (by decide) (hS.2.2.2.2.2.1)), (gn (by decide) (hS.2.2.2.2.2.2.1)), (gs hS.2.2.2.2.2.2.2.1), (gn (by decide) (hS.2.2.2.2.2.2.2.2.1)), (gn (by decide) (hS.2.2.2.2.2.2.2.2.2))⟩ (lo_set (hk) (by decide))
    · refine aw_aload_n 3 dX7_readGains_23 rfl rfl ?_
      refine aw_get fX7_24 dX7_readGains_24 hS.1 rfl ?_
      refine aw_iload_n 0 dX7_readGains_27 rfl rfl ?_
      refine aw_iald i (ei) (by omega) (by decide) dX7_readGains_28 hS.2.2.2.2.2.1 ?_
      refine aw_toe 0 (rfl) ?_
      refine aw_goto 33 dX7_readGains_29 (by decide) ?_
      refine aw_istore [(4, .int 0), (3, .int iv), (2, .int wv), (1, .int sv), (0, .ref (G.1 + 125))] dX7_readGains_33 (by decide) rfl ?_
      refine aw_iload_n 3 dX7_readGains_35 rfl rfl ?_
      refine aw_iconst (1) dX7_readGains_36 (by decide) ?_
      refine aw_iload_n 1 dX7_readGains_37 rfl rfl ?_
      refine aw_ishl dX7_readGains_38 ?_
      refine aw_ior dX7_readGains_39 ?_
      refine aw_iload_n 2 dX7_readGains_40 rfl rfl ?_
      refine aw_icmp_ne 55 dX7_readGains_41 (by decide) (fun c41 => ?_) (fun c41 => ?_)
      · refine aw_iconst (0) dX7_readGains_55 (by decide) ?_
        refine aw_istore [(5, .int 0), (4, .int 0), (3, .int iv), (2, .int wv), (1, .int sv), (0, .ref (G.1 + 125))] dX7_readGains_56 (by decide) rfl ?_
        refine aw_lv [(5, .int 0), (4, .int 0), (3, .int iv), (2, .int wv), (1, .int sv), (0, .ref (G.1 + 125))] [0, 1, 2, 3, 4, 5] rfl ?_
        refine X7_readGains_l2 hS en hn (ei) (by omega) ?_ n 0 _ (by omega) rfl
        refine aw_aload_n 4 dX7_readGains_99 rfl rfl ?_
        refine aw_get fX7_30 dX7_readGains_100 hS.1 rfl ?_
        refine aw_iload_n 1 dX7_readGains_103 rfl rfl ?_
        refine aw_iload 0 dX7_readGains_104 rfl ?_
        refine aw_iast i (ei) (by omega) (by decide) dX7_readGains_106 hS.2.2.2.2.2.2.2.1 ?_
        rw [upz]
        obtain ⟨v8, ev8⟩ : ∃ q : Int32, q = iv + Int32.ofInt (1) := ⟨_, rfl⟩
        refine aw_iinc (j := 1) v8 [(3, .int v8), (4, .int 0), (2, .int wv), (1, .int sv), (0, .ref (G.1 + 125))] dX7_readGains_107 rfl ev8.symm (by decide) rfl ?_
        refine aw_goto 11 dX7_readGains_110 (by decide) ?_
        refine aw_lv [(3, .int v8), (2, .int wv), (1, .int sv), (0, .ref (G.1 + 125))] [0, 2, 3, 4] rfl ?_
        exact ih (i + 1) _ _ (by omega) (ev8.trans (nv_inc (ei))) ⟨(gn (by decide) (hS.1)), (gn (by decide) (hS.2.1)), (gn (by decide) (hS.2.2.1)), (gn (by decide) (hS.2.2.2.1)), (gn (by decide) (hS.2.2.2.2.1)), (gn (by decide) (hS.2.2.2.2.2.1)), (gn (by decide) (hS.2.2.2.2.2.2.1)), (gs hS.2.2.2.2.2.2.2.1), (gn (by decide) (hS.2.2.2.2.2.2.2.2.1)), (gn (by decide) (hS.2.2.2.2.2.2.2.2.2))⟩ (lo_set (hk) (by decide))
      · refine aw_iload 0 dX7_readGains_44 rfl ?_
        refine aw_aload_n 4 dX7_readGains_46 rfl rfl ?_
        refine aw_get fX7_27 dX7_readGains_47 hS.1 rfl ?_
        refine aw_iload_n 1 dX7_readGains_50 rfl rfl ?_
        refine aw_iald i (ei) (by omega) (by decide) dX7_readGains_51 hS.2.2.2.2.2.2.1 ?_
        refine aw_toe 0 (rfl) ?_
        refine aw_iadd dX7_readGains_52 ?_
        refine aw_toe 0 (by decide) ?_
        refine aw_istore [(4, .int 0), (3, .int iv), (2, .int wv), (1, .int sv), (0, .ref (G.1 + 125))] dX7_readGains_53 (by decide) rfl ?_
        refine aw_iconst (0) dX7_readGains_55 (by decide) ?_
        refine aw_istore [(5, .int 0), (4, .int 0), (3, .int iv), (2, .int wv), (1, .int sv), (0, .ref (G.1 + 125))] dX7_readGains_56 (by decide) rfl ?_
        refine aw_lv [(5, .int 0), (4, .int 0), (3, .int iv), (2, .int wv), (1, .int sv), (0, .ref (G.1 + 125))] [0, 1, 2, 3, 4, 5] rfl ?_
        refine X7_readGains_l2 hS en hn (ei) (by omega) ?_ n 0 _ (by omega) rfl
        refine aw_aload_n 4 dX7_readGains_99 rfl rfl ?_
        refine aw_get fX7_30 dX7_readGains_100 hS.1 rfl ?_
        refine aw_iload_n 1 dX7_readGains_103 rfl rfl ?_
        refine aw_iload 0 dX7_readGains_104 rfl ?_
        refine aw_iast i (ei) (by omega) (by decide) dX7_readGains_106 hS.2.2.2.2.2.2.2.1 ?_
        rw [upz]
        obtain ⟨v9, ev9⟩ : ∃ q : Int32, q = iv + Int32.ofInt (1) := ⟨_, rfl⟩
        refine aw_iinc (j := 1) v9 [(3, .int v9), (4, .int 0), (2, .int wv), (1, .int sv), (0, .ref (G.1 + 125))] dX7_readGains_107 rfl ev9.symm (by decide) rfl ?_
        refine aw_goto 11 dX7_readGains_110 (by decide) ?_
        refine aw_lv [(3, .int v9), (2, .int wv), (1, .int sv), (0, .ref (G.1 + 125))] [0, 2, 3, 4] rfl ?_
        exact ih (i + 1) _ _ (by omega) (ev9.trans (nv_inc (ei))) ⟨(gn (by decide) (hS.1)), (gn (by decide) (hS.2.1)), (gn (by decide) (hS.2.2.1)), (gn (by decide) (hS.2.2.2.1)), (gn (by decide) (hS.2.2.2.2.1)), (gn (by decide) (hS.2.2.2.2.2.1)), (gn (by decide) (hS.2.2.2.2.2.2.1)), (gs hS.2.2.2.2.2.2.2.1), (gn (by decide) (hS.2.2.2.2.2.2.2.2.1)), (gn (by decide) (hS.2.2.2.2.2.2.2.2.2))⟩ (lo_set (hk) (by decide))
set_option maxHeartbeats 4000000 in
theorem X7_readGains_o {l : Launch} {G : xG} {h : List va_E} {tA pF tF : Nat → Int32} {sz tt sm bs bn : Int32} {n : Nat} {sv : Int32} (hS : xSh G tA pF tF sz tt sm bs bn h) (en : sz = nI n) (hn : n ≤ 8) : CE l G yX7_readGains cX7_readGains 6 none 0 0 0 [.ref (G.1 + 125), .int sv] h none (fun h1 => xSh G tA pF tF sz tt sm bs bn h1 ∧ lo 125 h h1) := by
  refine cm_of rfl (Nat.le_of_ble_eq_true rfl) [(0, .ref (G.1 + 125)), (1, .int sv)] rfl ?_
  refine aw_iconst (1) dX7_readGains_0 (by decide) ?_
  refine aw_aload_n 0 dX7_readGains_1 rfl rfl ?_
  refine aw_get fX7_39 dX7_readGains_2 hS.1 rfl ?_
  refine aw_ishl dX7_readGains_5 ?_
  refine aw_iconst (1) dX7_readGains_6 (by decide) ?_
  refine aw_isub dX7_readGains_7 ?_
  refine aw_top (fun v10 ev10 => ?_)
  refine aw_istore_n [(2, .int v10), (0, .ref (G.1 + 125)), (1, .int sv)] dX7_readGains_8 rfl (by decide) rfl ?_
  refine aw_iconst (0) dX7_readGains_9 (by decide) ?_
  refine aw_istore_n [(3, .int 0), (2, .int v10), (0, .ref (G.1 + 125)), (1, .int sv)] dX7_readGains_10 rfl (by decide) rfl ?_
  refine aw_lv [(3, .int 0), (2, .int v10), (1, .int sv), (0, .ref (G.1 + 125))] [0, 1, 3, 2] rfl ?_
  refine X7_readGains_l1 en hn ?_ n 0 h _ (by omega) rfl hS (lo_rf 125 h)
  intro h1 hS1 hk1
  exact aw_vret rfl dX7_readGains_113 (by decide) (by decide) ⟨rfl, hS1, hk1⟩
