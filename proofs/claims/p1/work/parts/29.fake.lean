set_option maxHeartbeats 4000000 in
theorem X0_isFake_l {l : Launch} {G : xG} {R : Room} {E : Array Value → State → Prop} {QF : List Frame → Array Value → State → State → Prop} {kc ns : Nat} {h : List va_E} {b : Int32} (hF : xF8 G h) 
    (K : ∀ (kv : Int32), AW l G yX0_isFake cX0_isFake 5 (some .boolean) R E QF kc ns 56 [(3, .int 0), (2, .int kv), (1, .int b), (0, .ref (G.1 + 84))] [] h) :
    ∀ (n i : Nat) (kv : Int32) (iv : Int32), i + n = 10 → iv = nI i → AW l G yX0_isFake cX0_isFake 5 (some .boolean) R E QF kc ns 7 [(4, .int iv), (3, .int 0), (2, .int kv), (1, .int b), (0, .ref (G.1 + 84))] [] h := by
  intro n
  induction n with
  | zero =>
    intro i kv iv hi ei
    refine aw_iload 0 dX0_isFake_7 rfl ?_
    refine aw_bipush (10) dX0_isFake_9 (by decide) ?_
    refine aw_icmp_ge 56 dX0_isFake_11 (by decide) (fun c11 => ?_) (fun c11 => absurd (by simp only [i_le, (i_toNat (ei) (by omega)), (show (10 : Int32).toInt = 10 from rfl)] <;> omega) c11)
    refine aw_lv [(3, .int 0), (2, .int kv), (1, .int b), (0, .ref (G.1 + 84))] [1, 2, 3, 4] rfl ?_
    exact K _
  | succ n ih =>
    intro i kv iv hi ei
    refine aw_iload 0 dX0_isFake_7 rfl ?_
    refine aw_bipush (10) dX0_isFake_9 (by decide) ?_
    refine aw_icmp_ge 56 dX0_isFake_11 (by decide) (fun c11 => absurd c11 (by simp only [i_le, (i_toNat (ei) (by omega)), (show (10 : Int32).toInt = 10 from rfl)] <;> omega)) (fun c11 => ?_)
    refine aw_iload_n 3 dX0_isFake_14 rfl rfl ?_
    refine aw_iload 0 dX0_isFake_15 rfl ?_
    refine aw_ishr dX0_isFake_17 ?_
    refine aw_iconst (1) dX0_isFake_18 (by decide) ?_
    refine aw_iand dX0_isFake_19 ?_
    refine aw_if_eq 50 dX0_isFake_20 (by decide) (fun c20 => ?_) (fun c20 => ?_)
    · obtain ⟨v1, ev1⟩ : ∃ q : Int32, q = iv + Int32.ofInt (1) := ⟨_, rfl⟩
      refine aw_iinc (j := 0) v1 [(4, .int v1), (3, .int 0), (2, .int kv), (1, .int b), (0, .ref (G.1 + 84))] dX0_isFake_50 rfl ev1.symm (by decide) rfl ?_
      refine aw_goto 7 dX0_isFake_53 (by decide) ?_
      refine aw_lv [(4, .int v1), (3, .int 0), (2, .int kv), (1, .int b), (0, .ref (G.1 + 84))] [0, 1, 2, 3, 4] rfl ?_
      exact ih (i + 1) _ _ (by omega) (ev1.trans (nv_inc (ei)))
    · refine aw_iload_n 2 dX0_isFake_23 rfl rfl ?_
      refine aw_iconst (1) dX0_isFake_24 (by decide) ?_
      refine aw_aload_n 4 dX0_isFake_25 rfl rfl ?_
      refine aw_get fX0_9 dX0_isFake_26 hF.2.2.2.2.2.2.2.2.2.2.2.2.2.2.2.2.2.2.2.2.2.2.2.2.2.2.2.2.2.2.2.2.2.2.2.2.1 rfl ?_
      refine aw_iload 0 dX0_isFake_29 rfl ?_
      refine aw_iald i (ei) (by omega) (by decide) dX0_isFake_31 hF.2.2.2.2.2.2.2.2.2.2.2.2.2.2.2.2.2.2.2.2.2.2.2.2.2.2.2.2.2.2.2.2.2.2.2.2.2.1 ?_
      refine aw_toe 0 (rfl) ?_
      refine aw_ishl dX0_isFake_32 ?_
      refine aw_toe 1 (by decide) ?_
      refine aw_ior dX0_isFake_33 ?_
      refine aw_top (fun v2 ev2 => ?_)
      refine aw_istore_n [(2, .int v2), (4, .int iv), (3, .int 0), (1, .int b), (0, .ref (G.1 + 84))] dX0_isFake_34 rfl (by decide) rfl ?_
      refine aw_iload_n 2 dX0_isFake_35 rfl rfl ?_
      refine aw_aload_n 4 dX0_isFake_36 rfl rfl ?_
      refine aw_get fX0_15 dX0_isFake_37 hF.2.2.2.2.2.2.2.2.2.2.2.2.2.2.2.2.2.2.2.2.2.2.2.2.2.2.2.2.2.2.2.2.2.2.2.2.1 rfl ?_
      refine aw_aload_n 4 dX0_isFake_40 rfl rfl ?_
      refine aw_get fX0_9 dX0_isFake_41 hF.2.2.2.2.2.2.2.2.2.2.2.2.2.2.2.2.2.2.2.2.2.2.2.2.2.2.2.2.2.2.2.2.2.2.2.2.1 rfl ?_
      refine aw_iload 1 dX0_isFake_44 rfl ?_
      refine aw_iald i (ei) (by omega) (by decide) dX0_isFake_46 hF.2.2.2.2.2.2.2.2.2.2.2.2.2.2.2.2.2.2.2.2.2.2.2.2.2.2.2.2.2.2.2.2.2.2.2.2.2.1 ?_
      refine aw_toe 0 (rfl) ?_
      refine aw_iald 0 (rfl) (by decide) (by decide) dX0_isFake_47 hF.2.2.2.2.2.2.2.2.2.2.2.2.2.2.2.2.2.2.2.2.2.2.2.2.2.2.2.2.2.2.2.2.2.2.2.2.2.2.1 ?_
      refine aw_toe 0 (rfl) ?_
      refine aw_ior dX0_isFake_48 ?_
      refine aw_toe 0 (by decide) ?_
      refine aw_istore_n [(3, .int 0), (2, .int v2), (4, .int iv), (1, .int b), (0, .ref (G.1 + 84))] dX0_isFake_49 rfl (by decide) rfl ?_
      obtain ⟨v3, ev3⟩ : ∃ q : Int32, q = iv + Int32.ofInt (1) := ⟨_, rfl⟩
      refine aw_iinc (j := 2) v3 [(4, .int v3), (3, .int 0), (2, .int v2), (1, .int b), (0, .ref (G.1 + 84))] dX0_isFake_50 rfl ev3.symm (by decide) rfl ?_
      refine aw_goto 7 dX0_isFake_53 (by decide) ?_
      refine aw_lv [(4, .int v3), (3, .int 0), (2, .int v2), (1, .int b), (0, .ref (G.1 + 84))] [0, 1, 2, 3, 4] rfl ?_
      exact ih (i + 1) _ _ (by omega) (ev3.trans (nv_inc (ei)))
set_option maxHeartbeats 4000000 in
theorem X0_isFake_o {l : Launch} {G : xG} {h : List va_E} {b : Int32} (hF : xF8 G h) : CD l G yX0_isFake cX0_isFake 5 (some .boolean) 0 0 0 [.ref (G.1 + 84), .int b] h (some (.int 0)) h := by
  refine cm_of rfl (Nat.le_of_ble_eq_true rfl) [(0, .ref (G.1 + 84)), (1, .int b)] rfl ?_
  refine aw_iconst (0) dX0_isFake_0 (by decide) ?_
  refine aw_istore_n [(2, .int 0), (0, .ref (G.1 + 84)), (1, .int b)] dX0_isFake_1 rfl (by decide) rfl ?_
  refine aw_iconst (0) dX0_isFake_2 (by decide) ?_
  refine aw_istore_n [(3, .int 0), (2, .int 0), (0, .ref (G.1 + 84)), (1, .int b)] dX0_isFake_3 rfl (by decide) rfl ?_
  refine aw_iconst (0) dX0_isFake_4 (by decide) ?_
  refine aw_istore [(4, .int 0), (3, .int 0), (2, .int 0), (0, .ref (G.1 + 84)), (1, .int b)] dX0_isFake_5 (by decide) rfl ?_
  refine aw_lv [(4, .int 0), (3, .int 0), (2, .int 0), (1, .int b), (0, .ref (G.1 + 84))] [0, 1, 2, 4, 3] rfl ?_
  refine X0_isFake_l hF ?_ 10 0 _ _ rfl rfl
  intro kv
  refine aw_iload_n 1 dX0_isFake_56 rfl rfl ?_
  refine aw_iload_n 0 dX0_isFake_57 rfl rfl ?_
  refine aw_iand dX0_isFake_58 ?_
  refine aw_if_eq 66 dX0_isFake_59 (by decide) (fun c59 => ?_) (fun c59 => absurd (z_and _) c59)
  refine aw_iconst (0) dX0_isFake_66 (by decide) ?_
  exact aw_zret rfl rfl dX0_isFake_67 (by decide) (by decide) ⟨rfl, rfl⟩
-- inner
set_option maxHeartbeats 4000000 in
theorem X9_isFake_l2 {l : Launch} {G : xG} {R : Room} {E : Array Value → State → Prop} {QF : List Frame → Array Value → State → State → Prop} {kc ns : Nat} {h : List va_E} {b pv : Int32} {p : Nat} (hM : xF9 G h) (ep : pv = nI p) (hp : p < 10) 
    (K : AW l G yX9_isFake cX9_isFake 5 (some .boolean) R E QF kc ns 79 [(3, .int pv), (2, .int 0), (1, .int b), (0, .ref (G.1 + 88))] [] h) :
    ∀ (n i : Nat) (iv : Int32), i + n = p → iv = nI i → AW l G yX9_isFake cX9_isFake 5 (some .boolean) R E QF kc ns 13 [(4, .int iv), (3, .int pv), (2, .int 0), (1, .int b), (0, .ref (G.1 + 88))] [] h := by
  intro n
  induction n with
  | zero =>
    intro i  iv hi ei
    refine aw_iload 0 dX9_isFake_13 rfl ?_
    refine aw_iload_n 1 dX9_isFake_15 rfl rfl ?_
    refine aw_icmp_ge 79 dX9_isFake_16 (by decide) (fun c16 => ?_) (fun c16 => absurd (by simp only [i_le, (i_toNat (ei) (by omega)), (i_toNat (ep) (by omega))] <;> omega) c16)
    refine aw_lv [(3, .int pv), (2, .int 0), (1, .int b), (0, .ref (G.1 + 88))] [1, 2, 3, 4] rfl ?_
    exact K
  | succ n ih =>
    intro i  iv hi ei
    refine aw_iload 0 dX9_isFake_13 rfl ?_
    refine aw_iload_n 1 dX9_isFake_15 rfl rfl ?_
    refine aw_icmp_ge 79 dX9_isFake_16 (by decide) (fun c16 => absurd c16 (by simp only [i_le, (i_toNat (ei) (by omega)), (i_toNat (ep) (by omega))] <;> omega)) (fun c16 => ?_)
    refine aw_iload_n 2 dX9_isFake_19 rfl rfl ?_
    refine aw_if_ne 67 dX9_isFake_20 (by decide) (fun c20 => absurd (by decide) c20) (fun c20 => ?_)
    refine aw_iload_n 3 dX9_isFake_23 rfl rfl ?_
    refine aw_iload_n 1 dX9_isFake_24 rfl rfl ?_
    refine aw_ishr dX9_isFake_25 ?_
    refine aw_iconst (1) dX9_isFake_26 (by decide) ?_
    refine aw_iand dX9_isFake_27 ?_
    refine aw_iconst (1) dX9_isFake_28 (by decide) ?_
    refine aw_icmp_ne 71 dX9_isFake_29 (by decide) (fun c29 => ?_) (fun c29 => ?_)
    · refine aw_iconst (0) dX9_isFake_71 (by decide) ?_
      refine aw_istore_n [(2, .int 0), (4, .int iv), (3, .int pv), (1, .int b), (0, .ref (G.1 + 88))] dX9_isFake_72 rfl (by decide) rfl ?_
      obtain ⟨v4, ev4⟩ : ∃ q : Int32, q = iv + Int32.ofInt (1) := ⟨_, rfl⟩
      refine aw_iinc (j := 1) v4 [(4, .int v4), (2, .int 0), (3, .int pv), (1, .int b), (0, .ref (G.1 + 88))] dX9_isFake_73 rfl ev4.symm (by decide) rfl ?_
      refine aw_goto 13 dX9_isFake_76 (by decide) ?_
      refine aw_lv [(4, .int v4), (3, .int pv), (2, .int 0), (1, .int b), (0, .ref (G.1 + 88))] [0, 2, 1, 3, 4] rfl ?_
      exact ih (i + 1) _ (by omega) (ev4.trans (nv_inc (ei)))
    · refine aw_iload_n 3 dX9_isFake_32 rfl rfl ?_
      refine aw_iload 0 dX9_isFake_33 rfl ?_
      refine aw_ishr dX9_isFake_35 ?_
      refine aw_iconst (1) dX9_isFake_36 (by decide) ?_
      refine aw_iand dX9_isFake_37 ?_
      refine aw_iconst (1) dX9_isFake_38 (by decide) ?_
      refine aw_icmp_ne 71 dX9_isFake_39 (by decide) (fun c39 => ?_) (fun c39 => ?_)
      · refine aw_iconst (0) dX9_isFake_71 (by decide) ?_
        refine aw_istore_n [(2, .int 0), (4, .int iv), (3, .int pv), (1, .int b), (0, .ref (G.1 + 88))] dX9_isFake_72 rfl (by decide) rfl ?_
        obtain ⟨v5, ev5⟩ : ∃ q : Int32, q = iv + Int32.ofInt (1) := ⟨_, rfl⟩
        refine aw_iinc (j := 1) v5 [(4, .int v5), (2, .int 0), (3, .int pv), (1, .int b), (0, .ref (G.1 + 88))] dX9_isFake_73 rfl ev5.symm (by decide) rfl ?_
        refine aw_goto 13 dX9_isFake_76 (by decide) ?_
        refine aw_lv [(4, .int v5), (3, .int pv), (2, .int 0), (1, .int b), (0, .ref (G.1 + 88))] [0, 2, 1, 3, 4] rfl ?_
        exact ih (i + 1) _ (by omega) (ev5.trans (nv_inc (ei)))
      · refine aw_aload_n 4 dX9_isFake_42 rfl rfl ?_
        refine aw_get fX9_122 dX9_isFake_43 hM.1 rfl ?_
        refine aw_bipush (6) dX9_isFake_46 (by decide) ?_
        refine aw_aload_n 4 dX9_isFake_48 rfl rfl ?_
        refine aw_get fX9_119 dX9_isFake_49 hM.1 rfl ?_
        refine aw_iload_n 1 dX9_isFake_52 rfl rfl ?_
        refine aw_iald p (ep) (by omega) (by decide) dX9_isFake_53 hM.2.2.2.2.2.2.2.2.2.2.2.2.2.2.2.2.2.2.2.2.2.2.2.2.2.2.2.2.2.2.2.2.2.2.2.1 ?_
        refine aw_toe 0 (rfl) ?_
        refine aw_imul dX9_isFake_54 ?_
        refine aw_toe 0 (by decide) ?_
        refine aw_aload_n 4 dX9_isFake_55 rfl rfl ?_
        refine aw_get fX9_119 dX9_isFake_56 hM.1 rfl ?_
        refine aw_iload 0 dX9_isFake_59 rfl ?_
        refine aw_iald i (ei) (by omega) (by decide) dX9_isFake_61 hM.2.2.2.2.2.2.2.2.2.2.2.2.2.2.2.2.2.2.2.2.2.2.2.2.2.2.2.2.2.2.2.2.2.2.2.1 ?_
        refine aw_toe 0 (rfl) ?_
        refine aw_iadd dX9_isFake_62 ?_
        refine aw_toe 0 (by decide) ?_
        refine aw_zald 0 (rfl) (by decide) (by decide) dX9_isFake_63 hM.2.2.2.2.2.2.2.2.2.2.2.2.2.2.2.2.2.2.2.2.2.2.2.2.2.2.2.2.2.2.2.2.2.2.2.2 ?_
        refine aw_toe 0 (rfl) ?_
        refine aw_if_eq 71 dX9_isFake_64 (by decide) (fun c64 => ?_) (fun c64 => absurd (by decide) c64)
        refine aw_iconst (0) dX9_isFake_71 (by decide) ?_
        refine aw_istore_n [(2, .int 0), (4, .int iv), (3, .int pv), (1, .int b), (0, .ref (G.1 + 88))] dX9_isFake_72 rfl (by decide) rfl ?_
        obtain ⟨v6, ev6⟩ : ∃ q : Int32, q = iv + Int32.ofInt (1) := ⟨_, rfl⟩
        refine aw_iinc (j := 1) v6 [(4, .int v6), (2, .int 0), (3, .int pv), (1, .int b), (0, .ref (G.1 + 88))] dX9_isFake_73 rfl ev6.symm (by decide) rfl ?_
        refine aw_goto 13 dX9_isFake_76 (by decide) ?_
        refine aw_lv [(4, .int v6), (3, .int pv), (2, .int 0), (1, .int b), (0, .ref (G.1 + 88))] [0, 2, 1, 3, 4] rfl ?_
        exact ih (i + 1) _ (by omega) (ev6.trans (nv_inc (ei)))
set_option maxHeartbeats 4000000 in
theorem X9_isFake_l1 {l : Launch} {G : xG} {R : Room} {E : Array Value → State → Prop} {QF : List Frame → Array Value → State → State → Prop} {kc ns : Nat} {h : List va_E} {b : Int32} (hM : xF9 G h)
    (K : AW l G yX9_isFake cX9_isFake 5 (some .boolean) R E QF kc ns 85 [(2, .int 0), (1, .int b), (0, .ref (G.1 + 88))] [] h) :
    ∀ (n i : Nat) (iv : Int32), i + n = 10 → iv = nI i → AW l G yX9_isFake cX9_isFake 5 (some .boolean) R E QF kc ns 4 [(3, .int iv), (2, .int 0), (1, .int b), (0, .ref (G.1 + 88))] [] h := by
  intro n
  induction n with
  | zero =>
    intro i iv hi ei
    refine aw_iload_n 0 dX9_isFake_4 rfl rfl ?_
    refine aw_bipush (10) dX9_isFake_5 (by decide) ?_
    refine aw_icmp_ge 85 dX9_isFake_7 (by decide) (fun c7 => ?_) (fun c7 => absurd (by simp only [i_le, (i_toNat (ei) (by omega)), (show (10 : Int32).toInt = 10 from rfl)] <;> omega) c7)
    refine aw_lv [(2, .int 0), (1, .int b), (0, .ref (G.1 + 88))] [1, 2, 3] rfl ?_
    exact K
  | succ n ih =>
    intro i iv hi ei
    refine aw_iload_n 0 dX9_isFake_4 rfl rfl ?_
    refine aw_bipush (10) dX9_isFake_5 (by decide) ?_
    refine aw_icmp_ge 85 dX9_isFake_7 (by decide) (fun c7 => absurd c7 (by simp only [i_le, (i_toNat (ei) (by omega)), (show (10 : Int32).toInt = 10 from rfl)] <;> omega)) (fun c7 => ?_)
    refine aw_iconst (0) dX9_isFake_10 (by decide) ?_
    refine aw_istore [(4, .int 0), (3, .int iv), (2, .int 0), (1, .int b), (0, .ref (G.1 + 88))] dX9_isFake_11 (by decide) rfl ?_
    refine aw_lv [(4, .int 0), (3, .int iv), (2, .int 0), (1, .int b), (0, .ref (G.1 + 88))] [0, 1, 2, 3, 4] rfl ?_
    refine X9_isFake_l2 hM (ei) (by omega) ?_ i 0 _ (by omega) rfl
    obtain ⟨v7, ev7⟩ : ∃ q : Int32, q = iv + Int32.ofInt (1) := ⟨_, rfl⟩
    refine aw_iinc (j := 0) v7 [(3, .int v7), (2, .int 0), (1, .int b), (0, .ref (G.1 + 88))] dX9_isFake_79 rfl ev7.symm (by decide) rfl ?_
    refine aw_goto 4 dX9_isFake_82 (by decide) ?_
    refine aw_lv [(3, .int v7), (2, .int 0), (1, .int b), (0, .ref (G.1 + 88))] [0, 1, 2, 3] rfl ?_
    exact ih (i + 1) _ (by omega) (ev7.trans (nv_inc (ei)))
set_option maxHeartbeats 4000000 in
theorem X9_isFake_o {l : Launch} {G : xG} {h : List va_E} {b : Int32} (hM : xF9 G h) : CD l G yX9_isFake cX9_isFake 5 (some .boolean) 0 0 0 [.ref (G.1 + 88), .int b] h (some (.int 0)) h := by
  refine cm_of rfl (Nat.le_of_ble_eq_true rfl) [(0, .ref (G.1 + 88)), (1, .int b)] rfl ?_
  refine aw_iconst (0) dX9_isFake_0 (by decide) ?_
  refine aw_istore_n [(2, .int 0), (0, .ref (G.1 + 88)), (1, .int b)] dX9_isFake_1 rfl (by decide) rfl ?_
  refine aw_iconst (0) dX9_isFake_2 (by decide) ?_
  refine aw_istore_n [(3, .int 0), (2, .int 0), (0, .ref (G.1 + 88)), (1, .int b)] dX9_isFake_3 rfl (by decide) rfl ?_
  refine aw_lv [(3, .int 0), (2, .int 0), (1, .int b), (0, .ref (G.1 + 88))] [0, 1, 3, 2] rfl ?_
  refine X9_isFake_l1 hM ?_ 10 0 _ rfl rfl
  refine aw_iload_n 0 dX9_isFake_85 rfl rfl ?_
  exact aw_zret rfl rfl dX9_isFake_86 (by decide) (by decide) ⟨rfl, rfl⟩
set_option maxHeartbeats 4000000 in
theorem A26a {l : Launch} {G : xG} {h : List va_E} {b : Int32} (hF : xF8 G h) (hb : ¬ (0 ≤ b.toInt ∧ b.toInt < 1024)) : CE l G yX8_fake cX8_fake 2 (some .int) 2 0 0 [.ref (G.1 + 0), .int b] h (some (.int (-1))) (kp h) := by
  refine cm_of rfl (Nat.le_of_ble_eq_true rfl) [(0, .ref (G.1 + 0)), (1, .int b)] rfl ?_
  refine aw_iload_n 1 dX8_fake_0 rfl rfl ?_
  refine aw_bipush (10) dX8_fake_1 (by decide) ?_
  refine aw_dS [.int b, .int 10] [] lX8_87 sX8_hasOtherBits mX8_hasOtherBits dX8_fake_3 (X8_hasOtherBits10_t (by omega)) rfl (Nat.le_of_ble_eq_true rfl) (by decide) (by decide) rfl ?_
  refine aw_if_eq 15 dX8_fake_6 (by decide) (fun c6 => absurd c6 (by decide)) (fun c6 => ?_)
  refine aw_aload_n 0 dX8_fake_9 rfl rfl ?_
  refine aw_iconst (-1) dX8_fake_10 (by decide) ?_
  refine aw_eV [.int (-1)] [] lX8_70 vX8_refuse mX8_refuse dX8_fake_11 (X8_refuse1 hF) hF.1 rfl rfl rfl (Nat.le_of_ble_eq_true rfl) (by decide) (by decide) rfl (fun h8 q9 => ?_)
  exact aw_iret rfl dX8_fake_14 (by decide) (by decide) ⟨rfl, (kp_tr (kp_rf h) q9)⟩
set_option maxHeartbeats 4000000 in
theorem B26a {l : Launch} {G : xG} {h : List va_E} {b : Int32} (hM : xF9 G h) (hb : ¬ (0 ≤ b.toInt ∧ b.toInt < 1024)) : CE l G yX9_fake cX9_fake 2 (some .int) 2 0 0 [.ref (G.1 + 88), .int b] h (some (.int (-1))) (fun _ => True) := by
  refine cm_of rfl (Nat.le_of_ble_eq_true rfl) [(0, .ref (G.1 + 88)), (1, .int b)] rfl ?_
  refine aw_iload_n 1 dX9_fake_0 rfl rfl ?_
  refine aw_dS [.int b] [] lX9_245 sX9_isBeast mX9_isBeast dX9_fake_1 (X9_isBeast_f (by omega)) rfl (Nat.le_of_ble_eq_true rfl) (by decide) (by decide) rfl ?_
  refine aw_if_eq 23 dX9_fake_4 (by decide) (fun c4 => ?_) (fun c4 => absurd (by decide) c4)
  refine aw_aload_n 0 dX9_fake_23 rfl rfl ?_
  refine aw_iconst (-1) dX9_fake_24 (by decide) ?_
  refine aw_eV [.int (-1)] [] lX9_130 vX9_refuse mX9_refuse dX9_fake_25 (X9_refuse1 hM) hM.1 rfl rfl rfl (Nat.le_of_ble_eq_true rfl) (by decide) (by decide) rfl (fun h10 q11 => ?_)
  exact aw_iret rfl dX9_fake_28 (by decide) (by decide) ⟨rfl, trivial⟩
set_option maxHeartbeats 4000000 in
theorem A26o {l : Launch} {G : xG} {h : List va_E} {b : Int32} (hF : xF8 G h) (hb : 0 ≤ b.toInt ∧ b.toInt < 1024) : CE l G yX8_fake cX8_fake 2 (some .int) 2 0 0 [.ref (G.1 + 0), .int b] h (some (.int 0)) (kp h) := by
  refine cm_of rfl (Nat.le_of_ble_eq_true rfl) [(0, .ref (G.1 + 0)), (1, .int b)] rfl ?_
  refine aw_iload_n 1 dX8_fake_0 rfl rfl ?_
  refine aw_bipush (10) dX8_fake_1 (by decide) ?_
  refine aw_dS [.int b, .int 10] [] lX8_87 sX8_hasOtherBits mX8_hasOtherBits dX8_fake_3 (X8_hasOtherBits10_f (by omega)) rfl (Nat.le_of_ble_eq_true rfl) (by decide) (by decide) rfl ?_
  refine aw_if_eq 15 dX8_fake_6 (by decide) (fun c6 => ?_) (fun c6 => absurd (by decide) c6)
  refine aw_aload_n 0 dX8_fake_15 rfl rfl ?_
  refine aw_get fX8_58 dX8_fake_16 hF.1 rfl ?_
  refine aw_iload_n 1 dX8_fake_19 rfl rfl ?_
  refine aw_dV [.int b] [] lX8_234 vX0_isFake mX0_isFake dX8_fake_20 (X0_isFake_o hF) hF.2.2.2.2.2.2.2.2.2.2.2.2.2.2.2.2.2.2.2.2.2.2.2.2.2.2.2.2.2.2.2.2.2.2.2.2.1 rfl rfl rfl (Nat.le_of_ble_eq_true rfl) (by decide) (by decide) rfl ?_
  refine aw_if_eq 30 dX8_fake_23 (by decide) (fun c23 => ?_) (fun c23 => absurd (by decide) c23)
  refine aw_iconst (0) dX8_fake_30 (by decide) ?_
  exact aw_iret rfl dX8_fake_31 (by decide) (by decide) ⟨rfl, kp_rf h⟩
set_option maxHeartbeats 4000000 in
theorem B26o {l : Launch} {G : xG} {h : List va_E} {b : Int32} (hM : xF9 G h) (hb : 0 ≤ b.toInt ∧ b.toInt < 1024) : CE l G yX9_fake cX9_fake 2 (some .int) 2 0 0 [.ref (G.1 + 88), .int b] h (some (.int 0)) (fun _ => True) := by
  refine cm_of rfl (Nat.le_of_ble_eq_true rfl) [(0, .ref (G.1 + 88)), (1, .int b)] rfl ?_
  refine aw_iload_n 1 dX9_fake_0 rfl rfl ?_
  refine aw_dS [.int b] [] lX9_245 sX9_isBeast mX9_isBeast dX9_fake_1 (X9_isBeast_t (by omega)) rfl (Nat.le_of_ble_eq_true rfl) (by decide) (by decide) rfl ?_
  refine aw_if_eq 23 dX9_fake_4 (by decide) (fun c4 => absurd c4 (by decide)) (fun c4 => ?_)
  refine aw_aload_n 0 dX9_fake_7 rfl rfl ?_
  refine aw_iload_n 1 dX9_fake_8 rfl rfl ?_
  refine aw_dV [.int b] [] lX9_249 vX9_isFake mX9_isFake dX9_fake_9 (X9_isFake_o hM) hM.1 rfl rfl rfl (Nat.le_of_ble_eq_true rfl) (by decide) (by decide) rfl ?_
  refine aw_if_eq 19 dX9_fake_12 (by decide) (fun c12 => ?_) (fun c12 => absurd (by decide) c12)
  refine aw_iconst (0) dX9_fake_19 (by decide) ?_
  refine aw_goto 28 dX9_fake_20 (by decide) ?_
  exact aw_iret rfl dX9_fake_28 (by decide) (by decide) ⟨rfl, trivial⟩
