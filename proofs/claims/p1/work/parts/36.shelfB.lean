set_option maxHeartbeats 4000000 in
theorem X7_clearTrust_l1 {l : Launch} {G : xG} {R : Room} {E : Array Value → State → Prop} {QF : List Frame → Array Value → State → State → Prop} {kc ns : Nat} {tA pF tF : Nat → Int32} {sz tt sm bs bn : Int32} {n : Nat}  {hX : List va_E} (en : sz = nI n) (hn : n ≤ 8)  (hR : 3 ≤ R.frames ∧ 120 ≤ R.locals ∧ kc ≤ R.cells ∧ ns ≤ R.slots)
    (K : ∀ h, xSh G tA pF tF sz tt sm bs bn h → lo 125 hX h → AW l G yX7_clearTrust cX7_clearTrust 2 none R E QF kc ns 31 [(0, .ref (G.1 + 125))] [] h) :
    ∀ (m i : Nat) (h : List va_E) (iv : Int32), i + m = 64 → iv = nI i → xSh G tA pF tF sz tt sm bs bn h → lo 125 hX h → AW l G yX7_clearTrust cX7_clearTrust 2 none R E QF kc ns 2 [(1, .int iv), (0, .ref (G.1 + 125))] [] h := by
  intro m
  induction m with
  | zero =>
    intro i h iv hi ei hS hk
    refine aw_iload_n 0 dX7_clearTrust_2 rfl rfl ?_
    refine aw_aload_n 1 dX7_clearTrust_3 rfl rfl ?_
    refine aw_get fX7_18 dX7_clearTrust_4 hS.1 rfl ?_
    refine aw_alen (64) dX7_clearTrust_7 hS.2.2.2.1 rfl rfl ?_
    refine aw_icmp_ge 31 dX7_clearTrust_8 (by decide) (fun c8 => ?_) (fun c8 => absurd (by simp only [i_le, (i_toNat (ei) (by omega)), (show (64 : Int32).toInt = 64 from rfl)] <;> omega) c8)
    refine aw_lv [(0, .ref (G.1 + 125))] [1] rfl ?_
    exact K h hS hk
  | succ m ih =>
    intro i h iv hi ei hS hk
    refine aw_iload_n 0 dX7_clearTrust_2 rfl rfl ?_
    refine aw_aload_n 1 dX7_clearTrust_3 rfl rfl ?_
    refine aw_get fX7_18 dX7_clearTrust_4 hS.1 rfl ?_
    refine aw_alen (64) dX7_clearTrust_7 hS.2.2.2.1 rfl rfl ?_
    refine aw_icmp_ge 31 dX7_clearTrust_8 (by decide) (fun c8 => absurd c8 (by simp only [i_le, (i_toNat (ei) (by omega)), (show (64 : Int32).toInt = 64 from rfl)] <;> omega)) (fun c8 => ?_)
    refine aw_aload_n 1 dX7_clearTrust_11 rfl rfl ?_
    refine aw_get fX7_18 dX7_clearTrust_12 hS.1 rfl ?_
    refine aw_iload_n 0 dX7_clearTrust_15 rfl rfl ?_
    refine aw_iconst (0) dX7_clearTrust_16 (by decide) ?_
    refine aw_iast i (ei) (by omega) (by decide) dX7_clearTrust_17 hS.2.2.2.1 ?_
    rw [upz]
    refine aw_aload_n 1 dX7_clearTrust_18 rfl rfl ?_
    refine aw_get fX7_21 dX7_clearTrust_19 (gn (by decide) (hS.1)) rfl ?_
    refine aw_iload_n 0 dX7_clearTrust_22 rfl rfl ?_
    refine aw_iconst (0) dX7_clearTrust_23 (by decide) ?_
    refine aw_iast i (ei) (by omega) (by decide) dX7_clearTrust_24 (gn (by decide) (hS.2.2.2.2.1)) ?_
    rw [upz]
    obtain ⟨v11, ev11⟩ : ∃ q : Int32, q = iv + Int32.ofInt (1) := ⟨_, rfl⟩
    refine aw_iinc (j := 0) v11 [(1, .int v11), (0, .ref (G.1 + 125))] dX7_clearTrust_25 rfl ev11.symm (by decide) rfl ?_
    refine aw_goto 2 dX7_clearTrust_28 (by decide) ?_
    refine aw_lv [(1, .int v11), (0, .ref (G.1 + 125))] [0, 1] rfl ?_
    exact ih (i + 1) _ _ (by omega) (ev11.trans (nv_inc (ei))) ⟨(gn (by decide) (gn (by decide) (hS.1))), (gn (by decide) (gn (by decide) (hS.2.1))), (gn (by decide) (gn (by decide) (hS.2.2.1))), (gn (by decide) (gs hS.2.2.2.1)), (gs (gn (by decide) (hS.2.2.2.2.1))), (gn (by decide) (gn (by decide) (hS.2.2.2.2.2.1))), (gn (by decide) (gn (by decide) (hS.2.2.2.2.2.2.1))), (gn (by decide) (gn (by decide) (hS.2.2.2.2.2.2.2.1))), (gn (by decide) (gn (by decide) (hS.2.2.2.2.2.2.2.2.1))), (gn (by decide) (gn (by decide) (hS.2.2.2.2.2.2.2.2.2)))⟩ (lo_set (lo_set (hk) (by decide)) (by decide))
set_option maxHeartbeats 4000000 in
theorem X7_clearTrust_l2 {l : Launch} {G : xG} {R : Room} {E : Array Value → State → Prop} {QF : List Frame → Array Value → State → State → Prop} {kc ns : Nat} {tA pF tF : Nat → Int32} {sz tt sm bs bn : Int32} {n : Nat}  {hX : List va_E} (en : sz = nI n) (hn : n ≤ 8)  (hR : 3 ≤ R.frames ∧ 120 ≤ R.locals ∧ kc ≤ R.cells ∧ ns ≤ R.slots)
    (K : ∀ h, xSh G tA pF tF sz tt sm bs bn h → lo 125 hX h → AW l G yX7_clearTrust cX7_clearTrust 2 none R E QF kc ns 59 [(0, .ref (G.1 + 125))] [] h) :
    ∀ (m i : Nat) (h : List va_E) (iv : Int32), i + m = 8 → iv = nI i → xSh G tA pF tF sz tt sm bs bn h → lo 125 hX h → AW l G yX7_clearTrust cX7_clearTrust 2 none R E QF kc ns 33 [(1, .int iv), (0, .ref (G.1 + 125))] [] h := by
  intro m
  induction m with
  | zero =>
    intro i h iv hi ei hS hk
    refine aw_iload_n 0 dX7_clearTrust_33 rfl rfl ?_
    refine aw_bipush (8) dX7_clearTrust_34 (by decide) ?_
    refine aw_icmp_ge 59 dX7_clearTrust_36 (by decide) (fun c36 => ?_) (fun c36 => absurd (by simp only [i_le, (i_toNat (ei) (by omega)), (show (8 : Int32).toInt = 8 from rfl)] <;> omega) c36)
    refine aw_lv [(0, .ref (G.1 + 125))] [1] rfl ?_
    exact K h hS hk
  | succ m ih =>
    intro i h iv hi ei hS hk
    refine aw_iload_n 0 dX7_clearTrust_33 rfl rfl ?_
    refine aw_bipush (8) dX7_clearTrust_34 (by decide) ?_
    refine aw_icmp_ge 59 dX7_clearTrust_36 (by decide) (fun c36 => absurd c36 (by simp only [i_le, (i_toNat (ei) (by omega)), (show (8 : Int32).toInt = 8 from rfl)] <;> omega)) (fun c36 => ?_)
    refine aw_aload_n 1 dX7_clearTrust_39 rfl rfl ?_
    refine aw_get fX7_24 dX7_clearTrust_40 hS.1 rfl ?_
    refine aw_iload_n 0 dX7_clearTrust_43 rfl rfl ?_
    refine aw_iconst (0) dX7_clearTrust_44 (by decide) ?_
    refine aw_iast i (ei) (by omega) (by decide) dX7_clearTrust_45 hS.2.2.2.2.2.1 ?_
    rw [upz]
    refine aw_aload_n 1 dX7_clearTrust_46 rfl rfl ?_
    refine aw_get fX7_27 dX7_clearTrust_47 (gn (by decide) (hS.1)) rfl ?_
    refine aw_iload_n 0 dX7_clearTrust_50 rfl rfl ?_
    refine aw_iconst (0) dX7_clearTrust_51 (by decide) ?_
    refine aw_iast i (ei) (by omega) (by decide) dX7_clearTrust_52 (gn (by decide) (hS.2.2.2.2.2.2.1)) ?_
    rw [upz]
    obtain ⟨v12, ev12⟩ : ∃ q : Int32, q = iv + Int32.ofInt (1) := ⟨_, rfl⟩
    refine aw_iinc (j := 0) v12 [(1, .int v12), (0, .ref (G.1 + 125))] dX7_clearTrust_53 rfl ev12.symm (by decide) rfl ?_
    refine aw_goto 33 dX7_clearTrust_56 (by decide) ?_
    refine aw_lv [(1, .int v12), (0, .ref (G.1 + 125))] [0, 1] rfl ?_
    exact ih (i + 1) _ _ (by omega) (ev12.trans (nv_inc (ei))) ⟨(gn (by decide) (gn (by decide) (hS.1))), (gn (by decide) (gn (by decide) (hS.2.1))), (gn (by decide) (gn (by decide) (hS.2.2.1))), (gn (by decide) (gn (by decide) (hS.2.2.2.1))), (gn (by decide) (gn (by decide) (hS.2.2.2.2.1))), (gn (by decide) (gs hS.2.2.2.2.2.1)), (gs (gn (by decide) (hS.2.2.2.2.2.2.1))), (gn (by decide) (gn (by decide) (hS.2.2.2.2.2.2.2.1))), (gn (by decide) (gn (by decide) (hS.2.2.2.2.2.2.2.2.1))), (gn (by decide) (gn (by decide) (hS.2.2.2.2.2.2.2.2.2)))⟩ (lo_set (lo_set (hk) (by decide)) (by decide))
set_option maxHeartbeats 4000000 in
theorem X7_clearTrust_o {l : Launch} {G : xG} {h : List va_E} {tA pF tF : Nat → Int32} {sz tt sm bs bn : Int32} {n : Nat} (hS : xSh G tA pF tF sz tt sm bs bn h) (en : sz = nI n) (hn : n ≤ 8) : CE l G yX7_clearTrust cX7_clearTrust 2 none 3 0 0 [.ref (G.1 + 125)] h none (fun h1 => xSh G tA pF tF sz tt sm bs bn h1 ∧ lo 125 h h1) := by
  refine cm_of rfl (Nat.le_of_ble_eq_true rfl) [(0, .ref (G.1 + 125))] rfl ?_
  refine aw_iconst (0) dX7_clearTrust_0 (by decide) ?_
  refine aw_istore_n [(1, .int 0), (0, .ref (G.1 + 125))] dX7_clearTrust_1 rfl (by decide) rfl ?_
  refine aw_lv [(1, .int 0), (0, .ref (G.1 + 125))] [0, 1] rfl ?_
  refine X7_clearTrust_l1 en hn (by decide) ?_ 64 0 h _ rfl rfl hS (lo_rf 125 h)
  intro h1 hS1 hk1
  refine aw_iconst (0) dX7_clearTrust_31 (by decide) ?_
  refine aw_istore_n [(1, .int 0), (0, .ref (G.1 + 125))] dX7_clearTrust_32 rfl (by decide) rfl ?_
  refine aw_lv [(1, .int 0), (0, .ref (G.1 + 125))] [0, 1] rfl ?_
  refine X7_clearTrust_l2 en hn (by decide) ?_ 8 0 h1 _ rfl rfl hS1 hk1
  intro h2 hS2 hk2
  exact aw_vret rfl dX7_clearTrust_59 (by decide) (by decide) ⟨rfl, hS2, hk2⟩
set_option maxHeartbeats 4000000 in
theorem X7_weighStates_l1 {l : Launch} {G : xG} {R : Room} {E : Array Value → State → Prop} {QF : List Frame → Array Value → State → State → Prop} {kc ns : Nat} {tA pF tF : Nat → Int32} {sz tt sm bs bn : Int32} {n : Nat} {wv : Int32} {w0 : Nat} {hX : List va_E} (en : sz = nI n) (hn : n ≤ 8) (ew : wv = nI w0) (bw : w0 < 256) (hR : 3 ≤ R.frames ∧ 120 ≤ R.locals ∧ kc ≤ R.cells ∧ ns ≤ R.slots)
    (K : ∀ h, xSh G tA pF tF sz tt sm bs bn h → lo 125 hX h → AW l G yX7_weighStates cX7_weighStates 4 none R E QF kc ns 37 [(1, .int wv), (0, .ref (G.1 + 125))] [] h) :
    ∀ (m i : Nat) (h : List va_E) (iv : Int32), i + m = n → iv = nI i → xSh G tA pF tF sz tt sm bs bn h → lo 125 hX h → AW l G yX7_weighStates cX7_weighStates 4 none R E QF kc ns 11 [(2, .int iv), (1, .int wv), (0, .ref (G.1 + 125))] [] h := by
  intro m
  induction m with
  | zero =>
    intro i h iv hi ei hS hk
    refine aw_iload_n 0 dX7_weighStates_11 rfl rfl ?_
    refine aw_aload_n 2 dX7_weighStates_12 rfl rfl ?_
    refine aw_get fX7_39 dX7_weighStates_13 hS.1 rfl ?_
    refine aw_icmp_ge 37 dX7_weighStates_16 (by decide) (fun c16 => ?_) (fun c16 => absurd (by simp only [i_le, (i_toNat (ei) (by omega)), (i_toNat (en) (by omega))] <;> omega) c16)
    refine aw_lv [(1, .int wv), (0, .ref (G.1 + 125))] [1, 2] rfl ?_
    exact K h hS hk
  | succ m ih =>
    intro i h iv hi ei hS hk
    refine aw_iload_n 0 dX7_weighStates_11 rfl rfl ?_
    refine aw_aload_n 2 dX7_weighStates_12 rfl rfl ?_
    refine aw_get fX7_39 dX7_weighStates_13 hS.1 rfl ?_
    refine aw_icmp_ge 37 dX7_weighStates_16 (by decide) (fun c16 => absurd c16 (by simp only [i_le, (i_toNat (ei) (by omega)), (i_toNat (en) (by omega))] <;> omega)) (fun c16 => ?_)
    refine aw_aload_n 2 dX7_weighStates_19 rfl rfl ?_
    refine aw_get fX7_33 dX7_weighStates_20 hS.1 rfl ?_
    refine aw_iload_n 1 dX7_weighStates_23 rfl rfl ?_
    refine aw_bipush (8) dX7_weighStates_24 (by decide) ?_
    refine aw_imul dX7_weighStates_26 ?_
    refine aw_iload_n 0 dX7_weighStates_27 rfl rfl ?_
    refine aw_iadd dX7_weighStates_28 ?_
    refine aw_iconst (0) dX7_weighStates_29 (by decide) ?_
    refine aw_iast ((w0 * 8) + i) (nv_add (nv_mul (ew) (rfl)) (ei)) (by omega) (by decide) dX7_weighStates_30 hS.2.2.2.2.2.2.2.2.1 ?_
    rw [upz]
    obtain ⟨v13, ev13⟩ : ∃ q : Int32, q = iv + Int32.ofInt (1) := ⟨_, rfl⟩
    refine aw_iinc (j := 0) v13 [(2, .int v13), (1, .int wv), (0, .ref (G.1 + 125))] dX7_weighStates_31 rfl ev13.symm (by decide) rfl ?_
    refine aw_goto 11 dX7_weighStates_34 (by decide) ?_
    refine aw_lv [(2, .int v13), (1, .int wv), (0, .ref (G.1 + 125))] [0, 1, 2] rfl ?_
    exact ih (i + 1) _ _ (by omega) (ev13.trans (nv_inc (ei))) ⟨(gn (by decide) (hS.1)), (gn (by decide) (hS.2.1)), (gn (by decide) (hS.2.2.1)), (gn (by decide) (hS.2.2.2.1)), (gn (by decide) (hS.2.2.2.2.1)), (gn (by decide) (hS.2.2.2.2.2.1)), (gn (by decide) (hS.2.2.2.2.2.2.1)), (gn (by decide) (hS.2.2.2.2.2.2.2.1)), (gs hS.2.2.2.2.2.2.2.2.1), (gn (by decide) (hS.2.2.2.2.2.2.2.2.2))⟩ (lo_set (hk) (by decide))
set_option maxHeartbeats 4000000 in
theorem X7_weighStates_l3 {l : Launch} {G : xG} {R : Room} {E : Array Value → State → Prop} {QF : List Frame → Array Value → State → State → Prop} {kc ns : Nat} {tA pF tF : Nat → Int32} {sz tt sm bs bn : Int32} {n : Nat} {wv sv : Int32} {st : Nat} {hX : List va_E} (en : sz = nI n) (hn : n ≤ 8) (es : sv = nI st) (bst : st < 256) (hR : 3 ≤ R.frames ∧ 120 ≤ R.locals ∧ kc ≤ R.cells ∧ ns ≤ R.slots)
    (K : ∀ h, xSh G tA pF tF sz tt sm bs bn h → lo 125 hX h → AW l G yX7_weighStates cX7_weighStates 4 none R E QF kc ns 91 [(2, .int sv), (1, .int wv), (0, .ref (G.1 + 125))] [] h) :
    ∀ (m i : Nat) (h : List va_E) (iv : Int32), i + m = n → iv = nI i → xSh G tA pF tF sz tt sm bs bn h → lo 125 hX h → AW l G yX7_weighStates cX7_weighStates 4 none R E QF kc ns 52 [(3, .int iv), (2, .int sv), (1, .int wv), (0, .ref (G.1 + 125))] [] h := by
  intro m
  induction m with
  | zero =>
    intro i h iv hi ei hS hk
    refine aw_iload_n 0 dX7_weighStates_52 rfl rfl ?_
    refine aw_aload_n 3 dX7_weighStates_53 rfl rfl ?_
    refine aw_get fX7_39 dX7_weighStates_54 hS.1 rfl ?_
    refine aw_icmp_ge 91 dX7_weighStates_57 (by decide) (fun c57 => ?_) (fun c57 => absurd (by simp only [i_le, (i_toNat (ei) (by omega)), (i_toNat (en) (by omega))] <;> omega) c57)
    refine aw_lv [(2, .int sv), (1, .int wv), (0, .ref (G.1 + 125))] [1, 2, 3] rfl ?_
    exact K h hS hk
  | succ m ih =>
    intro i h iv hi ei hS hk
    refine aw_iload_n 0 dX7_weighStates_52 rfl rfl ?_
    refine aw_aload_n 3 dX7_weighStates_53 rfl rfl ?_
    refine aw_get fX7_39 dX7_weighStates_54 hS.1 rfl ?_
    refine aw_icmp_ge 91 dX7_weighStates_57 (by decide) (fun c57 => absurd c57 (by simp only [i_le, (i_toNat (ei) (by omega)), (i_toNat (en) (by omega))] <;> omega)) (fun c57 => ?_)
    refine aw_iload_n 1 dX7_weighStates_60 rfl rfl ?_
    refine aw_iload_n 0 dX7_weighStates_61 rfl rfl ?_
    refine aw_ishr dX7_weighStates_62 ?_
    refine aw_iconst (1) dX7_weighStates_63 (by decide) ?_
    refine aw_iand dX7_weighStates_64 ?_
    refine aw_if_eq 85 dX7_weighStates_65 (by decide) (fun c65 => ?_) (fun c65 => ?_)
    · obtain ⟨v14, ev14⟩ : ∃ q : Int32, q = iv + Int32.ofInt (1) := ⟨_, rfl⟩
      refine aw_iinc (j := 0) v14 [(3, .int v14), (2, .int sv), (1, .int wv), (0, .ref (G.1 + 125))] dX7_weighStates_85 rfl ev14.symm (by decide) rfl ?_
      refine aw_goto 52 dX7_weighStates_88 (by decide) ?_
      refine aw_lv [(3, .int v14), (2, .int sv), (1, .int wv), (0, .ref (G.1 + 125))] [0, 1, 2, 3] rfl ?_
      exact ih (i + 1) _ _ (by omega) (ev14.trans (nv_inc (ei))) ⟨hS.1, hS.2.1, hS.2.2.1, hS.2.2.2.1, hS.2.2.2.2.1, hS.2.2.2.2.2.1, hS.2.2.2.2.2.2.1, hS.2.2.2.2.2.2.2.1, hS.2.2.2.2.2.2.2.2.1, hS.2.2.2.2.2.2.2.2.2⟩ (hk)
    · refine aw_aload_n 3 dX7_weighStates_68 rfl rfl ?_
      refine aw_get fX7_33 dX7_weighStates_69 hS.1 rfl ?_
      refine aw_iload_n 1 dX7_weighStates_72 rfl rfl ?_
      refine aw_bipush (8) dX7_weighStates_73 (by decide) ?_
      refine aw_imul dX7_weighStates_75 ?_
      refine aw_iload_n 0 dX7_weighStates_76 rfl rfl ?_
      refine aw_iadd dX7_weighStates_77 ?_
      refine aw_aload_n 3 dX7_weighStates_78 rfl rfl ?_
      refine aw_iload_n 1 dX7_weighStates_79 rfl rfl ?_
      refine aw_iload_n 0 dX7_weighStates_80 rfl rfl ?_
      refine aw_dV [.int sv, .int iv] [.int ((sv * 8) + iv), .ref (G.1 + 133)] lX7_92 vX7_weighState mX7_weighState dX7_weighStates_81 (X7_weighState_o hS en hn (es) (by omega) (ei) (by omega)) hS.1 rfl rfl rfl (Nat.le_of_ble_eq_true rfl) (by omega) (by omega) rfl ?_
      refine aw_iast ((st * 8) + i) (nv_add (nv_mul (es) (rfl)) (ei)) (by omega) (by decide) dX7_weighStates_84 hS.2.2.2.2.2.2.2.2.1 ?_
      rw [upz]
      obtain ⟨v15, ev15⟩ : ∃ q : Int32, q = iv + Int32.ofInt (1) := ⟨_, rfl⟩
      refine aw_iinc (j := 0) v15 [(3, .int v15), (2, .int sv), (1, .int wv), (0, .ref (G.1 + 125))] dX7_weighStates_85 rfl ev15.symm (by decide) rfl ?_
      refine aw_goto 52 dX7_weighStates_88 (by decide) ?_
      refine aw_lv [(3, .int v15), (2, .int sv), (1, .int wv), (0, .ref (G.1 + 125))] [0, 1, 2, 3] rfl ?_
      exact ih (i + 1) _ _ (by omega) (ev15.trans (nv_inc (ei))) ⟨(gn (by decide) (hS.1)), (gn (by decide) (hS.2.1)), (gn (by decide) (hS.2.2.1)), (gn (by decide) (hS.2.2.2.1)), (gn (by decide) (hS.2.2.2.2.1)), (gn (by decide) (hS.2.2.2.2.2.1)), (gn (by decide) (hS.2.2.2.2.2.2.1)), (gn (by decide) (hS.2.2.2.2.2.2.2.1)), (gs hS.2.2.2.2.2.2.2.2.1), (gn (by decide) (hS.2.2.2.2.2.2.2.2.2))⟩ (lo_set (hk) (by decide))
set_option maxHeartbeats 4000000 in
theorem X7_weighStates_l2 {l : Launch} {G : xG} {R : Room} {E : Array Value → State → Prop} {QF : List Frame → Array Value → State → State → Prop} {kc ns : Nat} {tA pF tF : Nat → Int32} {sz tt sm bs bn : Int32} {n : Nat} {wv : Int32} {hX : List va_E} (en : sz = nI n) (hn : n ≤ 8) (hR : 3 ≤ R.frames ∧ 120 ≤ R.locals ∧ kc ≤ R.cells ∧ ns ≤ R.slots)
    (K : ∀ h, xSh G tA pF tF sz tt sm bs bn h → lo 125 hX h → AW l G yX7_weighStates cX7_weighStates 4 none R E QF kc ns 97 [(0, .ref (G.1 + 125))] [] h) :
    ∀ (st : Nat) (h : List va_E) (sv : Int32), st < 256 → sv = nI st → xSh G tA pF tF sz tt sm bs bn h → lo 125 hX h → AW l G yX7_weighStates cX7_weighStates 4 none R E QF kc ns 41 [(2, .int sv), (1, .int wv), (0, .ref (G.1 + 125))] [] h := by
  intro st
  induction st with
  | zero =>
    intro h sv bst es hS hk
    refine aw_iload_n 0 dX7_weighStates_41 rfl rfl ?_
    refine aw_if_le 97 dX7_weighStates_42 (by decide) (fun c42 => ?_) (fun c42 => absurd (by simp only [i_le, (i_toNat (es) (by omega)), (show (0 : Int32).toInt = 0 from rfl)] <;> omega) c42)
    refine aw_lv [(0, .ref (G.1 + 125))] [2] rfl ?_
    exact K h hS hk
  | succ st ih =>
    intro h sv bst es hS hk
    refine aw_iload_n 0 dX7_weighStates_41 rfl rfl ?_
    refine aw_if_le 97 dX7_weighStates_42 (by decide) (fun c42 => absurd c42 (by simp only [i_le, (i_toNat (es) (by omega)), (show (0 : Int32).toInt = 0 from rfl)] <;> omega)) (fun c42 => ?_)
    refine aw_aload_n 2 dX7_weighStates_45 rfl rfl ?_
    refine aw_iload_n 0 dX7_weighStates_46 rfl rfl ?_
    refine aw_eW [.int sv] [] lX7_89 vX7_readGains mX7_readGains dX7_weighStates_47 (X7_readGains_o hS en hn) hS.1 rfl rfl rfl (Nat.le_of_ble_eq_true rfl) (by omega) (by omega) rfl (fun h16 q17 => ?_)
    refine aw_iconst (0) dX7_weighStates_50 (by decide) ?_
    refine aw_istore_n [(3, .int 0), (2, .int sv), (1, .int wv), (0, .ref (G.1 + 125))] dX7_weighStates_51 rfl (by decide) rfl ?_
    refine aw_lv [(3, .int 0), (2, .int sv), (1, .int wv), (0, .ref (G.1 + 125))] [0, 1, 2, 3] rfl ?_
    refine X7_weighStates_l3 en hn es bst hR ?_ n 0 _ _ (by omega) rfl q17.1 (lo_tr (hk) q17.2 (by decide))
    intro h3 hS3 hk3
    obtain ⟨v18, ev18⟩ : ∃ q : Int32, q = sv + Int32.ofInt (-1) := ⟨_, rfl⟩
    refine aw_iinc (j := 0) v18 [(2, .int v18), (1, .int wv), (0, .ref (G.1 + 125))] dX7_weighStates_91 rfl ev18.symm (by decide) rfl ?_
    refine aw_goto 41 dX7_weighStates_94 (by decide) ?_
    refine aw_lv [(2, .int v18), (1, .int wv), (0, .ref (G.1 + 125))] [0, 1, 2] rfl ?_
    exact ih _ _ (by omega) (by rw [ev18, es]; exact pk_m1 st) hS3 hk3
set_option maxHeartbeats 4000000 in
theorem X7_weighStates_o {l : Launch} {G : xG} {h : List va_E} {tA pF tF : Nat → Int32} {sz tt sm bs bn : Int32} {n : Nat} (hS : xSh G tA pF tF sz tt sm bs bn h) (en : sz = nI n) (hn : n ≤ 8) (n1 : 1 ≤ n) : CE l G yX7_weighStates cX7_weighStates 4 none 3 0 0 [.ref (G.1 + 125)] h none (fun h1 => xSh G tA pF tF sz tt 0 bs bn h1 ∧ lo 125 h h1) := by
  refine cm_of rfl (Nat.le_of_ble_eq_true rfl) [(0, .ref (G.1 + 125))] rfl ?_
  refine aw_iconst (1) dX7_weighStates_0 (by decide) ?_
  refine aw_aload_n 0 dX7_weighStates_1 rfl rfl ?_
  refine aw_get fX7_39 dX7_weighStates_2 hS.1 rfl ?_
  refine aw_ishl dX7_weighStates_5 ?_
  refine aw_iconst (1) dX7_weighStates_6 (by decide) ?_
  refine aw_isub dX7_weighStates_7 ?_
  refine aw_top (fun v19 ev19 => ?_)
  refine aw_istore_n [(1, .int v19), (0, .ref (G.1 + 125))] dX7_weighStates_8 rfl (by decide) rfl ?_
  refine aw_iconst (0) dX7_weighStates_9 (by decide) ?_
  refine aw_istore_n [(2, .int 0), (1, .int v19), (0, .ref (G.1 + 125))] dX7_weighStates_10 rfl (by decide) rfl ?_
  refine aw_lv [(2, .int 0), (1, .int v19), (0, .ref (G.1 + 125))] [0, 1, 2] rfl ?_
  refine X7_weighStates_l1 en hn (ev19.trans (nv_sub (nv_shl1 en (by omega)) rfl Nat.one_le_two_pow)) (pw_lt n (by omega)) (by decide) ?_ n 0 h _ (by omega) rfl hS (lo_rf 125 h)
  intro h1 hS1 hk1
  refine aw_iload_n 0 dX7_weighStates_37 rfl rfl ?_
  refine aw_iconst (1) dX7_weighStates_38 (by decide) ?_
  refine aw_isub dX7_weighStates_39 ?_
  refine aw_top (fun v20 ev20 => ?_)
  refine aw_istore_n [(2, .int v20), (1, .int v19), (0, .ref (G.1 + 125))] dX7_weighStates_40 rfl (by decide) rfl ?_
  refine aw_lv [(2, .int v20), (1, .int v19), (0, .ref (G.1 + 125))] [0, 1, 2] rfl ?_
  have h2n : 2 ≤ 2 ^ n := Nat.le_trans (by decide) (Nat.pow_le_pow_right (n := 2) (by decide) n1)
  refine X7_weighStates_l2 en hn (by decide) ?_ (2 ^ n - 1 - 1) h1 _ (by have := pw_lt n (by omega); omega) (ev20.trans (nv_sub (ev19.trans (nv_sub (nv_shl1 en (by omega)) rfl Nat.one_le_two_pow)) rfl (by omega))) hS1 hk1
  intro h2 hS2 hk2
  refine aw_aload_n 0 dX7_weighStates_97 rfl rfl ?_
  refine aw_iconst (0) dX7_weighStates_98 (by decide) ?_
  refine aw_eW [.int 0] [] lX7_89 vX7_readGains mX7_readGains dX7_weighStates_99 (X7_readGains_o hS2 en hn) hS2.1 rfl rfl rfl (Nat.le_of_ble_eq_true rfl) (by decide) (by decide) rfl (fun h21 q22 => ?_)
  refine aw_aload_n 0 dX7_weighStates_102 rfl rfl ?_
  refine aw_aload_n 0 dX7_weighStates_103 rfl rfl ?_
  refine aw_iconst (0) dX7_weighStates_104 (by decide) ?_
  refine aw_iconst (0) dX7_weighStates_105 (by decide) ?_
  refine aw_dV [.int 0, .int 0] [.ref (G.1 + 125)] lX7_92 vX7_weighState mX7_weighState dX7_weighStates_106 (X7_weighState_o q22.1 en hn rfl (by decide) rfl (by decide)) q22.1.1 rfl rfl rfl (Nat.le_of_ble_eq_true rfl) (by decide) (by decide) rfl ?_
  refine aw_putQ fX7_46 dX7_weighStates_109 [.ref (G.1 + 126), .ref (G.1 + 127), .ref (G.1 + 128), .ref (G.1 + 129), .ref (G.1 + 130), .ref (G.1 + 131), .ref (G.1 + 132), .ref (G.1 + 133), .ref (G.1 + 134), .int sz, .int tt, .int 0, .int bs, .int bn] q22.1.1 rfl rfl rfl (Nat.le_of_ble_eq_true rfl) rfl ?_
  exact aw_vret rfl dX7_weighStates_112 (by decide) (by decide) ⟨rfl, ⟨(gs q22.1.1), (gn (by decide) (q22.1.2.1)), (gn (by decide) (q22.1.2.2.1)), (gn (by decide) (q22.1.2.2.2.1)), (gn (by decide) (q22.1.2.2.2.2.1)), (gn (by decide) (q22.1.2.2.2.2.2.1)), (gn (by decide) (q22.1.2.2.2.2.2.2.1)), (gn (by decide) (q22.1.2.2.2.2.2.2.2.1)), (gn (by decide) (q22.1.2.2.2.2.2.2.2.2.1)), (gn (by decide) (q22.1.2.2.2.2.2.2.2.2.2))⟩, lo_set ((lo_tr (hk2) q22.2 (by decide))) (by decide)⟩
