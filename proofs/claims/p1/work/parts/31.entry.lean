set_option maxHeartbeats 4000000 in
theorem X1_sensesOf_l {l : Launch} {G : xG} {R : Room} {E : Array Value → State → Prop} {QF : List Frame → Array Value → State → State → Prop} {kc ns : Nat} {h : List va_E} {w : Int32} {sF : Nat → Int32} (h1 : h[1]? = some (.inr (1, [.ref (G.1 + 2), .ref (G.1 + 3), .ref (G.1 + 4), .ref (G.1 + 5), .ref (G.1 + 6), .ref (G.1 + 7), .ref (G.1 + 8), .ref (G.1 + 9), .ref (G.1 + 10), .ref (G.1 + 11), .int 0, .int 5, .int 1, .int 1]))) (h3 : h[3]? = some (.inl (0, 20, .inl sF))) 
    (K : ∀ (fv : Int32), AW l G yX1_sensesOf cX1_sensesOf 4 (some .int) R E QF kc ns 35 [(2, .int fv), (1, .int w), (0, .ref (G.1 + 1))] [] h) :
    ∀ (n i : Nat) (fv : Int32) (iv : Int32), i + n = 20 → iv = nI i → AW l G yX1_sensesOf cX1_sensesOf 4 (some .int) R E QF kc ns 4 [(3, .int iv), (2, .int fv), (1, .int w), (0, .ref (G.1 + 1))] [] h := by
  intro n
  induction n with
  | zero =>
    intro i fv iv hi ei
    refine aw_iload_n 0 dX1_sensesOf_4 rfl rfl ?_
    refine aw_bipush (20) dX1_sensesOf_5 (by decide) ?_
    refine aw_icmp_ge 35 dX1_sensesOf_7 (by decide) (fun c7 => ?_) (fun c7 => absurd (by simp only [i_le, (i_toNat (ei) (by omega)), (show (20 : Int32).toInt = 20 from rfl)] <;> omega) c7)
    refine aw_lv [(2, .int fv), (1, .int w), (0, .ref (G.1 + 1))] [1, 2, 3] rfl ?_
    exact K _
  | succ n ih =>
    intro i fv iv hi ei
    refine aw_iload_n 0 dX1_sensesOf_4 rfl rfl ?_
    refine aw_bipush (20) dX1_sensesOf_5 (by decide) ?_
    refine aw_icmp_ge 35 dX1_sensesOf_7 (by decide) (fun c7 => absurd c7 (by simp only [i_le, (i_toNat (ei) (by omega)), (show (20 : Int32).toInt = 20 from rfl)] <;> omega)) (fun c7 => ?_)
    refine aw_iload_n 2 dX1_sensesOf_10 rfl rfl ?_
    refine aw_iload_n 0 dX1_sensesOf_11 rfl rfl ?_
    refine aw_ishr dX1_sensesOf_12 ?_
    refine aw_iconst (1) dX1_sensesOf_13 (by decide) ?_
    refine aw_iand dX1_sensesOf_14 ?_
    refine aw_if_eq 29 dX1_sensesOf_15 (by decide) (fun c15 => ?_) (fun c15 => ?_)
    · obtain ⟨v1, ev1⟩ : ∃ q : Int32, q = iv + Int32.ofInt (1) := ⟨_, rfl⟩
      refine aw_iinc (j := 0) v1 [(3, .int v1), (2, .int fv), (1, .int w), (0, .ref (G.1 + 1))] dX1_sensesOf_29 rfl ev1.symm (by decide) rfl ?_
      refine aw_goto 4 dX1_sensesOf_32 (by decide) ?_
      refine aw_lv [(3, .int v1), (2, .int fv), (1, .int w), (0, .ref (G.1 + 1))] [0, 1, 2, 3] rfl ?_
      exact ih (i + 1) _ _ (by omega) (ev1.trans (nv_inc (ei)))
    · refine aw_iload_n 1 dX1_sensesOf_18 rfl rfl ?_
      refine aw_iconst (1) dX1_sensesOf_19 (by decide) ?_
      refine aw_aload_n 3 dX1_sensesOf_20 rfl rfl ?_
      refine aw_get fX1_15 dX1_sensesOf_21 h1 rfl ?_
      refine aw_iload_n 0 dX1_sensesOf_24 rfl rfl ?_
      refine aw_iald i (ei) (by omega) (by decide) dX1_sensesOf_25 h3 ?_
      refine aw_ishl dX1_sensesOf_26 ?_
      refine aw_ior dX1_sensesOf_27 ?_
      refine aw_top (fun v2 ev2 => ?_)
      refine aw_istore_n [(2, .int v2), (3, .int iv), (1, .int w), (0, .ref (G.1 + 1))] dX1_sensesOf_28 rfl (by decide) rfl ?_
      obtain ⟨v3, ev3⟩ : ∃ q : Int32, q = iv + Int32.ofInt (1) := ⟨_, rfl⟩
      refine aw_iinc (j := 1) v3 [(3, .int v3), (2, .int v2), (1, .int w), (0, .ref (G.1 + 1))] dX1_sensesOf_29 rfl ev3.symm (by decide) rfl ?_
      refine aw_goto 4 dX1_sensesOf_32 (by decide) ?_
      refine aw_lv [(3, .int v3), (2, .int v2), (1, .int w), (0, .ref (G.1 + 1))] [0, 1, 2, 3] rfl ?_
      exact ih (i + 1) _ _ (by omega) (ev3.trans (nv_inc (ei)))
set_option maxHeartbeats 4000000 in
theorem X1_sensesOf_u {l : Launch} {G : xG} {h : List va_E} {w : Int32} {sF : Nat → Int32} (h1 : h[1]? = some (.inr (1, [.ref (G.1 + 2), .ref (G.1 + 3), .ref (G.1 + 4), .ref (G.1 + 5), .ref (G.1 + 6), .ref (G.1 + 7), .ref (G.1 + 8), .ref (G.1 + 9), .ref (G.1 + 10), .ref (G.1 + 11), .int 0, .int 5, .int 1, .int 1]))) (h3 : h[3]? = some (.inl (0, 20, .inl sF))) : CU l G yX1_sensesOf cX1_sensesOf 4 (some .int) 0 0 0 [.ref (G.1 + 1), .int w] h (fun _ h1 => h1 = h) := by
  refine cm_of rfl (Nat.le_of_ble_eq_true rfl) [(0, .ref (G.1 + 1)), (1, .int w)] rfl ?_
  refine aw_iconst (0) dX1_sensesOf_0 (by decide) ?_
  refine aw_istore_n [(2, .int 0), (0, .ref (G.1 + 1)), (1, .int w)] dX1_sensesOf_1 rfl (by decide) rfl ?_
  refine aw_iconst (0) dX1_sensesOf_2 (by decide) ?_
  refine aw_istore_n [(3, .int 0), (2, .int 0), (0, .ref (G.1 + 1)), (1, .int w)] dX1_sensesOf_3 rfl (by decide) rfl ?_
  refine aw_lv [(3, .int 0), (2, .int 0), (1, .int w), (0, .ref (G.1 + 1))] [0, 1, 3, 2] rfl ?_
  refine X1_sensesOf_l h1 h3 ?_ 20 0 _ _ rfl rfl
  intro fv
  refine aw_iload_n 0 dX1_sensesOf_35 rfl rfl ?_
  exact aw_iret rfl dX1_sensesOf_36 (by decide) (by decide) ⟨_, rfl, rfl⟩
set_option maxHeartbeats 4000000 in
theorem X1_addEntry_o {l : Launch} {G : xG} {h : List va_E} {c w s r u : Int32} (hF : xF8 G h)(hc : 0 ≤ c.toInt ∧ c.toInt < 4) : CE l G yX1_addEntry cX1_addEntry 8 (some .int) 1 0 0 [.ref (G.1 + 1), .int c, .int w, .int s, .int r, .int u] h (some (.int 0)) (kp h) := by
  refine cm_of rfl (Nat.le_of_ble_eq_true rfl) [(0, .ref (G.1 + 1)), (1, .int c), (2, .int w), (3, .int s), (4, .int r), (5, .int u)] rfl ?_
  obtain ⟨c0, bc, ec⟩ := i_nat (N := 4) hc.1 hc.2
  have tc : c.toInt = (c0 : Int) := i_toNat ec (by omega)
  refine aw_aload_n 0 dX1_addEntry_0 rfl rfl ?_
  refine aw_get fX1_21 dX1_addEntry_1 hF.2.1 rfl ?_
  refine aw_iload_n 1 dX1_addEntry_4 rfl rfl ?_
  refine aw_iald c0 (ec) (by omega) (by decide) dX1_addEntry_5 hF.2.2.2.2.2.1 ?_
  refine aw_toe 0 (rfl) ?_
  refine aw_istore [(6, .int 0), (0, .ref (G.1 + 1)), (1, .int c), (2, .int w), (3, .int s), (4, .int r), (5, .int u)] dX1_addEntry_6 (by decide) rfl ?_
  refine aw_iload_n 2 dX1_addEntry_8 rfl rfl ?_
  refine aw_bipush (10) dX1_addEntry_9 (by decide) ?_
  refine aw_imul dX1_addEntry_11 ?_
  refine aw_iload 0 dX1_addEntry_12 rfl ?_
  refine aw_iadd dX1_addEntry_14 ?_
  refine aw_top (fun v4 ev4 => ?_)
  refine aw_istore [(7, .int v4), (6, .int 0), (0, .ref (G.1 + 1)), (1, .int c), (2, .int w), (3, .int s), (4, .int r), (5, .int u)] dX1_addEntry_15 (by decide) rfl ?_
  refine aw_aload_n 2 dX1_addEntry_17 rfl rfl ?_
  refine aw_get fX1_24 dX1_addEntry_18 hF.2.1 rfl ?_
  refine aw_iload 0 dX1_addEntry_21 rfl ?_
  refine aw_iload_n 4 dX1_addEntry_23 rfl rfl ?_
  refine aw_iast ((c0 * 10) + 0) (ev4.trans (nv_add (nv_mul (ec) (rfl)) (rfl))) (by omega) (by decide) dX1_addEntry_24 hF.2.2.2.2.2.2.1 ?_
  refine aw_aload_n 2 dX1_addEntry_25 rfl rfl ?_
  refine aw_get fX1_27 dX1_addEntry_26 (gn (by decide) (hF.2.1)) rfl ?_
  refine aw_iload 0 dX1_addEntry_29 rfl ?_
  refine aw_aload_n 2 dX1_addEntry_31 rfl rfl ?_
  refine aw_iload_n 4 dX1_addEntry_32 rfl rfl ?_
  refine aw_uV [.int w] [.int v4, .ref (G.1 + 7)] lX1_56 vX1_sensesOf mX1_sensesOf dX1_addEntry_33 (X1_sensesOf_u (gn (by decide) (hF.2.1)) (gn (by decide) (hF.2.2.2.1))) (gn (by decide) (hF.2.1)) rfl rfl rfl (Nat.le_of_ble_eq_true rfl) (by decide) (by decide) rfl (fun r5 h6 q7 => ?_)
  subst q7
  refine aw_iast ((c0 * 10) + 0) (ev4.trans (nv_add (nv_mul (ec) (rfl)) (rfl))) (by omega) (by decide) dX1_addEntry_36 (gn (by decide) (hF.2.2.2.2.2.2.2.1)) ?_
  refine aw_aload_n 2 dX1_addEntry_37 rfl rfl ?_
  refine aw_get fX1_30 dX1_addEntry_38 (gn (by decide) (gn (by decide) (hF.2.1))) rfl ?_
  refine aw_iload 0 dX1_addEntry_41 rfl ?_
  refine aw_iload_n 5 dX1_addEntry_43 rfl rfl ?_
  refine aw_iast ((c0 * 10) + 0) (ev4.trans (nv_add (nv_mul (ec) (rfl)) (rfl))) (by omega) (by decide) dX1_addEntry_44 (gn (by decide) (gn (by decide) (hF.2.2.2.2.2.2.2.2.1))) ?_
  refine aw_aload_n 2 dX1_addEntry_45 rfl rfl ?_
  refine aw_get fX1_33 dX1_addEntry_46 (gn (by decide) (gn (by decide) (gn (by decide) (hF.2.1)))) rfl ?_
  refine aw_iload 0 dX1_addEntry_49 rfl ?_
  refine aw_iload 6 dX1_addEntry_51 rfl ?_
  refine aw_iast ((c0 * 10) + 0) (ev4.trans (nv_add (nv_mul (ec) (rfl)) (rfl))) (by omega) (by decide) dX1_addEntry_53 (gn (by decide) (gn (by decide) (gn (by decide) (hF.2.2.2.2.2.2.2.2.2.1)))) ?_
  refine aw_aload_n 2 dX1_addEntry_54 rfl rfl ?_
  refine aw_get fX1_36 dX1_addEntry_55 (gn (by decide) (gn (by decide) (gn (by decide) (gn (by decide) (hF.2.1))))) rfl ?_
  refine aw_iload 0 dX1_addEntry_58 rfl ?_
  refine aw_iload 7 dX1_addEntry_60 rfl ?_
  refine aw_iast ((c0 * 10) + 0) (ev4.trans (nv_add (nv_mul (ec) (rfl)) (rfl))) (by omega) (by decide) dX1_addEntry_62 (gn (by decide) (gn (by decide) (gn (by decide) (gn (by decide) (hF.2.2.2.2.2.2.2.2.2.2.1))))) ?_
  refine aw_aload_n 2 dX1_addEntry_63 rfl rfl ?_
  refine aw_get fX1_21 dX1_addEntry_64 (gn (by decide) (gn (by decide) (gn (by decide) (gn (by decide) (gn (by decide) (hF.2.1)))))) rfl ?_
  refine aw_iload_n 3 dX1_addEntry_67 rfl rfl ?_
  refine aw_iload 1 dX1_addEntry_68 rfl ?_
  refine aw_iconst (1) dX1_addEntry_70 (by decide) ?_
  refine aw_iadd dX1_addEntry_71 ?_
  refine aw_toe 1 (by decide) ?_
  refine aw_iast c0 (ec) (by omega) (by decide) dX1_addEntry_72 (gn (by decide) (gn (by decide) (gn (by decide) (gn (by decide) (gn (by decide) (hF.2.2.2.2.2.1)))))) ?_
  refine aw_aload_n 2 dX1_addEntry_73 rfl rfl ?_
  refine aw_dup dX1_addEntry_74 rfl ?_
  refine aw_get fX1_53 dX1_addEntry_75 (gn (by decide) (gn (by decide) (gn (by decide) (gn (by decide) (gn (by decide) (gn (by decide) (hF.2.1))))))) rfl ?_
  refine aw_iconst (1) dX1_addEntry_78 (by decide) ?_
  refine aw_iadd dX1_addEntry_79 ?_
  refine aw_toe 2 (by decide) ?_
  refine aw_putQ fX1_53 dX1_addEntry_80 [.ref (G.1 + 2), .ref (G.1 + 3), .ref (G.1 + 4), .ref (G.1 + 5), .ref (G.1 + 6), .ref (G.1 + 7), .ref (G.1 + 8), .ref (G.1 + 9), .ref (G.1 + 10), .ref (G.1 + 11), .int 0, .int 5, .int 1, .int 2] (gn (by decide) (gn (by decide) (gn (by decide) (gn (by decide) (gn (by decide) (gn (by decide) (hF.2.1))))))) rfl rfl rfl (Nat.le_of_ble_eq_true rfl) rfl ?_
  refine aw_iload 1 dX1_addEntry_83 rfl ?_
  exact aw_iret rfl dX1_addEntry_85 (by decide) (by decide) ⟨rfl, kp_set (kp_set (kp_set (kp_set (kp_set (kp_set (kp_set (kp_rf h) (by decide)) (by decide)) (by decide)) (by decide)) (by decide)) (by decide)) (by decide)⟩
set_option maxHeartbeats 4000000 in
theorem A3a {l : Launch} {G : xG} {h : List va_E} {c w s r u : Int32} (hF : xF8 G h) (hc : ¬ (0 ≤ c.toInt ∧ c.toInt < 4)) : CE l G yX8_entry cX8_entry 6 (some .int) 3 0 0 [.ref (G.1 + 0), .int c, .int w, .int s, .int r, .int u] h (some (.int (-1))) (kp h) := by
  refine cm_of rfl (Nat.le_of_ble_eq_true rfl) [(0, .ref (G.1 + 0)), (1, .int c), (2, .int w), (3, .int s), (4, .int r), (5, .int u)] rfl ?_
  refine aw_iload_n 1 dX8_entry_0 rfl rfl ?_
  refine aw_dS [.int c] [] lX8_81 sX8_isCatalogue mX8_isCatalogue dX8_entry_1 (X8_isCatalogue_f (by omega)) rfl (Nat.le_of_ble_eq_true rfl) (by decide) (by decide) rfl ?_
  refine aw_if_eq 16 dX8_entry_4 (by decide) (fun c4 => ?_) (fun c4 => absurd (by decide) c4)
  refine aw_aload_n 0 dX8_entry_16 rfl rfl ?_
  refine aw_iconst (-1) dX8_entry_17 (by decide) ?_
  refine aw_eV [.int (-1)] [] lX8_70 vX8_refuse mX8_refuse dX8_entry_18 (X8_refuse1 hF) hF.1 rfl rfl rfl (Nat.le_of_ble_eq_true rfl) (by decide) (by decide) rfl (fun h8 q9 => ?_)
  exact aw_iret rfl dX8_entry_21 (by decide) (by decide) ⟨rfl, (kp_tr (kp_rf h) q9)⟩
set_option maxHeartbeats 4000000 in
theorem B3a {l : Launch} {G : xG} {h : List va_E} {c w s r u : Int32} (hM : xF9 G h) (hc : ¬ (0 ≤ c.toInt ∧ c.toInt < 4)) : CE l G yX9_entry cX9_entry 7 (some .int) 2 0 0 [.ref (G.1 + 88), .int c, .int w, .int s, .int r, .int u] h (some (.int (-1))) (fun _ => True) := by
  refine cm_of rfl (Nat.le_of_ble_eq_true rfl) [(0, .ref (G.1 + 88)), (1, .int c), (2, .int w), (3, .int s), (4, .int r), (5, .int u)] rfl ?_
  refine aw_iload_n 1 dX9_entry_0 rfl rfl ?_
  refine aw_iconst (4) dX9_entry_1 (by decide) ?_
  refine aw_dS [.int c, .int 4] [] lX9_126 sX9_isIn mX9_isIn dX9_entry_2 (X9_isIn4_f (by omega)) rfl (Nat.le_of_ble_eq_true rfl) (by decide) (by decide) rfl ?_
  refine aw_if_eq 18 dX9_entry_5 (by decide) (fun c5 => ?_) (fun c5 => absurd (by decide) c5)
  refine aw_aload_n 0 dX9_entry_18 rfl rfl ?_
  refine aw_iconst (-1) dX9_entry_19 (by decide) ?_
  refine aw_eV [.int (-1)] [] lX9_130 vX9_refuse mX9_refuse dX9_entry_20 (X9_refuse1 hM) hM.1 rfl rfl rfl (Nat.le_of_ble_eq_true rfl) (by decide) (by decide) rfl (fun h10 q11 => ?_)
  exact aw_iret rfl dX9_entry_23 (by decide) (by decide) ⟨rfl, trivial⟩
set_option maxHeartbeats 4000000 in
theorem A3b {l : Launch} {G : xG} {h : List va_E} {c w s r u : Int32} (hF : xF8 G h) (hc : 0 ≤ c.toInt ∧ c.toInt < 4)(hw : w.toInt < 0) : CE l G yX8_entry cX8_entry 6 (some .int) 3 0 0 [.ref (G.1 + 0), .int c, .int w, .int s, .int r, .int u] h (some (.int (-1))) (kp h) := by
  refine cm_of rfl (Nat.le_of_ble_eq_true rfl) [(0, .ref (G.1 + 0)), (1, .int c), (2, .int w), (3, .int s), (4, .int r), (5, .int u)] rfl ?_
  obtain ⟨c0, bc, ec⟩ := i_nat (N := 4) hc.1 hc.2
  have tc : c.toInt = (c0 : Int) := i_toNat ec (by omega)
  refine aw_iload_n 1 dX8_entry_0 rfl rfl ?_
  refine aw_dS [.int c] [] lX8_81 sX8_isCatalogue mX8_isCatalogue dX8_entry_1 (X8_isCatalogue_t (by omega)) rfl (Nat.le_of_ble_eq_true rfl) (by decide) (by decide) rfl ?_
  refine aw_if_eq 16 dX8_entry_4 (by decide) (fun c4 => absurd c4 (by decide)) (fun c4 => ?_)
  refine aw_iload_n 2 dX8_entry_7 rfl rfl ?_
  refine aw_bipush (20) dX8_entry_8 (by decide) ?_
  refine aw_dS [.int w, .int 20] [] lX8_87 sX8_hasOtherBits mX8_hasOtherBits dX8_entry_10 (X8_hasOtherBits20_t (by omega)) rfl (Nat.le_of_ble_eq_true rfl) (by decide) (by decide) rfl ?_
  refine aw_if_eq 22 dX8_entry_13 (by decide) (fun c13 => absurd c13 (by decide)) (fun c13 => ?_)
  refine aw_aload_n 0 dX8_entry_16 rfl rfl ?_
  refine aw_iconst (-1) dX8_entry_17 (by decide) ?_
  refine aw_eV [.int (-1)] [] lX8_70 vX8_refuse mX8_refuse dX8_entry_18 (X8_refuse1 hF) hF.1 rfl rfl rfl (Nat.le_of_ble_eq_true rfl) (by decide) (by decide) rfl (fun h12 q13 => ?_)
  exact aw_iret rfl dX8_entry_21 (by decide) (by decide) ⟨rfl, (kp_tr (kp_rf h) q13)⟩
set_option maxHeartbeats 4000000 in
theorem B3b {l : Launch} {G : xG} {h : List va_E} {c w s r u : Int32} (hM : xF9 G h) (hc : 0 ≤ c.toInt ∧ c.toInt < 4)(hw : w.toInt < 0) : CE l G yX9_entry cX9_entry 7 (some .int) 2 0 0 [.ref (G.1 + 88), .int c, .int w, .int s, .int r, .int u] h (some (.int (-1))) (fun _ => True) := by
  refine cm_of rfl (Nat.le_of_ble_eq_true rfl) [(0, .ref (G.1 + 88)), (1, .int c), (2, .int w), (3, .int s), (4, .int r), (5, .int u)] rfl ?_
  obtain ⟨c0, bc, ec⟩ := i_nat (N := 4) hc.1 hc.2
  have tc : c.toInt = (c0 : Int) := i_toNat ec (by omega)
  refine aw_iload_n 1 dX9_entry_0 rfl rfl ?_
  refine aw_iconst (4) dX9_entry_1 (by decide) ?_
  refine aw_dS [.int c, .int 4] [] lX9_126 sX9_isIn mX9_isIn dX9_entry_2 (X9_isIn4_t (by omega)) rfl (Nat.le_of_ble_eq_true rfl) (by decide) (by decide) rfl ?_
  refine aw_if_eq 18 dX9_entry_5 (by decide) (fun c5 => absurd c5 (by decide)) (fun c5 => ?_)
  refine aw_iload_n 2 dX9_entry_8 rfl rfl ?_
  refine aw_if_lt 18 dX9_entry_9 (by decide) (fun c9 => ?_) (fun c9 => absurd (by simp only [i_lt, (show (0 : Int32).toInt = 0 from rfl)] <;> omega) c9)
  refine aw_aload_n 0 dX9_entry_18 rfl rfl ?_
  refine aw_iconst (-1) dX9_entry_19 (by decide) ?_
  refine aw_eV [.int (-1)] [] lX9_130 vX9_refuse mX9_refuse dX9_entry_20 (X9_refuse1 hM) hM.1 rfl rfl rfl (Nat.le_of_ble_eq_true rfl) (by decide) (by decide) rfl (fun h14 q15 => ?_)
  exact aw_iret rfl dX9_entry_23 (by decide) (by decide) ⟨rfl, trivial⟩
set_option maxHeartbeats 4000000 in
theorem A3B {l : Launch} {G : xG} {h : List va_E} {c w s r u : Int32} (hF : xF8 G h) (hc : 0 ≤ c.toInt ∧ c.toInt < 4)(hw : 1048576 ≤ w.toInt) : CE l G yX8_entry cX8_entry 6 (some .int) 3 0 0 [.ref (G.1 + 0), .int c, .int w, .int s, .int r, .int u] h (some (.int (-1))) (kp h) := by
  refine cm_of rfl (Nat.le_of_ble_eq_true rfl) [(0, .ref (G.1 + 0)), (1, .int c), (2, .int w), (3, .int s), (4, .int r), (5, .int u)] rfl ?_
  obtain ⟨c0, bc, ec⟩ := i_nat (N := 4) hc.1 hc.2
  have tc : c.toInt = (c0 : Int) := i_toNat ec (by omega)
  refine aw_iload_n 1 dX8_entry_0 rfl rfl ?_
  refine aw_dS [.int c] [] lX8_81 sX8_isCatalogue mX8_isCatalogue dX8_entry_1 (X8_isCatalogue_t (by omega)) rfl (Nat.le_of_ble_eq_true rfl) (by decide) (by decide) rfl ?_
  refine aw_if_eq 16 dX8_entry_4 (by decide) (fun c4 => absurd c4 (by decide)) (fun c4 => ?_)
  refine aw_iload_n 2 dX8_entry_7 rfl rfl ?_
  refine aw_bipush (20) dX8_entry_8 (by decide) ?_
  refine aw_dS [.int w, .int 20] [] lX8_87 sX8_hasOtherBits mX8_hasOtherBits dX8_entry_10 (X8_hasOtherBits20_t (by omega)) rfl (Nat.le_of_ble_eq_true rfl) (by decide) (by decide) rfl ?_
  refine aw_if_eq 22 dX8_entry_13 (by decide) (fun c13 => absurd c13 (by decide)) (fun c13 => ?_)
  refine aw_aload_n 0 dX8_entry_16 rfl rfl ?_
  refine aw_iconst (-1) dX8_entry_17 (by decide) ?_
  refine aw_eV [.int (-1)] [] lX8_70 vX8_refuse mX8_refuse dX8_entry_18 (X8_refuse1 hF) hF.1 rfl rfl rfl (Nat.le_of_ble_eq_true rfl) (by decide) (by decide) rfl (fun h16 q17 => ?_)
  exact aw_iret rfl dX8_entry_21 (by decide) (by decide) ⟨rfl, (kp_tr (kp_rf h) q17)⟩
set_option maxHeartbeats 4000000 in
theorem B3B {l : Launch} {G : xG} {h : List va_E} {c w s r u : Int32} (hM : xF9 G h) (hc : 0 ≤ c.toInt ∧ c.toInt < 4)(hw : 1048576 ≤ w.toInt) : CE l G yX9_entry cX9_entry 7 (some .int) 2 0 0 [.ref (G.1 + 88), .int c, .int w, .int s, .int r, .int u] h (some (.int (-1))) (fun _ => True) := by
  refine cm_of rfl (Nat.le_of_ble_eq_true rfl) [(0, .ref (G.1 + 88)), (1, .int c), (2, .int w), (3, .int s), (4, .int r), (5, .int u)] rfl ?_
  obtain ⟨c0, bc, ec⟩ := i_nat (N := 4) hc.1 hc.2
  have tc : c.toInt = (c0 : Int) := i_toNat ec (by omega)
  refine aw_iload_n 1 dX9_entry_0 rfl rfl ?_
  refine aw_iconst (4) dX9_entry_1 (by decide) ?_
  refine aw_dS [.int c, .int 4] [] lX9_126 sX9_isIn mX9_isIn dX9_entry_2 (X9_isIn4_t (by omega)) rfl (Nat.le_of_ble_eq_true rfl) (by decide) (by decide) rfl ?_
  refine aw_if_eq 18 dX9_entry_5 (by decide) (fun c5 => absurd c5 (by decide)) (fun c5 => ?_)
  refine aw_iload_n 2 dX9_entry_8 rfl rfl ?_
  refine aw_if_lt 18 dX9_entry_9 (by decide) (fun c9 => absurd c9 (by simp only [i_lt, (show (0 : Int32).toInt = 0 from rfl)] <;> omega)) (fun c9 => ?_)
  refine aw_iload_n 2 dX9_entry_12 rfl rfl ?_
  refine aw_ldc (1048576) kX9_141 dX9_entry_13 ?_
  refine aw_icmp_lt 24 dX9_entry_15 (by decide) (fun c15 => absurd c15 (by simp only [i_lt, (show (1048576 : Int32).toInt = 1048576 from rfl)] <;> omega)) (fun c15 => ?_)
  refine aw_aload_n 0 dX9_entry_18 rfl rfl ?_
  refine aw_iconst (-1) dX9_entry_19 (by decide) ?_
  refine aw_eV [.int (-1)] [] lX9_130 vX9_refuse mX9_refuse dX9_entry_20 (X9_refuse1 hM) hM.1 rfl rfl rfl (Nat.le_of_ble_eq_true rfl) (by decide) (by decide) rfl (fun h18 q19 => ?_)
  exact aw_iret rfl dX9_entry_23 (by decide) (by decide) ⟨rfl, trivial⟩
set_option maxHeartbeats 4000000 in
theorem A3c {l : Launch} {G : xG} {h : List va_E} {c w s r u : Int32} (hF : xF8 G h) (hc : 0 ≤ c.toInt ∧ c.toInt < 4) (hw : 0 ≤ w.toInt ∧ w.toInt < 1048576) (h0 : w.toInt = 0) : CE l G yX8_entry cX8_entry 6 (some .int) 3 0 0 [.ref (G.1 + 0), .int c, .int w, .int s, .int r, .int u] h (some (.int (-4))) (kp h) := by
  refine cm_of rfl (Nat.le_of_ble_eq_true rfl) [(0, .ref (G.1 + 0)), (1, .int c), (2, .int w), (3, .int s), (4, .int r), (5, .int u)] rfl ?_
  obtain ⟨c0, bc, ec⟩ := i_nat (N := 4) hc.1 hc.2
  have tc : c.toInt = (c0 : Int) := i_toNat ec (by omega)
  refine aw_iload_n 1 dX8_entry_0 rfl rfl ?_
  refine aw_dS [.int c] [] lX8_81 sX8_isCatalogue mX8_isCatalogue dX8_entry_1 (X8_isCatalogue_t (by omega)) rfl (Nat.le_of_ble_eq_true rfl) (by decide) (by decide) rfl ?_
  refine aw_if_eq 16 dX8_entry_4 (by decide) (fun c4 => absurd c4 (by decide)) (fun c4 => ?_)
  refine aw_iload_n 2 dX8_entry_7 rfl rfl ?_
  refine aw_bipush (20) dX8_entry_8 (by decide) ?_
  refine aw_dS [.int w, .int 20] [] lX8_87 sX8_hasOtherBits mX8_hasOtherBits dX8_entry_10 (X8_hasOtherBits20_f (by omega)) rfl (Nat.le_of_ble_eq_true rfl) (by decide) (by decide) rfl ?_
  refine aw_if_eq 22 dX8_entry_13 (by decide) (fun c13 => ?_) (fun c13 => absurd (by decide) c13)
  refine aw_iload_n 2 dX8_entry_22 rfl rfl ?_
  refine aw_if_eq 41 dX8_entry_23 (by decide) (fun c23 => ?_) (fun c23 => absurd (by simp only [i_eq, (show (0 : Int32).toInt = 0 from rfl)] <;> omega) c23)
  refine aw_aload_n 0 dX8_entry_41 rfl rfl ?_
  refine aw_bipush (-4) dX8_entry_42 (by decide) ?_
  refine aw_eV [.int (-4)] [] lX8_70 vX8_refuse mX8_refuse dX8_entry_44 (X8_refuse4 hF) hF.1 rfl rfl rfl (Nat.le_of_ble_eq_true rfl) (by decide) (by decide) rfl (fun h20 q21 => ?_)
  exact aw_iret rfl dX8_entry_47 (by decide) (by decide) ⟨rfl, (kp_tr (kp_rf h) q21)⟩
set_option maxHeartbeats 4000000 in
theorem B3c {l : Launch} {G : xG} {h : List va_E} {c w s r u : Int32} (hM : xF9 G h) (hc : 0 ≤ c.toInt ∧ c.toInt < 4) (hw : 0 ≤ w.toInt ∧ w.toInt < 1048576) (h0 : w.toInt = 0) : CE l G yX9_entry cX9_entry 7 (some .int) 2 0 0 [.ref (G.1 + 88), .int c, .int w, .int s, .int r, .int u] h (some (.int (-4))) (fun _ => True) := by
  refine cm_of rfl (Nat.le_of_ble_eq_true rfl) [(0, .ref (G.1 + 88)), (1, .int c), (2, .int w), (3, .int s), (4, .int r), (5, .int u)] rfl ?_
  obtain ⟨c0, bc, ec⟩ := i_nat (N := 4) hc.1 hc.2
  have tc : c.toInt = (c0 : Int) := i_toNat ec (by omega)
  refine aw_iload_n 1 dX9_entry_0 rfl rfl ?_
  refine aw_iconst (4) dX9_entry_1 (by decide) ?_
  refine aw_dS [.int c, .int 4] [] lX9_126 sX9_isIn mX9_isIn dX9_entry_2 (X9_isIn4_t (by omega)) rfl (Nat.le_of_ble_eq_true rfl) (by decide) (by decide) rfl ?_
  refine aw_if_eq 18 dX9_entry_5 (by decide) (fun c5 => absurd c5 (by decide)) (fun c5 => ?_)
  refine aw_iload_n 2 dX9_entry_8 rfl rfl ?_
  refine aw_if_lt 18 dX9_entry_9 (by decide) (fun c9 => absurd c9 (by simp only [i_lt, (show (0 : Int32).toInt = 0 from rfl)] <;> omega)) (fun c9 => ?_)
  refine aw_iload_n 2 dX9_entry_12 rfl rfl ?_
  refine aw_ldc (1048576) kX9_141 dX9_entry_13 ?_
  refine aw_icmp_lt 24 dX9_entry_15 (by decide) (fun c15 => ?_) (fun c15 => absurd (by simp only [i_lt, (show (1048576 : Int32).toInt = 1048576 from rfl)] <;> omega) c15)
  refine aw_iload_n 2 dX9_entry_24 rfl rfl ?_
  refine aw_if_eq 43 dX9_entry_25 (by decide) (fun c25 => ?_) (fun c25 => absurd (by simp only [i_eq, (show (0 : Int32).toInt = 0 from rfl)] <;> omega) c25)
  refine aw_aload_n 0 dX9_entry_43 rfl rfl ?_
  refine aw_bipush (-4) dX9_entry_44 (by decide) ?_
  refine aw_eV [.int (-4)] [] lX9_130 vX9_refuse mX9_refuse dX9_entry_46 (X9_refuse4 hM) hM.1 rfl rfl rfl (Nat.le_of_ble_eq_true rfl) (by decide) (by decide) rfl (fun h22 q23 => ?_)
  exact aw_iret rfl dX9_entry_49 (by decide) (by decide) ⟨rfl, trivial⟩
set_option maxHeartbeats 4000000 in
theorem A3d {l : Launch} {G : xG} {h : List va_E} {c w s r u : Int32} (hF : xF8 G h) (hc : 0 ≤ c.toInt ∧ c.toInt < 4) (hw : 0 ≤ w.toInt ∧ w.toInt < 1048576) (h0 : w.toInt ≠ 0) (h1 : s.toInt < 1) : CE l G yX8_entry cX8_entry 6 (some .int) 3 0 0 [.ref (G.1 + 0), .int c, .int w, .int s, .int r, .int u] h (some (.int (-4))) (kp h) := by
  refine cm_of rfl (Nat.le_of_ble_eq_true rfl) [(0, .ref (G.1 + 0)), (1, .int c), (2, .int w), (3, .int s), (4, .int r), (5, .int u)] rfl ?_
  obtain ⟨c0, bc, ec⟩ := i_nat (N := 4) hc.1 hc.2
  have tc : c.toInt = (c0 : Int) := i_toNat ec (by omega)
  refine aw_iload_n 1 dX8_entry_0 rfl rfl ?_
  refine aw_dS [.int c] [] lX8_81 sX8_isCatalogue mX8_isCatalogue dX8_entry_1 (X8_isCatalogue_t (by omega)) rfl (Nat.le_of_ble_eq_true rfl) (by decide) (by decide) rfl ?_
  refine aw_if_eq 16 dX8_entry_4 (by decide) (fun c4 => absurd c4 (by decide)) (fun c4 => ?_)
  refine aw_iload_n 2 dX8_entry_7 rfl rfl ?_
  refine aw_bipush (20) dX8_entry_8 (by decide) ?_
  refine aw_dS [.int w, .int 20] [] lX8_87 sX8_hasOtherBits mX8_hasOtherBits dX8_entry_10 (X8_hasOtherBits20_f (by omega)) rfl (Nat.le_of_ble_eq_true rfl) (by decide) (by decide) rfl ?_
  refine aw_if_eq 22 dX8_entry_13 (by decide) (fun c13 => ?_) (fun c13 => absurd (by decide) c13)
  refine aw_iload_n 2 dX8_entry_22 rfl rfl ?_
  refine aw_if_eq 41 dX8_entry_23 (by decide) (fun c23 => absurd c23 (by simp only [i_eq, (show (0 : Int32).toInt = 0 from rfl)] <;> omega)) (fun c23 => ?_)
  refine aw_iload_n 3 dX8_entry_26 rfl rfl ?_
  refine aw_iconst (1) dX8_entry_27 (by decide) ?_
  refine aw_icmp_lt 41 dX8_entry_28 (by decide) (fun c28 => ?_) (fun c28 => absurd (by simp only [i_lt, (show (1 : Int32).toInt = 1 from rfl)] <;> omega) c28)
  refine aw_aload_n 0 dX8_entry_41 rfl rfl ?_
  refine aw_bipush (-4) dX8_entry_42 (by decide) ?_
  refine aw_eV [.int (-4)] [] lX8_70 vX8_refuse mX8_refuse dX8_entry_44 (X8_refuse4 hF) hF.1 rfl rfl rfl (Nat.le_of_ble_eq_true rfl) (by decide) (by decide) rfl (fun h24 q25 => ?_)
  exact aw_iret rfl dX8_entry_47 (by decide) (by decide) ⟨rfl, (kp_tr (kp_rf h) q25)⟩
set_option maxHeartbeats 4000000 in
theorem B3d {l : Launch} {G : xG} {h : List va_E} {c w s r u : Int32} (hM : xF9 G h) (hc : 0 ≤ c.toInt ∧ c.toInt < 4) (hw : 0 ≤ w.toInt ∧ w.toInt < 1048576) (h0 : w.toInt ≠ 0) (h1 : s.toInt < 1) : CE l G yX9_entry cX9_entry 7 (some .int) 2 0 0 [.ref (G.1 + 88), .int c, .int w, .int s, .int r, .int u] h (some (.int (-4))) (fun _ => True) := by
  refine cm_of rfl (Nat.le_of_ble_eq_true rfl) [(0, .ref (G.1 + 88)), (1, .int c), (2, .int w), (3, .int s), (4, .int r), (5, .int u)] rfl ?_
  obtain ⟨c0, bc, ec⟩ := i_nat (N := 4) hc.1 hc.2
  have tc : c.toInt = (c0 : Int) := i_toNat ec (by omega)
  refine aw_iload_n 1 dX9_entry_0 rfl rfl ?_
  refine aw_iconst (4) dX9_entry_1 (by decide) ?_
  refine aw_dS [.int c, .int 4] [] lX9_126 sX9_isIn mX9_isIn dX9_entry_2 (X9_isIn4_t (by omega)) rfl (Nat.le_of_ble_eq_true rfl) (by decide) (by decide) rfl ?_
  refine aw_if_eq 18 dX9_entry_5 (by decide) (fun c5 => absurd c5 (by decide)) (fun c5 => ?_)
  refine aw_iload_n 2 dX9_entry_8 rfl rfl ?_
  refine aw_if_lt 18 dX9_entry_9 (by decide) (fun c9 => absurd c9 (by simp only [i_lt, (show (0 : Int32).toInt = 0 from rfl)] <;> omega)) (fun c9 => ?_)
  refine aw_iload_n 2 dX9_entry_12 rfl rfl ?_
  refine aw_ldc (1048576) kX9_141 dX9_entry_13 ?_
  refine aw_icmp_lt 24 dX9_entry_15 (by decide) (fun c15 => ?_) (fun c15 => absurd (by simp only [i_lt, (show (1048576 : Int32).toInt = 1048576 from rfl)] <;> omega) c15)
  refine aw_iload_n 2 dX9_entry_24 rfl rfl ?_
  refine aw_if_eq 43 dX9_entry_25 (by decide) (fun c25 => absurd c25 (by simp only [i_eq, (show (0 : Int32).toInt = 0 from rfl)] <;> omega)) (fun c25 => ?_)
  refine aw_iload_n 3 dX9_entry_28 rfl rfl ?_
  refine aw_iconst (1) dX9_entry_29 (by decide) ?_
  refine aw_icmp_lt 43 dX9_entry_30 (by decide) (fun c30 => ?_) (fun c30 => absurd (by simp only [i_lt, (show (1 : Int32).toInt = 1 from rfl)] <;> omega) c30)
  refine aw_aload_n 0 dX9_entry_43 rfl rfl ?_
  refine aw_bipush (-4) dX9_entry_44 (by decide) ?_
  refine aw_eV [.int (-4)] [] lX9_130 vX9_refuse mX9_refuse dX9_entry_46 (X9_refuse4 hM) hM.1 rfl rfl rfl (Nat.le_of_ble_eq_true rfl) (by decide) (by decide) rfl (fun h26 q27 => ?_)
  exact aw_iret rfl dX9_entry_49 (by decide) (by decide) ⟨rfl, trivial⟩
set_option maxHeartbeats 4000000 in
theorem A3e {l : Launch} {G : xG} {h : List va_E} {c w s r u : Int32} (hF : xF8 G h) (hc : 0 ≤ c.toInt ∧ c.toInt < 4) (hw : 0 ≤ w.toInt ∧ w.toInt < 1048576) (h0 : w.toInt ≠ 0) (h1 : 1 ≤ s.toInt) (h2 : r.toInt < 0) : CE l G yX8_entry cX8_entry 6 (some .int) 3 0 0 [.ref (G.1 + 0), .int c, .int w, .int s, .int r, .int u] h (some (.int (-4))) (kp h) := by
  refine cm_of rfl (Nat.le_of_ble_eq_true rfl) [(0, .ref (G.1 + 0)), (1, .int c), (2, .int w), (3, .int s), (4, .int r), (5, .int u)] rfl ?_
  obtain ⟨c0, bc, ec⟩ := i_nat (N := 4) hc.1 hc.2
  have tc : c.toInt = (c0 : Int) := i_toNat ec (by omega)
  refine aw_iload_n 1 dX8_entry_0 rfl rfl ?_
  refine aw_dS [.int c] [] lX8_81 sX8_isCatalogue mX8_isCatalogue dX8_entry_1 (X8_isCatalogue_t (by omega)) rfl (Nat.le_of_ble_eq_true rfl) (by decide) (by decide) rfl ?_
  refine aw_if_eq 16 dX8_entry_4 (by decide) (fun c4 => absurd c4 (by decide)) (fun c4 => ?_)
  refine aw_iload_n 2 dX8_entry_7 rfl rfl ?_
  refine aw_bipush (20) dX8_entry_8 (by decide) ?_
  refine aw_dS [.int w, .int 20] [] lX8_87 sX8_hasOtherBits mX8_hasOtherBits dX8_entry_10 (X8_hasOtherBits20_f (by omega)) rfl (Nat.le_of_ble_eq_true rfl) (by decide) (by decide) rfl ?_
  refine aw_if_eq 22 dX8_entry_13 (by decide) (fun c13 => ?_) (fun c13 => absurd (by decide) c13)
  refine aw_iload_n 2 dX8_entry_22 rfl rfl ?_
  refine aw_if_eq 41 dX8_entry_23 (by decide) (fun c23 => absurd c23 (by simp only [i_eq, (show (0 : Int32).toInt = 0 from rfl)] <;> omega)) (fun c23 => ?_)
  refine aw_iload_n 3 dX8_entry_26 rfl rfl ?_
  refine aw_iconst (1) dX8_entry_27 (by decide) ?_
  refine aw_icmp_lt 41 dX8_entry_28 (by decide) (fun c28 => absurd c28 (by simp only [i_lt, (show (1 : Int32).toInt = 1 from rfl)] <;> omega)) (fun c28 => ?_)
  refine aw_iload 4 dX8_entry_31 rfl ?_
  refine aw_if_lt 41 dX8_entry_33 (by decide) (fun c33 => ?_) (fun c33 => absurd (by simp only [i_lt, (show (0 : Int32).toInt = 0 from rfl)] <;> omega) c33)
  refine aw_aload_n 0 dX8_entry_41 rfl rfl ?_
  refine aw_bipush (-4) dX8_entry_42 (by decide) ?_
  refine aw_eV [.int (-4)] [] lX8_70 vX8_refuse mX8_refuse dX8_entry_44 (X8_refuse4 hF) hF.1 rfl rfl rfl (Nat.le_of_ble_eq_true rfl) (by decide) (by decide) rfl (fun h28 q29 => ?_)
  exact aw_iret rfl dX8_entry_47 (by decide) (by decide) ⟨rfl, (kp_tr (kp_rf h) q29)⟩
set_option maxHeartbeats 4000000 in
theorem B3e {l : Launch} {G : xG} {h : List va_E} {c w s r u : Int32} (hM : xF9 G h) (hc : 0 ≤ c.toInt ∧ c.toInt < 4) (hw : 0 ≤ w.toInt ∧ w.toInt < 1048576) (h0 : w.toInt ≠ 0) (h1 : 1 ≤ s.toInt) (h2 : r.toInt < 0) : CE l G yX9_entry cX9_entry 7 (some .int) 2 0 0 [.ref (G.1 + 88), .int c, .int w, .int s, .int r, .int u] h (some (.int (-4))) (fun _ => True) := by
  refine cm_of rfl (Nat.le_of_ble_eq_true rfl) [(0, .ref (G.1 + 88)), (1, .int c), (2, .int w), (3, .int s), (4, .int r), (5, .int u)] rfl ?_
  obtain ⟨c0, bc, ec⟩ := i_nat (N := 4) hc.1 hc.2
  have tc : c.toInt = (c0 : Int) := i_toNat ec (by omega)
  refine aw_iload_n 1 dX9_entry_0 rfl rfl ?_
  refine aw_iconst (4) dX9_entry_1 (by decide) ?_
  refine aw_dS [.int c, .int 4] [] lX9_126 sX9_isIn mX9_isIn dX9_entry_2 (X9_isIn4_t (by omega)) rfl (Nat.le_of_ble_eq_true rfl) (by decide) (by decide) rfl ?_
  refine aw_if_eq 18 dX9_entry_5 (by decide) (fun c5 => absurd c5 (by decide)) (fun c5 => ?_)
  refine aw_iload_n 2 dX9_entry_8 rfl rfl ?_
  refine aw_if_lt 18 dX9_entry_9 (by decide) (fun c9 => absurd c9 (by simp only [i_lt, (show (0 : Int32).toInt = 0 from rfl)] <;> omega)) (fun c9 => ?_)
  refine aw_iload_n 2 dX9_entry_12 rfl rfl ?_
  refine aw_ldc (1048576) kX9_141 dX9_entry_13 ?_
  refine aw_icmp_lt 24 dX9_entry_15 (by decide) (fun c15 => ?_) (fun c15 => absurd (by simp only [i_lt, (show (1048576 : Int32).toInt = 1048576 from rfl)] <;> omega) c15)
  refine aw_iload_n 2 dX9_entry_24 rfl rfl ?_
  refine aw_if_eq 43 dX9_entry_25 (by decide) (fun c25 => absurd c25 (by simp only [i_eq, (show (0 : Int32).toInt = 0 from rfl)] <;> omega)) (fun c25 => ?_)
  refine aw_iload_n 3 dX9_entry_28 rfl rfl ?_
  refine aw_iconst (1) dX9_entry_29 (by decide) ?_
  refine aw_icmp_lt 43 dX9_entry_30 (by decide) (fun c30 => absurd c30 (by simp only [i_lt, (show (1 : Int32).toInt = 1 from rfl)] <;> omega)) (fun c30 => ?_)
  refine aw_iload 4 dX9_entry_33 rfl ?_
  refine aw_if_lt 43 dX9_entry_35 (by decide) (fun c35 => ?_) (fun c35 => absurd (by simp only [i_lt, (show (0 : Int32).toInt = 0 from rfl)] <;> omega) c35)
  refine aw_aload_n 0 dX9_entry_43 rfl rfl ?_
  refine aw_bipush (-4) dX9_entry_44 (by decide) ?_
  refine aw_eV [.int (-4)] [] lX9_130 vX9_refuse mX9_refuse dX9_entry_46 (X9_refuse4 hM) hM.1 rfl rfl rfl (Nat.le_of_ble_eq_true rfl) (by decide) (by decide) rfl (fun h30 q31 => ?_)
  exact aw_iret rfl dX9_entry_49 (by decide) (by decide) ⟨rfl, trivial⟩
set_option maxHeartbeats 4000000 in
theorem A3f {l : Launch} {G : xG} {h : List va_E} {c w s r u : Int32} (hF : xF8 G h) (hc : 0 ≤ c.toInt ∧ c.toInt < 4) (hw : 0 ≤ w.toInt ∧ w.toInt < 1048576) (h0 : w.toInt ≠ 0) (h1 : 1 ≤ s.toInt) (h2 : 0 ≤ r.toInt) (h3 : u.toInt < 0) : CE l G yX8_entry cX8_entry 6 (some .int) 3 0 0 [.ref (G.1 + 0), .int c, .int w, .int s, .int r, .int u] h (some (.int (-4))) (kp h) := by
  refine cm_of rfl (Nat.le_of_ble_eq_true rfl) [(0, .ref (G.1 + 0)), (1, .int c), (2, .int w), (3, .int s), (4, .int r), (5, .int u)] rfl ?_
  obtain ⟨c0, bc, ec⟩ := i_nat (N := 4) hc.1 hc.2
  have tc : c.toInt = (c0 : Int) := i_toNat ec (by omega)
  refine aw_iload_n 1 dX8_entry_0 rfl rfl ?_
  refine aw_dS [.int c] [] lX8_81 sX8_isCatalogue mX8_isCatalogue dX8_entry_1 (X8_isCatalogue_t (by omega)) rfl (Nat.le_of_ble_eq_true rfl) (by decide) (by decide) rfl ?_
  refine aw_if_eq 16 dX8_entry_4 (by decide) (fun c4 => absurd c4 (by decide)) (fun c4 => ?_)
  refine aw_iload_n 2 dX8_entry_7 rfl rfl ?_
  refine aw_bipush (20) dX8_entry_8 (by decide) ?_
  refine aw_dS [.int w, .int 20] [] lX8_87 sX8_hasOtherBits mX8_hasOtherBits dX8_entry_10 (X8_hasOtherBits20_f (by omega)) rfl (Nat.le_of_ble_eq_true rfl) (by decide) (by decide) rfl ?_
  refine aw_if_eq 22 dX8_entry_13 (by decide) (fun c13 => ?_) (fun c13 => absurd (by decide) c13)
  refine aw_iload_n 2 dX8_entry_22 rfl rfl ?_
  refine aw_if_eq 41 dX8_entry_23 (by decide) (fun c23 => absurd c23 (by simp only [i_eq, (show (0 : Int32).toInt = 0 from rfl)] <;> omega)) (fun c23 => ?_)
  refine aw_iload_n 3 dX8_entry_26 rfl rfl ?_
  refine aw_iconst (1) dX8_entry_27 (by decide) ?_
  refine aw_icmp_lt 41 dX8_entry_28 (by decide) (fun c28 => absurd c28 (by simp only [i_lt, (show (1 : Int32).toInt = 1 from rfl)] <;> omega)) (fun c28 => ?_)
  refine aw_iload 4 dX8_entry_31 rfl ?_
  refine aw_if_lt 41 dX8_entry_33 (by decide) (fun c33 => absurd c33 (by simp only [i_lt, (show (0 : Int32).toInt = 0 from rfl)] <;> omega)) (fun c33 => ?_)
  refine aw_iload 5 dX8_entry_36 rfl ?_
  refine aw_if_ge 48 dX8_entry_38 (by decide) (fun c38 => absurd c38 (by simp only [i_le, (show (0 : Int32).toInt = 0 from rfl)] <;> omega)) (fun c38 => ?_)
  refine aw_aload_n 0 dX8_entry_41 rfl rfl ?_
  refine aw_bipush (-4) dX8_entry_42 (by decide) ?_
  refine aw_eV [.int (-4)] [] lX8_70 vX8_refuse mX8_refuse dX8_entry_44 (X8_refuse4 hF) hF.1 rfl rfl rfl (Nat.le_of_ble_eq_true rfl) (by decide) (by decide) rfl (fun h32 q33 => ?_)
  exact aw_iret rfl dX8_entry_47 (by decide) (by decide) ⟨rfl, (kp_tr (kp_rf h) q33)⟩
set_option maxHeartbeats 4000000 in
theorem B3f {l : Launch} {G : xG} {h : List va_E} {c w s r u : Int32} (hM : xF9 G h) (hc : 0 ≤ c.toInt ∧ c.toInt < 4) (hw : 0 ≤ w.toInt ∧ w.toInt < 1048576) (h0 : w.toInt ≠ 0) (h1 : 1 ≤ s.toInt) (h2 : 0 ≤ r.toInt) (h3 : u.toInt < 0) : CE l G yX9_entry cX9_entry 7 (some .int) 2 0 0 [.ref (G.1 + 88), .int c, .int w, .int s, .int r, .int u] h (some (.int (-4))) (fun _ => True) := by
  refine cm_of rfl (Nat.le_of_ble_eq_true rfl) [(0, .ref (G.1 + 88)), (1, .int c), (2, .int w), (3, .int s), (4, .int r), (5, .int u)] rfl ?_
  obtain ⟨c0, bc, ec⟩ := i_nat (N := 4) hc.1 hc.2
  have tc : c.toInt = (c0 : Int) := i_toNat ec (by omega)
  refine aw_iload_n 1 dX9_entry_0 rfl rfl ?_
  refine aw_iconst (4) dX9_entry_1 (by decide) ?_
  refine aw_dS [.int c, .int 4] [] lX9_126 sX9_isIn mX9_isIn dX9_entry_2 (X9_isIn4_t (by omega)) rfl (Nat.le_of_ble_eq_true rfl) (by decide) (by decide) rfl ?_
  refine aw_if_eq 18 dX9_entry_5 (by decide) (fun c5 => absurd c5 (by decide)) (fun c5 => ?_)
  refine aw_iload_n 2 dX9_entry_8 rfl rfl ?_
  refine aw_if_lt 18 dX9_entry_9 (by decide) (fun c9 => absurd c9 (by simp only [i_lt, (show (0 : Int32).toInt = 0 from rfl)] <;> omega)) (fun c9 => ?_)
  refine aw_iload_n 2 dX9_entry_12 rfl rfl ?_
  refine aw_ldc (1048576) kX9_141 dX9_entry_13 ?_
  refine aw_icmp_lt 24 dX9_entry_15 (by decide) (fun c15 => ?_) (fun c15 => absurd (by simp only [i_lt, (show (1048576 : Int32).toInt = 1048576 from rfl)] <;> omega) c15)
  refine aw_iload_n 2 dX9_entry_24 rfl rfl ?_
  refine aw_if_eq 43 dX9_entry_25 (by decide) (fun c25 => absurd c25 (by simp only [i_eq, (show (0 : Int32).toInt = 0 from rfl)] <;> omega)) (fun c25 => ?_)
  refine aw_iload_n 3 dX9_entry_28 rfl rfl ?_
  refine aw_iconst (1) dX9_entry_29 (by decide) ?_
  refine aw_icmp_lt 43 dX9_entry_30 (by decide) (fun c30 => absurd c30 (by simp only [i_lt, (show (1 : Int32).toInt = 1 from rfl)] <;> omega)) (fun c30 => ?_)
  refine aw_iload 4 dX9_entry_33 rfl ?_
  refine aw_if_lt 43 dX9_entry_35 (by decide) (fun c35 => absurd c35 (by simp only [i_lt, (show (0 : Int32).toInt = 0 from rfl)] <;> omega)) (fun c35 => ?_)
  refine aw_iload 5 dX9_entry_38 rfl ?_
  refine aw_if_ge 50 dX9_entry_40 (by decide) (fun c40 => absurd c40 (by simp only [i_le, (show (0 : Int32).toInt = 0 from rfl)] <;> omega)) (fun c40 => ?_)
  refine aw_aload_n 0 dX9_entry_43 rfl rfl ?_
  refine aw_bipush (-4) dX9_entry_44 (by decide) ?_
  refine aw_eV [.int (-4)] [] lX9_130 vX9_refuse mX9_refuse dX9_entry_46 (X9_refuse4 hM) hM.1 rfl rfl rfl (Nat.le_of_ble_eq_true rfl) (by decide) (by decide) rfl (fun h34 q35 => ?_)
  exact aw_iret rfl dX9_entry_49 (by decide) (by decide) ⟨rfl, trivial⟩
set_option maxHeartbeats 4000000 in
theorem A3g {l : Launch} {G : xG} {h : List va_E} {c w s r u : Int32} (hF : xF8 G h) (hc : 0 ≤ c.toInt ∧ c.toInt < 4) (hw : 0 ≤ w.toInt ∧ w.toInt < 1048576) (h0 : w.toInt ≠ 0) (h1 : 200 < s.toInt) (h2 : 0 ≤ r.toInt) (h3 : 0 ≤ u.toInt) : CE l G yX8_entry cX8_entry 6 (some .int) 3 0 0 [.ref (G.1 + 0), .int c, .int w, .int s, .int r, .int u] h (some (.int (-6))) (kp h) := by
  refine cm_of rfl (Nat.le_of_ble_eq_true rfl) [(0, .ref (G.1 + 0)), (1, .int c), (2, .int w), (3, .int s), (4, .int r), (5, .int u)] rfl ?_
  obtain ⟨c0, bc, ec⟩ := i_nat (N := 4) hc.1 hc.2
  have tc : c.toInt = (c0 : Int) := i_toNat ec (by omega)
  refine aw_iload_n 1 dX8_entry_0 rfl rfl ?_
  refine aw_dS [.int c] [] lX8_81 sX8_isCatalogue mX8_isCatalogue dX8_entry_1 (X8_isCatalogue_t (by omega)) rfl (Nat.le_of_ble_eq_true rfl) (by decide) (by decide) rfl ?_
  refine aw_if_eq 16 dX8_entry_4 (by decide) (fun c4 => absurd c4 (by decide)) (fun c4 => ?_)
  refine aw_iload_n 2 dX8_entry_7 rfl rfl ?_
  refine aw_bipush (20) dX8_entry_8 (by decide) ?_
  refine aw_dS [.int w, .int 20] [] lX8_87 sX8_hasOtherBits mX8_hasOtherBits dX8_entry_10 (X8_hasOtherBits20_f (by omega)) rfl (Nat.le_of_ble_eq_true rfl) (by decide) (by decide) rfl ?_
  refine aw_if_eq 22 dX8_entry_13 (by decide) (fun c13 => ?_) (fun c13 => absurd (by decide) c13)
  refine aw_iload_n 2 dX8_entry_22 rfl rfl ?_
  refine aw_if_eq 41 dX8_entry_23 (by decide) (fun c23 => absurd c23 (by simp only [i_eq, (show (0 : Int32).toInt = 0 from rfl)] <;> omega)) (fun c23 => ?_)
  refine aw_iload_n 3 dX8_entry_26 rfl rfl ?_
  refine aw_iconst (1) dX8_entry_27 (by decide) ?_
  refine aw_icmp_lt 41 dX8_entry_28 (by decide) (fun c28 => absurd c28 (by simp only [i_lt, (show (1 : Int32).toInt = 1 from rfl)] <;> omega)) (fun c28 => ?_)
  refine aw_iload 4 dX8_entry_31 rfl ?_
  refine aw_if_lt 41 dX8_entry_33 (by decide) (fun c33 => absurd c33 (by simp only [i_lt, (show (0 : Int32).toInt = 0 from rfl)] <;> omega)) (fun c33 => ?_)
  refine aw_iload 5 dX8_entry_36 rfl ?_
  refine aw_if_ge 48 dX8_entry_38 (by decide) (fun c38 => ?_) (fun c38 => absurd (by simp only [i_le, (show (0 : Int32).toInt = 0 from rfl)] <;> omega) c38)
  refine aw_iload_n 3 dX8_entry_48 rfl rfl ?_
  refine aw_sipush (200) dX8_entry_49 (by decide) ?_
  refine aw_icmp_gt 83 dX8_entry_52 (by decide) (fun c52 => ?_) (fun c52 => absurd (by simp only [i_lt, (show (200 : Int32).toInt = 200 from rfl)] <;> omega) c52)
  refine aw_aload_n 0 dX8_entry_83 rfl rfl ?_
  refine aw_bipush (-6) dX8_entry_84 (by decide) ?_
  refine aw_eV [.int (-6)] [] lX8_70 vX8_refuse mX8_refuse dX8_entry_86 (X8_refuse6 hF) hF.1 rfl rfl rfl (Nat.le_of_ble_eq_true rfl) (by decide) (by decide) rfl (fun h36 q37 => ?_)
  exact aw_iret rfl dX8_entry_89 (by decide) (by decide) ⟨rfl, (kp_tr (kp_rf h) q37)⟩
set_option maxHeartbeats 4000000 in
theorem B3g {l : Launch} {G : xG} {h : List va_E} {c w s r u : Int32} (hM : xF9 G h) (hc : 0 ≤ c.toInt ∧ c.toInt < 4) (hw : 0 ≤ w.toInt ∧ w.toInt < 1048576) (h0 : w.toInt ≠ 0) (h1 : 200 < s.toInt) (h2 : 0 ≤ r.toInt) (h3 : 0 ≤ u.toInt) : CE l G yX9_entry cX9_entry 7 (some .int) 2 0 0 [.ref (G.1 + 88), .int c, .int w, .int s, .int r, .int u] h (some (.int (-6))) (fun _ => True) := by
  refine cm_of rfl (Nat.le_of_ble_eq_true rfl) [(0, .ref (G.1 + 88)), (1, .int c), (2, .int w), (3, .int s), (4, .int r), (5, .int u)] rfl ?_
  obtain ⟨c0, bc, ec⟩ := i_nat (N := 4) hc.1 hc.2
  have tc : c.toInt = (c0 : Int) := i_toNat ec (by omega)
  refine aw_iload_n 1 dX9_entry_0 rfl rfl ?_
  refine aw_iconst (4) dX9_entry_1 (by decide) ?_
  refine aw_dS [.int c, .int 4] [] lX9_126 sX9_isIn mX9_isIn dX9_entry_2 (X9_isIn4_t (by omega)) rfl (Nat.le_of_ble_eq_true rfl) (by decide) (by decide) rfl ?_
  refine aw_if_eq 18 dX9_entry_5 (by decide) (fun c5 => absurd c5 (by decide)) (fun c5 => ?_)
  refine aw_iload_n 2 dX9_entry_8 rfl rfl ?_
  refine aw_if_lt 18 dX9_entry_9 (by decide) (fun c9 => absurd c9 (by simp only [i_lt, (show (0 : Int32).toInt = 0 from rfl)] <;> omega)) (fun c9 => ?_)
  refine aw_iload_n 2 dX9_entry_12 rfl rfl ?_
  refine aw_ldc (1048576) kX9_141 dX9_entry_13 ?_
  refine aw_icmp_lt 24 dX9_entry_15 (by decide) (fun c15 => ?_) (fun c15 => absurd (by simp only [i_lt, (show (1048576 : Int32).toInt = 1048576 from rfl)] <;> omega) c15)
  refine aw_iload_n 2 dX9_entry_24 rfl rfl ?_
  refine aw_if_eq 43 dX9_entry_25 (by decide) (fun c25 => absurd c25 (by simp only [i_eq, (show (0 : Int32).toInt = 0 from rfl)] <;> omega)) (fun c25 => ?_)
  refine aw_iload_n 3 dX9_entry_28 rfl rfl ?_
  refine aw_iconst (1) dX9_entry_29 (by decide) ?_
  refine aw_icmp_lt 43 dX9_entry_30 (by decide) (fun c30 => absurd c30 (by simp only [i_lt, (show (1 : Int32).toInt = 1 from rfl)] <;> omega)) (fun c30 => ?_)
  refine aw_iload 4 dX9_entry_33 rfl ?_
  refine aw_if_lt 43 dX9_entry_35 (by decide) (fun c35 => absurd c35 (by simp only [i_lt, (show (0 : Int32).toInt = 0 from rfl)] <;> omega)) (fun c35 => ?_)
  refine aw_iload 5 dX9_entry_38 rfl ?_
  refine aw_if_ge 50 dX9_entry_40 (by decide) (fun c40 => ?_) (fun c40 => absurd (by simp only [i_le, (show (0 : Int32).toInt = 0 from rfl)] <;> omega) c40)
  refine aw_iload_n 3 dX9_entry_50 rfl rfl ?_
  refine aw_sipush (200) dX9_entry_51 (by decide) ?_
  refine aw_icmp_gt 82 dX9_entry_54 (by decide) (fun c54 => ?_) (fun c54 => absurd (by simp only [i_lt, (show (200 : Int32).toInt = 200 from rfl)] <;> omega) c54)
  refine aw_aload_n 0 dX9_entry_82 rfl rfl ?_
  refine aw_bipush (-6) dX9_entry_83 (by decide) ?_
  refine aw_eV [.int (-6)] [] lX9_130 vX9_refuse mX9_refuse dX9_entry_85 (X9_refuse6 hM) hM.1 rfl rfl rfl (Nat.le_of_ble_eq_true rfl) (by decide) (by decide) rfl (fun h38 q39 => ?_)
  exact aw_iret rfl dX9_entry_88 (by decide) (by decide) ⟨rfl, trivial⟩
set_option maxHeartbeats 4000000 in
theorem A3h {l : Launch} {G : xG} {h : List va_E} {c w s r u : Int32} (hF : xF8 G h) (hc : 0 ≤ c.toInt ∧ c.toInt < 4) (hw : 0 ≤ w.toInt ∧ w.toInt < 1048576) (h0 : w.toInt ≠ 0) (h1 : 1 ≤ s.toInt ∧ s.toInt ≤ 200) (h2 : 9 < r.toInt) (h3 : 0 ≤ u.toInt) : CE l G yX8_entry cX8_entry 6 (some .int) 3 0 0 [.ref (G.1 + 0), .int c, .int w, .int s, .int r, .int u] h (some (.int (-6))) (kp h) := by
  refine cm_of rfl (Nat.le_of_ble_eq_true rfl) [(0, .ref (G.1 + 0)), (1, .int c), (2, .int w), (3, .int s), (4, .int r), (5, .int u)] rfl ?_
  obtain ⟨c0, bc, ec⟩ := i_nat (N := 4) hc.1 hc.2
  have tc : c.toInt = (c0 : Int) := i_toNat ec (by omega)
  refine aw_iload_n 1 dX8_entry_0 rfl rfl ?_
  refine aw_dS [.int c] [] lX8_81 sX8_isCatalogue mX8_isCatalogue dX8_entry_1 (X8_isCatalogue_t (by omega)) rfl (Nat.le_of_ble_eq_true rfl) (by decide) (by decide) rfl ?_
  refine aw_if_eq 16 dX8_entry_4 (by decide) (fun c4 => absurd c4 (by decide)) (fun c4 => ?_)
  refine aw_iload_n 2 dX8_entry_7 rfl rfl ?_
  refine aw_bipush (20) dX8_entry_8 (by decide) ?_
  refine aw_dS [.int w, .int 20] [] lX8_87 sX8_hasOtherBits mX8_hasOtherBits dX8_entry_10 (X8_hasOtherBits20_f (by omega)) rfl (Nat.le_of_ble_eq_true rfl) (by decide) (by decide) rfl ?_
  refine aw_if_eq 22 dX8_entry_13 (by decide) (fun c13 => ?_) (fun c13 => absurd (by decide) c13)
  refine aw_iload_n 2 dX8_entry_22 rfl rfl ?_
  refine aw_if_eq 41 dX8_entry_23 (by decide) (fun c23 => absurd c23 (by simp only [i_eq, (show (0 : Int32).toInt = 0 from rfl)] <;> omega)) (fun c23 => ?_)
  refine aw_iload_n 3 dX8_entry_26 rfl rfl ?_
  refine aw_iconst (1) dX8_entry_27 (by decide) ?_
  refine aw_icmp_lt 41 dX8_entry_28 (by decide) (fun c28 => absurd c28 (by simp only [i_lt, (show (1 : Int32).toInt = 1 from rfl)] <;> omega)) (fun c28 => ?_)
  refine aw_iload 4 dX8_entry_31 rfl ?_
  refine aw_if_lt 41 dX8_entry_33 (by decide) (fun c33 => absurd c33 (by simp only [i_lt, (show (0 : Int32).toInt = 0 from rfl)] <;> omega)) (fun c33 => ?_)
  refine aw_iload 5 dX8_entry_36 rfl ?_
  refine aw_if_ge 48 dX8_entry_38 (by decide) (fun c38 => ?_) (fun c38 => absurd (by simp only [i_le, (show (0 : Int32).toInt = 0 from rfl)] <;> omega) c38)
  refine aw_iload_n 3 dX8_entry_48 rfl rfl ?_
  refine aw_sipush (200) dX8_entry_49 (by decide) ?_
  refine aw_icmp_gt 83 dX8_entry_52 (by decide) (fun c52 => absurd c52 (by simp only [i_lt, (show (200 : Int32).toInt = 200 from rfl)] <;> omega)) (fun c52 => ?_)
  refine aw_iload 4 dX8_entry_55 rfl ?_
  refine aw_bipush (9) dX8_entry_57 (by decide) ?_
  refine aw_icmp_gt 83 dX8_entry_59 (by decide) (fun c59 => ?_) (fun c59 => absurd (by simp only [i_lt, (show (9 : Int32).toInt = 9 from rfl)] <;> omega) c59)
  refine aw_aload_n 0 dX8_entry_83 rfl rfl ?_
  refine aw_bipush (-6) dX8_entry_84 (by decide) ?_
  refine aw_eV [.int (-6)] [] lX8_70 vX8_refuse mX8_refuse dX8_entry_86 (X8_refuse6 hF) hF.1 rfl rfl rfl (Nat.le_of_ble_eq_true rfl) (by decide) (by decide) rfl (fun h40 q41 => ?_)
  exact aw_iret rfl dX8_entry_89 (by decide) (by decide) ⟨rfl, (kp_tr (kp_rf h) q41)⟩
set_option maxHeartbeats 4000000 in
theorem B3h {l : Launch} {G : xG} {h : List va_E} {c w s r u : Int32} (hM : xF9 G h) (hc : 0 ≤ c.toInt ∧ c.toInt < 4) (hw : 0 ≤ w.toInt ∧ w.toInt < 1048576) (h0 : w.toInt ≠ 0) (h1 : 1 ≤ s.toInt ∧ s.toInt ≤ 200) (h2 : 9 < r.toInt) (h3 : 0 ≤ u.toInt) : CE l G yX9_entry cX9_entry 7 (some .int) 2 0 0 [.ref (G.1 + 88), .int c, .int w, .int s, .int r, .int u] h (some (.int (-6))) (fun _ => True) := by
  refine cm_of rfl (Nat.le_of_ble_eq_true rfl) [(0, .ref (G.1 + 88)), (1, .int c), (2, .int w), (3, .int s), (4, .int r), (5, .int u)] rfl ?_
  obtain ⟨c0, bc, ec⟩ := i_nat (N := 4) hc.1 hc.2
  have tc : c.toInt = (c0 : Int) := i_toNat ec (by omega)
  refine aw_iload_n 1 dX9_entry_0 rfl rfl ?_
  refine aw_iconst (4) dX9_entry_1 (by decide) ?_
  refine aw_dS [.int c, .int 4] [] lX9_126 sX9_isIn mX9_isIn dX9_entry_2 (X9_isIn4_t (by omega)) rfl (Nat.le_of_ble_eq_true rfl) (by decide) (by decide) rfl ?_
  refine aw_if_eq 18 dX9_entry_5 (by decide) (fun c5 => absurd c5 (by decide)) (fun c5 => ?_)
  refine aw_iload_n 2 dX9_entry_8 rfl rfl ?_
  refine aw_if_lt 18 dX9_entry_9 (by decide) (fun c9 => absurd c9 (by simp only [i_lt, (show (0 : Int32).toInt = 0 from rfl)] <;> omega)) (fun c9 => ?_)
  refine aw_iload_n 2 dX9_entry_12 rfl rfl ?_
  refine aw_ldc (1048576) kX9_141 dX9_entry_13 ?_
  refine aw_icmp_lt 24 dX9_entry_15 (by decide) (fun c15 => ?_) (fun c15 => absurd (by simp only [i_lt, (show (1048576 : Int32).toInt = 1048576 from rfl)] <;> omega) c15)
  refine aw_iload_n 2 dX9_entry_24 rfl rfl ?_
  refine aw_if_eq 43 dX9_entry_25 (by decide) (fun c25 => absurd c25 (by simp only [i_eq, (show (0 : Int32).toInt = 0 from rfl)] <;> omega)) (fun c25 => ?_)
  refine aw_iload_n 3 dX9_entry_28 rfl rfl ?_
  refine aw_iconst (1) dX9_entry_29 (by decide) ?_
  refine aw_icmp_lt 43 dX9_entry_30 (by decide) (fun c30 => absurd c30 (by simp only [i_lt, (show (1 : Int32).toInt = 1 from rfl)] <;> omega)) (fun c30 => ?_)
  refine aw_iload 4 dX9_entry_33 rfl ?_
  refine aw_if_lt 43 dX9_entry_35 (by decide) (fun c35 => absurd c35 (by simp only [i_lt, (show (0 : Int32).toInt = 0 from rfl)] <;> omega)) (fun c35 => ?_)
  refine aw_iload 5 dX9_entry_38 rfl ?_
  refine aw_if_ge 50 dX9_entry_40 (by decide) (fun c40 => ?_) (fun c40 => absurd (by simp only [i_le, (show (0 : Int32).toInt = 0 from rfl)] <;> omega) c40)
  refine aw_iload_n 3 dX9_entry_50 rfl rfl ?_
  refine aw_sipush (200) dX9_entry_51 (by decide) ?_
  refine aw_icmp_gt 82 dX9_entry_54 (by decide) (fun c54 => absurd c54 (by simp only [i_lt, (show (200 : Int32).toInt = 200 from rfl)] <;> omega)) (fun c54 => ?_)
  refine aw_iload 4 dX9_entry_57 rfl ?_
  refine aw_bipush (9) dX9_entry_59 (by decide) ?_
  refine aw_icmp_gt 82 dX9_entry_61 (by decide) (fun c61 => ?_) (fun c61 => absurd (by simp only [i_lt, (show (9 : Int32).toInt = 9 from rfl)] <;> omega) c61)
  refine aw_aload_n 0 dX9_entry_82 rfl rfl ?_
  refine aw_bipush (-6) dX9_entry_83 (by decide) ?_
  refine aw_eV [.int (-6)] [] lX9_130 vX9_refuse mX9_refuse dX9_entry_85 (X9_refuse6 hM) hM.1 rfl rfl rfl (Nat.le_of_ble_eq_true rfl) (by decide) (by decide) rfl (fun h42 q43 => ?_)
  exact aw_iret rfl dX9_entry_88 (by decide) (by decide) ⟨rfl, trivial⟩
set_option maxHeartbeats 4000000 in
theorem A3i {l : Launch} {G : xG} {h : List va_E} {c w s r u : Int32} (hF : xF8 G h) (hc : 0 ≤ c.toInt ∧ c.toInt < 4) (hw : 0 ≤ w.toInt ∧ w.toInt < 1048576) (h0 : w.toInt ≠ 0) (h1 : 1 ≤ s.toInt ∧ s.toInt ≤ 200) (h2 : 0 ≤ r.toInt ∧ r.toInt ≤ 9) (h3 : 99 < u.toInt) : CE l G yX8_entry cX8_entry 6 (some .int) 3 0 0 [.ref (G.1 + 0), .int c, .int w, .int s, .int r, .int u] h (some (.int (-6))) (kp h) := by
  refine cm_of rfl (Nat.le_of_ble_eq_true rfl) [(0, .ref (G.1 + 0)), (1, .int c), (2, .int w), (3, .int s), (4, .int r), (5, .int u)] rfl ?_
  obtain ⟨c0, bc, ec⟩ := i_nat (N := 4) hc.1 hc.2
  have tc : c.toInt = (c0 : Int) := i_toNat ec (by omega)
  refine aw_iload_n 1 dX8_entry_0 rfl rfl ?_
  refine aw_dS [.int c] [] lX8_81 sX8_isCatalogue mX8_isCatalogue dX8_entry_1 (X8_isCatalogue_t (by omega)) rfl (Nat.le_of_ble_eq_true rfl) (by decide) (by decide) rfl ?_
  refine aw_if_eq 16 dX8_entry_4 (by decide) (fun c4 => absurd c4 (by decide)) (fun c4 => ?_)
  refine aw_iload_n 2 dX8_entry_7 rfl rfl ?_
  refine aw_bipush (20) dX8_entry_8 (by decide) ?_
  refine aw_dS [.int w, .int 20] [] lX8_87 sX8_hasOtherBits mX8_hasOtherBits dX8_entry_10 (X8_hasOtherBits20_f (by omega)) rfl (Nat.le_of_ble_eq_true rfl) (by decide) (by decide) rfl ?_
  refine aw_if_eq 22 dX8_entry_13 (by decide) (fun c13 => ?_) (fun c13 => absurd (by decide) c13)
  refine aw_iload_n 2 dX8_entry_22 rfl rfl ?_
  refine aw_if_eq 41 dX8_entry_23 (by decide) (fun c23 => absurd c23 (by simp only [i_eq, (show (0 : Int32).toInt = 0 from rfl)] <;> omega)) (fun c23 => ?_)
  refine aw_iload_n 3 dX8_entry_26 rfl rfl ?_
  refine aw_iconst (1) dX8_entry_27 (by decide) ?_
  refine aw_icmp_lt 41 dX8_entry_28 (by decide) (fun c28 => absurd c28 (by simp only [i_lt, (show (1 : Int32).toInt = 1 from rfl)] <;> omega)) (fun c28 => ?_)
  refine aw_iload 4 dX8_entry_31 rfl ?_
  refine aw_if_lt 41 dX8_entry_33 (by decide) (fun c33 => absurd c33 (by simp only [i_lt, (show (0 : Int32).toInt = 0 from rfl)] <;> omega)) (fun c33 => ?_)
  refine aw_iload 5 dX8_entry_36 rfl ?_
  refine aw_if_ge 48 dX8_entry_38 (by decide) (fun c38 => ?_) (fun c38 => absurd (by simp only [i_le, (show (0 : Int32).toInt = 0 from rfl)] <;> omega) c38)
  refine aw_iload_n 3 dX8_entry_48 rfl rfl ?_
  refine aw_sipush (200) dX8_entry_49 (by decide) ?_
  refine aw_icmp_gt 83 dX8_entry_52 (by decide) (fun c52 => absurd c52 (by simp only [i_lt, (show (200 : Int32).toInt = 200 from rfl)] <;> omega)) (fun c52 => ?_)
  refine aw_iload 4 dX8_entry_55 rfl ?_
  refine aw_bipush (9) dX8_entry_57 (by decide) ?_
  refine aw_icmp_gt 83 dX8_entry_59 (by decide) (fun c59 => absurd c59 (by simp only [i_lt, (show (9 : Int32).toInt = 9 from rfl)] <;> omega)) (fun c59 => ?_)
  refine aw_iload 5 dX8_entry_62 rfl ?_
  refine aw_bipush (99) dX8_entry_64 (by decide) ?_
  refine aw_icmp_gt 83 dX8_entry_66 (by decide) (fun c66 => ?_) (fun c66 => absurd (by simp only [i_lt, (show (99 : Int32).toInt = 99 from rfl)] <;> omega) c66)
  refine aw_aload_n 0 dX8_entry_83 rfl rfl ?_
  refine aw_bipush (-6) dX8_entry_84 (by decide) ?_
  refine aw_eV [.int (-6)] [] lX8_70 vX8_refuse mX8_refuse dX8_entry_86 (X8_refuse6 hF) hF.1 rfl rfl rfl (Nat.le_of_ble_eq_true rfl) (by decide) (by decide) rfl (fun h44 q45 => ?_)
  exact aw_iret rfl dX8_entry_89 (by decide) (by decide) ⟨rfl, (kp_tr (kp_rf h) q45)⟩
set_option maxHeartbeats 4000000 in
theorem B3i {l : Launch} {G : xG} {h : List va_E} {c w s r u : Int32} (hM : xF9 G h) (hc : 0 ≤ c.toInt ∧ c.toInt < 4) (hw : 0 ≤ w.toInt ∧ w.toInt < 1048576) (h0 : w.toInt ≠ 0) (h1 : 1 ≤ s.toInt ∧ s.toInt ≤ 200) (h2 : 0 ≤ r.toInt ∧ r.toInt ≤ 9) (h3 : 99 < u.toInt) : CE l G yX9_entry cX9_entry 7 (some .int) 2 0 0 [.ref (G.1 + 88), .int c, .int w, .int s, .int r, .int u] h (some (.int (-6))) (fun _ => True) := by
  refine cm_of rfl (Nat.le_of_ble_eq_true rfl) [(0, .ref (G.1 + 88)), (1, .int c), (2, .int w), (3, .int s), (4, .int r), (5, .int u)] rfl ?_
  obtain ⟨c0, bc, ec⟩ := i_nat (N := 4) hc.1 hc.2
  have tc : c.toInt = (c0 : Int) := i_toNat ec (by omega)
  refine aw_iload_n 1 dX9_entry_0 rfl rfl ?_
  refine aw_iconst (4) dX9_entry_1 (by decide) ?_
  refine aw_dS [.int c, .int 4] [] lX9_126 sX9_isIn mX9_isIn dX9_entry_2 (X9_isIn4_t (by omega)) rfl (Nat.le_of_ble_eq_true rfl) (by decide) (by decide) rfl ?_
  refine aw_if_eq 18 dX9_entry_5 (by decide) (fun c5 => absurd c5 (by decide)) (fun c5 => ?_)
  refine aw_iload_n 2 dX9_entry_8 rfl rfl ?_
  refine aw_if_lt 18 dX9_entry_9 (by decide) (fun c9 => absurd c9 (by simp only [i_lt, (show (0 : Int32).toInt = 0 from rfl)] <;> omega)) (fun c9 => ?_)
  refine aw_iload_n 2 dX9_entry_12 rfl rfl ?_
  refine aw_ldc (1048576) kX9_141 dX9_entry_13 ?_
  refine aw_icmp_lt 24 dX9_entry_15 (by decide) (fun c15 => ?_) (fun c15 => absurd (by simp only [i_lt, (show (1048576 : Int32).toInt = 1048576 from rfl)] <;> omega) c15)
  refine aw_iload_n 2 dX9_entry_24 rfl rfl ?_
  refine aw_if_eq 43 dX9_entry_25 (by decide) (fun c25 => absurd c25 (by simp only [i_eq, (show (0 : Int32).toInt = 0 from rfl)] <;> omega)) (fun c25 => ?_)
  refine aw_iload_n 3 dX9_entry_28 rfl rfl ?_
  refine aw_iconst (1) dX9_entry_29 (by decide) ?_
  refine aw_icmp_lt 43 dX9_entry_30 (by decide) (fun c30 => absurd c30 (by simp only [i_lt, (show (1 : Int32).toInt = 1 from rfl)] <;> omega)) (fun c30 => ?_)
  refine aw_iload 4 dX9_entry_33 rfl ?_
  refine aw_if_lt 43 dX9_entry_35 (by decide) (fun c35 => absurd c35 (by simp only [i_lt, (show (0 : Int32).toInt = 0 from rfl)] <;> omega)) (fun c35 => ?_)
  refine aw_iload 5 dX9_entry_38 rfl ?_
  refine aw_if_ge 50 dX9_entry_40 (by decide) (fun c40 => ?_) (fun c40 => absurd (by simp only [i_le, (show (0 : Int32).toInt = 0 from rfl)] <;> omega) c40)
  refine aw_iload_n 3 dX9_entry_50 rfl rfl ?_
  refine aw_sipush (200) dX9_entry_51 (by decide) ?_
  refine aw_icmp_gt 82 dX9_entry_54 (by decide) (fun c54 => absurd c54 (by simp only [i_lt, (show (200 : Int32).toInt = 200 from rfl)] <;> omega)) (fun c54 => ?_)
  refine aw_iload 4 dX9_entry_57 rfl ?_
  refine aw_bipush (9) dX9_entry_59 (by decide) ?_
  refine aw_icmp_gt 82 dX9_entry_61 (by decide) (fun c61 => absurd c61 (by simp only [i_lt, (show (9 : Int32).toInt = 9 from rfl)] <;> omega)) (fun c61 => ?_)
  refine aw_iload 5 dX9_entry_64 rfl ?_
  refine aw_bipush (99) dX9_entry_66 (by decide) ?_
  refine aw_icmp_gt 82 dX9_entry_68 (by decide) (fun c68 => ?_) (fun c68 => absurd (by simp only [i_lt, (show (99 : Int32).toInt = 99 from rfl)] <;> omega) c68)
  refine aw_aload_n 0 dX9_entry_82 rfl rfl ?_
  refine aw_bipush (-6) dX9_entry_83 (by decide) ?_
  refine aw_eV [.int (-6)] [] lX9_130 vX9_refuse mX9_refuse dX9_entry_85 (X9_refuse6 hM) hM.1 rfl rfl rfl (Nat.le_of_ble_eq_true rfl) (by decide) (by decide) rfl (fun h46 q47 => ?_)
  exact aw_iret rfl dX9_entry_88 (by decide) (by decide) ⟨rfl, trivial⟩
set_option maxHeartbeats 4000000 in
theorem A3o {l : Launch} {G : xG} {h : List va_E} {c w s r u : Int32} (hF : xF8 G h) (hc : 0 ≤ c.toInt ∧ c.toInt < 4) (hw : 0 ≤ w.toInt ∧ w.toInt < 1048576) (h0 : w.toInt ≠ 0) (h1 : 1 ≤ s.toInt ∧ s.toInt ≤ 200) (h2 : 0 ≤ r.toInt ∧ r.toInt ≤ 9) (h3 : 0 ≤ u.toInt ∧ u.toInt ≤ 99) : CE l G yX8_entry cX8_entry 6 (some .int) 3 0 0 [.ref (G.1 + 0), .int c, .int w, .int s, .int r, .int u] h (some (.int 0)) (kp h) := by
  refine cm_of rfl (Nat.le_of_ble_eq_true rfl) [(0, .ref (G.1 + 0)), (1, .int c), (2, .int w), (3, .int s), (4, .int r), (5, .int u)] rfl ?_
  obtain ⟨c0, bc, ec⟩ := i_nat (N := 4) hc.1 hc.2
  have tc : c.toInt = (c0 : Int) := i_toNat ec (by omega)
  refine aw_iload_n 1 dX8_entry_0 rfl rfl ?_
  refine aw_dS [.int c] [] lX8_81 sX8_isCatalogue mX8_isCatalogue dX8_entry_1 (X8_isCatalogue_t (by omega)) rfl (Nat.le_of_ble_eq_true rfl) (by decide) (by decide) rfl ?_
  refine aw_if_eq 16 dX8_entry_4 (by decide) (fun c4 => absurd c4 (by decide)) (fun c4 => ?_)
  refine aw_iload_n 2 dX8_entry_7 rfl rfl ?_
  refine aw_bipush (20) dX8_entry_8 (by decide) ?_
  refine aw_dS [.int w, .int 20] [] lX8_87 sX8_hasOtherBits mX8_hasOtherBits dX8_entry_10 (X8_hasOtherBits20_f (by omega)) rfl (Nat.le_of_ble_eq_true rfl) (by decide) (by decide) rfl ?_
  refine aw_if_eq 22 dX8_entry_13 (by decide) (fun c13 => ?_) (fun c13 => absurd (by decide) c13)
  refine aw_iload_n 2 dX8_entry_22 rfl rfl ?_
  refine aw_if_eq 41 dX8_entry_23 (by decide) (fun c23 => absurd c23 (by simp only [i_eq, (show (0 : Int32).toInt = 0 from rfl)] <;> omega)) (fun c23 => ?_)
  refine aw_iload_n 3 dX8_entry_26 rfl rfl ?_
  refine aw_iconst (1) dX8_entry_27 (by decide) ?_
  refine aw_icmp_lt 41 dX8_entry_28 (by decide) (fun c28 => absurd c28 (by simp only [i_lt, (show (1 : Int32).toInt = 1 from rfl)] <;> omega)) (fun c28 => ?_)
  refine aw_iload 4 dX8_entry_31 rfl ?_
  refine aw_if_lt 41 dX8_entry_33 (by decide) (fun c33 => absurd c33 (by simp only [i_lt, (show (0 : Int32).toInt = 0 from rfl)] <;> omega)) (fun c33 => ?_)
  refine aw_iload 5 dX8_entry_36 rfl ?_
  refine aw_if_ge 48 dX8_entry_38 (by decide) (fun c38 => ?_) (fun c38 => absurd (by simp only [i_le, (show (0 : Int32).toInt = 0 from rfl)] <;> omega) c38)
  refine aw_iload_n 3 dX8_entry_48 rfl rfl ?_
  refine aw_sipush (200) dX8_entry_49 (by decide) ?_
  refine aw_icmp_gt 83 dX8_entry_52 (by decide) (fun c52 => absurd c52 (by simp only [i_lt, (show (200 : Int32).toInt = 200 from rfl)] <;> omega)) (fun c52 => ?_)
  refine aw_iload 4 dX8_entry_55 rfl ?_
  refine aw_bipush (9) dX8_entry_57 (by decide) ?_
  refine aw_icmp_gt 83 dX8_entry_59 (by decide) (fun c59 => absurd c59 (by simp only [i_lt, (show (9 : Int32).toInt = 9 from rfl)] <;> omega)) (fun c59 => ?_)
  refine aw_iload 5 dX8_entry_62 rfl ?_
  refine aw_bipush (99) dX8_entry_64 (by decide) ?_
  refine aw_icmp_gt 83 dX8_entry_66 (by decide) (fun c66 => absurd c66 (by simp only [i_lt, (show (99 : Int32).toInt = 99 from rfl)] <;> omega)) (fun c66 => ?_)
  refine aw_aload_n 0 dX8_entry_69 rfl rfl ?_
  refine aw_get fX8_20 dX8_entry_70 hF.1 rfl ?_
  refine aw_get fX8_91 dX8_entry_73 hF.2.1 rfl ?_
  refine aw_iload_n 1 dX8_entry_76 rfl rfl ?_
  refine aw_iald c0 (ec) (by omega) (by decide) dX8_entry_77 hF.2.2.2.2.2.1 ?_
  refine aw_toe 0 (rfl) ?_
  refine aw_bipush (10) dX8_entry_78 (by decide) ?_
  refine aw_icmp_lt 90 dX8_entry_80 (by decide) (fun c80 => ?_) (fun c80 => absurd (by decide) c80)
  refine aw_aload_n 0 dX8_entry_90 rfl rfl ?_
  refine aw_get fX8_20 dX8_entry_91 hF.1 rfl ?_
  refine aw_iload_n 1 dX8_entry_94 rfl rfl ?_
  refine aw_iload_n 2 dX8_entry_95 rfl rfl ?_
  refine aw_iload_n 3 dX8_entry_96 rfl rfl ?_
  refine aw_iload 4 dX8_entry_97 rfl ?_
  refine aw_iload 5 dX8_entry_99 rfl ?_
  refine aw_eV [.int c, .int w, .int s, .int r, .int u] [] lX8_94 vX1_addEntry mX1_addEntry dX8_entry_101 (X1_addEntry_o hF hc) hF.2.1 rfl rfl rfl (Nat.le_of_ble_eq_true rfl) (by decide) (by decide) rfl (fun h48 q49 => ?_)
  exact aw_iret rfl dX8_entry_104 (by decide) (by decide) ⟨rfl, (kp_tr (kp_rf h) q49)⟩
set_option maxHeartbeats 4000000 in
theorem B3o {l : Launch} {G : xG} {h : List va_E} {c w s r u : Int32} (hM : xF9 G h) (hc : 0 ≤ c.toInt ∧ c.toInt < 4) (hw : 0 ≤ w.toInt ∧ w.toInt < 1048576) (h0 : w.toInt ≠ 0) (h1 : 1 ≤ s.toInt ∧ s.toInt ≤ 200) (h2 : 0 ≤ r.toInt ∧ r.toInt ≤ 9) (h3 : 0 ≤ u.toInt ∧ u.toInt ≤ 99) : CE l G yX9_entry cX9_entry 7 (some .int) 2 0 0 [.ref (G.1 + 88), .int c, .int w, .int s, .int r, .int u] h (some (.int 0)) (fun _ => True) := by
  refine cm_of rfl (Nat.le_of_ble_eq_true rfl) [(0, .ref (G.1 + 88)), (1, .int c), (2, .int w), (3, .int s), (4, .int r), (5, .int u)] rfl ?_
  obtain ⟨c0, bc, ec⟩ := i_nat (N := 4) hc.1 hc.2
  have tc : c.toInt = (c0 : Int) := i_toNat ec (by omega)
  refine aw_iload_n 1 dX9_entry_0 rfl rfl ?_
  refine aw_iconst (4) dX9_entry_1 (by decide) ?_
  refine aw_dS [.int c, .int 4] [] lX9_126 sX9_isIn mX9_isIn dX9_entry_2 (X9_isIn4_t (by omega)) rfl (Nat.le_of_ble_eq_true rfl) (by decide) (by decide) rfl ?_
  refine aw_if_eq 18 dX9_entry_5 (by decide) (fun c5 => absurd c5 (by decide)) (fun c5 => ?_)
  refine aw_iload_n 2 dX9_entry_8 rfl rfl ?_
  refine aw_if_lt 18 dX9_entry_9 (by decide) (fun c9 => absurd c9 (by simp only [i_lt, (show (0 : Int32).toInt = 0 from rfl)] <;> omega)) (fun c9 => ?_)
  refine aw_iload_n 2 dX9_entry_12 rfl rfl ?_
  refine aw_ldc (1048576) kX9_141 dX9_entry_13 ?_
  refine aw_icmp_lt 24 dX9_entry_15 (by decide) (fun c15 => ?_) (fun c15 => absurd (by simp only [i_lt, (show (1048576 : Int32).toInt = 1048576 from rfl)] <;> omega) c15)
  refine aw_iload_n 2 dX9_entry_24 rfl rfl ?_
  refine aw_if_eq 43 dX9_entry_25 (by decide) (fun c25 => absurd c25 (by simp only [i_eq, (show (0 : Int32).toInt = 0 from rfl)] <;> omega)) (fun c25 => ?_)
  refine aw_iload_n 3 dX9_entry_28 rfl rfl ?_
  refine aw_iconst (1) dX9_entry_29 (by decide) ?_
  refine aw_icmp_lt 43 dX9_entry_30 (by decide) (fun c30 => absurd c30 (by simp only [i_lt, (show (1 : Int32).toInt = 1 from rfl)] <;> omega)) (fun c30 => ?_)
  refine aw_iload 4 dX9_entry_33 rfl ?_
  refine aw_if_lt 43 dX9_entry_35 (by decide) (fun c35 => absurd c35 (by simp only [i_lt, (show (0 : Int32).toInt = 0 from rfl)] <;> omega)) (fun c35 => ?_)
  refine aw_iload 5 dX9_entry_38 rfl ?_
  refine aw_if_ge 50 dX9_entry_40 (by decide) (fun c40 => ?_) (fun c40 => absurd (by simp only [i_le, (show (0 : Int32).toInt = 0 from rfl)] <;> omega) c40)
  refine aw_iload_n 3 dX9_entry_50 rfl rfl ?_
  refine aw_sipush (200) dX9_entry_51 (by decide) ?_
  refine aw_icmp_gt 82 dX9_entry_54 (by decide) (fun c54 => absurd c54 (by simp only [i_lt, (show (200 : Int32).toInt = 200 from rfl)] <;> omega)) (fun c54 => ?_)
  refine aw_iload 4 dX9_entry_57 rfl ?_
  refine aw_bipush (9) dX9_entry_59 (by decide) ?_
  refine aw_icmp_gt 82 dX9_entry_61 (by decide) (fun c61 => absurd c61 (by simp only [i_lt, (show (9 : Int32).toInt = 9 from rfl)] <;> omega)) (fun c61 => ?_)
  refine aw_iload 5 dX9_entry_64 rfl ?_
  refine aw_bipush (99) dX9_entry_66 (by decide) ?_
  refine aw_icmp_gt 82 dX9_entry_68 (by decide) (fun c68 => absurd c68 (by simp only [i_lt, (show (99 : Int32).toInt = 99 from rfl)] <;> omega)) (fun c68 => ?_)
  refine aw_aload_n 0 dX9_entry_71 rfl rfl ?_
  refine aw_get fX9_19 dX9_entry_72 hM.1 rfl ?_
  refine aw_iload_n 1 dX9_entry_75 rfl rfl ?_
  refine aw_iald c0 (ec) (by omega) (by decide) dX9_entry_76 hM.2.2.2.2.1 ?_
  refine aw_toe 0 (rfl) ?_
  refine aw_bipush (10) dX9_entry_77 (by decide) ?_
  refine aw_icmp_ne 89 dX9_entry_79 (by decide) (fun c79 => ?_) (fun c79 => absurd c79 (by decide))
  refine aw_bipush (10) dX9_entry_89 (by decide) ?_
  refine aw_iload_n 1 dX9_entry_91 rfl rfl ?_
  refine aw_imul dX9_entry_92 ?_
  refine aw_aload_n 0 dX9_entry_93 rfl rfl ?_
  refine aw_get fX9_19 dX9_entry_94 hM.1 rfl ?_
  refine aw_iload_n 1 dX9_entry_97 rfl rfl ?_
  refine aw_iald c0 (ec) (by omega) (by decide) dX9_entry_98 hM.2.2.2.2.1 ?_
  refine aw_toe 0 (rfl) ?_
  refine aw_iadd dX9_entry_99 ?_
  refine aw_top (fun v50 ev50 => ?_)
  refine aw_istore [(6, .int v50), (0, .ref (G.1 + 88)), (1, .int c), (2, .int w), (3, .int s), (4, .int r), (5, .int u)] dX9_entry_100 (by decide) rfl ?_
  refine aw_aload_n 1 dX9_entry_102 rfl rfl ?_
  refine aw_get fX9_22 dX9_entry_103 hM.1 rfl ?_
  refine aw_iload 0 dX9_entry_106 rfl ?_
  refine aw_iload_n 3 dX9_entry_108 rfl rfl ?_
  refine aw_iast ((10 * c0) + 0) (ev50.trans (nv_add (nv_mul (rfl) (ec)) (rfl))) (by omega) (by decide) dX9_entry_109 hM.2.2.2.2.2.1 ?_
  refine aw_aload_n 1 dX9_entry_110 rfl rfl ?_
  refine aw_get fX9_25 dX9_entry_111 (gn (by decide) (hM.1)) rfl ?_
  refine aw_iload 0 dX9_entry_114 rfl ?_
  refine aw_iload_n 4 dX9_entry_116 rfl rfl ?_
  refine aw_iast ((10 * c0) + 0) (ev50.trans (nv_add (nv_mul (rfl) (ec)) (rfl))) (by omega) (by decide) dX9_entry_117 (gn (by decide) (hM.2.2.2.2.2.2.1)) ?_
  refine aw_aload_n 1 dX9_entry_118 rfl rfl ?_
  refine aw_get fX9_28 dX9_entry_119 (gn (by decide) (gn (by decide) (hM.1))) rfl ?_
  refine aw_iload 0 dX9_entry_122 rfl ?_
  refine aw_iload 5 dX9_entry_124 rfl ?_
  refine aw_iast ((10 * c0) + 0) (ev50.trans (nv_add (nv_mul (rfl) (ec)) (rfl))) (by omega) (by decide) dX9_entry_126 (gn (by decide) (gn (by decide) (hM.2.2.2.2.2.2.2.1))) ?_
  refine aw_aload_n 1 dX9_entry_127 rfl rfl ?_
  refine aw_get fX9_31 dX9_entry_128 (gn (by decide) (gn (by decide) (gn (by decide) (hM.1)))) rfl ?_
  refine aw_iload 0 dX9_entry_131 rfl ?_
  refine aw_iload 6 dX9_entry_133 rfl ?_
  refine aw_iast ((10 * c0) + 0) (ev50.trans (nv_add (nv_mul (rfl) (ec)) (rfl))) (by omega) (by decide) dX9_entry_135 (gn (by decide) (gn (by decide) (gn (by decide) (hM.2.2.2.2.2.2.2.2.1)))) ?_
  refine aw_aload_n 1 dX9_entry_136 rfl rfl ?_
  refine aw_get fX9_19 dX9_entry_137 (gn (by decide) (gn (by decide) (gn (by decide) (gn (by decide) (hM.1))))) rfl ?_
  refine aw_iload_n 2 dX9_entry_140 rfl rfl ?_
  refine aw_dup2 dX9_entry_141 rfl rfl ?_
  refine aw_iald c0 (ec) (by omega) (by decide) dX9_entry_142 (gn (by decide) (gn (by decide) (gn (by decide) (gn (by decide) (hM.2.2.2.2.1))))) ?_
  refine aw_toe 0 (rfl) ?_
  refine aw_iconst (1) dX9_entry_143 (by decide) ?_
  refine aw_iadd dX9_entry_144 ?_
  refine aw_toe 1 (by decide) ?_
  refine aw_iast c0 (ec) (by omega) (by decide) dX9_entry_145 (gn (by decide) (gn (by decide) (gn (by decide) (gn (by decide) (hM.2.2.2.2.1))))) ?_
  refine aw_aload_n 1 dX9_entry_146 rfl rfl ?_
  refine aw_get fX9_19 dX9_entry_147 (gn (by decide) (gn (by decide) (gn (by decide) (gn (by decide) (gn (by decide) (hM.1)))))) rfl ?_
  refine aw_iload_n 2 dX9_entry_150 rfl rfl ?_
  refine aw_iald c0 (ec) (by omega) (by decide) dX9_entry_151 (gs (gn (by decide) (gn (by decide) (gn (by decide) (gn (by decide) (hM.2.2.2.2.1)))))) ?_
  refine aw_iconst (1) dX9_entry_152 (by decide) ?_
  refine aw_isub dX9_entry_153 ?_
  exact aw_iret rfl dX9_entry_154 (by decide) (by decide) ⟨by rw [show ((upd (fun _ => 0) c0 1) c0 : Int32) - 1 = 0 from by simp [upd]], trivial⟩
