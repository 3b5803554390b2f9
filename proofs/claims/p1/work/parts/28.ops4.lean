set_option maxHeartbeats 4000000 in
theorem X0_tellClash_1 {l : Launch} {G : xG} {h : List va_E} {a b : Int32} (hF : xF8 G h)(ha : 0 ≤ a.toInt ∧ a.toInt < 6)(hb : 0 ≤ b.toInt ∧ b.toInt < 6) : CE l G yX0_tellClash cX0_tellClash 5 (some .boolean) 0 0 0 [.ref (G.1 + 84), .int a, .int b, .int 1] h (some (.int 1)) (kp h) := by
  refine cm_of rfl (Nat.le_of_ble_eq_true rfl) [(0, .ref (G.1 + 84)), (1, .int a), (2, .int b), (3, .int 1)] rfl ?_
  obtain ⟨a0, ba, ea⟩ := i_nat (N := 6) ha.1 ha.2
  have ta : a.toInt = (a0 : Int) := i_toNat ea (by omega)
  obtain ⟨b0, bb, eb⟩ := i_nat (N := 6) hb.1 hb.2
  have tb : b.toInt = (b0 : Int) := i_toNat eb (by omega)
  refine aw_aload_n 0 dX0_tellClash_0 rfl rfl ?_
  refine aw_get fX0_15 dX0_tellClash_1 hF.2.2.2.2.2.2.2.2.2.2.2.2.2.2.2.2.2.2.2.2.2.2.2.2.2.2.2.2.2.2.2.2.2.2.2.2.1 rfl ?_
  refine aw_iload_n 1 dX0_tellClash_4 rfl rfl ?_
  refine aw_iald a0 (ea) (by omega) (by decide) dX0_tellClash_5 hF.2.2.2.2.2.2.2.2.2.2.2.2.2.2.2.2.2.2.2.2.2.2.2.2.2.2.2.2.2.2.2.2.2.2.2.2.2.2.1 ?_
  refine aw_toe 0 (rfl) ?_
  refine aw_iload_n 2 dX0_tellClash_6 rfl rfl ?_
  refine aw_ishr dX0_tellClash_7 ?_
  refine aw_iconst (1) dX0_tellClash_8 (by decide) ?_
  refine aw_iand dX0_tellClash_9 ?_
  refine aw_if_eq 17 dX0_tellClash_10 (by decide) (fun c10 => ?_) (fun c10 => absurd (z_bit _) c10)
  refine aw_iconst (0) dX0_tellClash_17 (by decide) ?_
  refine aw_istore [(4, .int 0), (0, .ref (G.1 + 84)), (1, .int a), (2, .int b), (3, .int 1)] dX0_tellClash_18 (by decide) rfl ?_
  refine aw_iload 0 dX0_tellClash_20 rfl ?_
  refine aw_iload_n 4 dX0_tellClash_22 rfl rfl ?_
  refine aw_icmp_ne 28 dX0_tellClash_23 (by decide) (fun c23 => ?_) (fun c23 => absurd c23 (by decide))
  refine aw_aload_n 1 dX0_tellClash_28 rfl rfl ?_
  refine aw_get fX0_15 dX0_tellClash_29 hF.2.2.2.2.2.2.2.2.2.2.2.2.2.2.2.2.2.2.2.2.2.2.2.2.2.2.2.2.2.2.2.2.2.2.2.2.1 rfl ?_
  refine aw_iload_n 2 dX0_tellClash_32 rfl rfl ?_
  refine aw_dup2 dX0_tellClash_33 rfl rfl ?_
  refine aw_iald a0 (ea) (by omega) (by decide) dX0_tellClash_34 hF.2.2.2.2.2.2.2.2.2.2.2.2.2.2.2.2.2.2.2.2.2.2.2.2.2.2.2.2.2.2.2.2.2.2.2.2.2.2.1 ?_
  refine aw_toe 0 (rfl) ?_
  refine aw_iconst (1) dX0_tellClash_35 (by decide) ?_
  refine aw_iload_n 3 dX0_tellClash_36 rfl rfl ?_
  refine aw_ishl dX0_tellClash_37 ?_
  refine aw_ixor dX0_tellClash_38 ?_
  refine aw_iast a0 (ea) (by omega) (by decide) dX0_tellClash_39 hF.2.2.2.2.2.2.2.2.2.2.2.2.2.2.2.2.2.2.2.2.2.2.2.2.2.2.2.2.2.2.2.2.2.2.2.2.2.2.1 ?_
  refine aw_aload_n 1 dX0_tellClash_40 rfl rfl ?_
  refine aw_get fX0_15 dX0_tellClash_41 (gn (by decide) (hF.2.2.2.2.2.2.2.2.2.2.2.2.2.2.2.2.2.2.2.2.2.2.2.2.2.2.2.2.2.2.2.2.2.2.2.2.1)) rfl ?_
  refine aw_iload_n 3 dX0_tellClash_44 rfl rfl ?_
  refine aw_dup2 dX0_tellClash_45 rfl rfl ?_
  refine aw_iald b0 (eb) (by omega) (by decide) dX0_tellClash_46 (gs hF.2.2.2.2.2.2.2.2.2.2.2.2.2.2.2.2.2.2.2.2.2.2.2.2.2.2.2.2.2.2.2.2.2.2.2.2.2.2.1) ?_
  refine aw_iconst (1) dX0_tellClash_47 (by decide) ?_
  refine aw_iload_n 2 dX0_tellClash_48 rfl rfl ?_
  refine aw_ishl dX0_tellClash_49 ?_
  refine aw_ixor dX0_tellClash_50 ?_
  refine aw_iast b0 (eb) (by omega) (by decide) dX0_tellClash_51 (gs hF.2.2.2.2.2.2.2.2.2.2.2.2.2.2.2.2.2.2.2.2.2.2.2.2.2.2.2.2.2.2.2.2.2.2.2.2.2.2.1) ?_
  refine aw_aload_n 1 dX0_tellClash_52 rfl rfl ?_
  refine aw_dup dX0_tellClash_53 rfl ?_
  refine aw_get fX0_18 dX0_tellClash_54 (gn (by decide) (gn (by decide) (hF.2.2.2.2.2.2.2.2.2.2.2.2.2.2.2.2.2.2.2.2.2.2.2.2.2.2.2.2.2.2.2.2.2.2.2.2.1))) rfl ?_
  refine aw_iload_n 4 dX0_tellClash_57 rfl rfl ?_
  refine aw_if_eq 65 dX0_tellClash_58 (by decide) (fun c58 => absurd c58 (by decide)) (fun c58 => ?_)
  refine aw_iconst (1) dX0_tellClash_61 (by decide) ?_
  refine aw_goto 66 dX0_tellClash_62 (by decide) ?_
  refine aw_iadd dX0_tellClash_66 ?_
  refine aw_toe 1 (by decide) ?_
  refine aw_putQ fX0_18 dX0_tellClash_67 [.ref (G.1 + 85), .ref (G.1 + 86), .int 1] (gn (by decide) (gn (by decide) (hF.2.2.2.2.2.2.2.2.2.2.2.2.2.2.2.2.2.2.2.2.2.2.2.2.2.2.2.2.2.2.2.2.2.2.2.2.1))) rfl rfl rfl (Nat.le_of_ble_eq_true rfl) rfl ?_
  refine aw_iconst (1) dX0_tellClash_70 (by decide) ?_
  exact aw_zret rfl rfl dX0_tellClash_71 (by decide) (by decide) ⟨rfl, kp_set (kp_set (kp_set (kp_rf h) (by decide)) (by decide)) (by decide)⟩
set_option maxHeartbeats 4000000 in
theorem X0_tellClash_0 {l : Launch} {G : xG} {h : List va_E} {a b : Int32} (hF : xF8 G h)(ha : 0 ≤ a.toInt ∧ a.toInt < 6)(hb : 0 ≤ b.toInt ∧ b.toInt < 6) : CE l G yX0_tellClash cX0_tellClash 5 (some .boolean) 0 0 0 [.ref (G.1 + 84), .int a, .int b, .int 0] h (some (.int 0)) (kp h) := by
  refine cm_of rfl (Nat.le_of_ble_eq_true rfl) [(0, .ref (G.1 + 84)), (1, .int a), (2, .int b), (3, .int 0)] rfl ?_
  obtain ⟨a0, ba, ea⟩ := i_nat (N := 6) ha.1 ha.2
  have ta : a.toInt = (a0 : Int) := i_toNat ea (by omega)
  obtain ⟨b0, bb, eb⟩ := i_nat (N := 6) hb.1 hb.2
  have tb : b.toInt = (b0 : Int) := i_toNat eb (by omega)
  refine aw_aload_n 0 dX0_tellClash_0 rfl rfl ?_
  refine aw_get fX0_15 dX0_tellClash_1 hF.2.2.2.2.2.2.2.2.2.2.2.2.2.2.2.2.2.2.2.2.2.2.2.2.2.2.2.2.2.2.2.2.2.2.2.2.1 rfl ?_
  refine aw_iload_n 1 dX0_tellClash_4 rfl rfl ?_
  refine aw_iald a0 (ea) (by omega) (by decide) dX0_tellClash_5 hF.2.2.2.2.2.2.2.2.2.2.2.2.2.2.2.2.2.2.2.2.2.2.2.2.2.2.2.2.2.2.2.2.2.2.2.2.2.2.1 ?_
  refine aw_toe 0 (rfl) ?_
  refine aw_iload_n 2 dX0_tellClash_6 rfl rfl ?_
  refine aw_ishr dX0_tellClash_7 ?_
  refine aw_iconst (1) dX0_tellClash_8 (by decide) ?_
  refine aw_iand dX0_tellClash_9 ?_
  refine aw_if_eq 17 dX0_tellClash_10 (by decide) (fun c10 => ?_) (fun c10 => absurd (z_bit _) c10)
  refine aw_iconst (0) dX0_tellClash_17 (by decide) ?_
  refine aw_istore [(4, .int 0), (0, .ref (G.1 + 84)), (1, .int a), (2, .int b), (3, .int 0)] dX0_tellClash_18 (by decide) rfl ?_
  refine aw_iload 0 dX0_tellClash_20 rfl ?_
  refine aw_iload_n 4 dX0_tellClash_22 rfl rfl ?_
  refine aw_icmp_ne 28 dX0_tellClash_23 (by decide) (fun c23 => absurd (by decide) c23) (fun c23 => ?_)
  refine aw_iconst (0) dX0_tellClash_26 (by decide) ?_
  exact aw_zret rfl rfl dX0_tellClash_27 (by decide) (by decide) ⟨rfl, kp_rf h⟩
set_option maxHeartbeats 4000000 in
theorem A25a0 {l : Launch} {G : xG} {h : List va_E} {a b : Int32} (hF : xF8 G h) (ha : a.toInt < 0) : CE l G yX8_clash cX8_clash 4 (some .int) 2 0 0 [.ref (G.1 + 0), .int a, .int b, .int 0] h (some (.int (-4))) (kp h) := by
  refine cm_of rfl (Nat.le_of_ble_eq_true rfl) [(0, .ref (G.1 + 0)), (1, .int a), (2, .int b), (3, .int 0)] rfl ?_
  refine aw_iload_n 1 dX8_clash_0 rfl rfl ?_
  refine aw_if_lt 8 dX8_clash_1 (by decide) (fun c1 => ?_) (fun c1 => absurd (by simp only [i_lt, (show (0 : Int32).toInt = 0 from rfl)] <;> omega) c1)
  refine aw_aload_n 0 dX8_clash_8 rfl rfl ?_
  refine aw_bipush (-4) dX8_clash_9 (by decide) ?_
  refine aw_eV [.int (-4)] [] lX8_70 vX8_refuse mX8_refuse dX8_clash_11 (X8_refuse4 hF) hF.1 rfl rfl rfl (Nat.le_of_ble_eq_true rfl) (by decide) (by decide) rfl (fun h1 q2 => ?_)
  exact aw_iret rfl dX8_clash_14 (by decide) (by decide) ⟨rfl, (kp_tr (kp_rf h) q2)⟩
set_option maxHeartbeats 4000000 in
theorem B25a0 {l : Launch} {G : xG} {h : List va_E} {a b : Int32} (hM : xF9 G h) (ha : a.toInt < 0) : CE l G yX9_clash cX9_clash 4 (some .int) 2 0 0 [.ref (G.1 + 88), .int a, .int b, .int 0] h (some (.int (-4))) (fun _ => True) := by
  refine cm_of rfl (Nat.le_of_ble_eq_true rfl) [(0, .ref (G.1 + 88)), (1, .int a), (2, .int b), (3, .int 0)] rfl ?_
  refine aw_iload_n 1 dX9_clash_0 rfl rfl ?_
  refine aw_if_lt 8 dX9_clash_1 (by decide) (fun c1 => ?_) (fun c1 => absurd (by simp only [i_lt, (show (0 : Int32).toInt = 0 from rfl)] <;> omega) c1)
  refine aw_aload_n 0 dX9_clash_8 rfl rfl ?_
  refine aw_bipush (-4) dX9_clash_9 (by decide) ?_
  refine aw_eV [.int (-4)] [] lX9_130 vX9_refuse mX9_refuse dX9_clash_11 (X9_refuse4 hM) hM.1 rfl rfl rfl (Nat.le_of_ble_eq_true rfl) (by decide) (by decide) rfl (fun h3 q4 => ?_)
  exact aw_iret rfl dX9_clash_14 (by decide) (by decide) ⟨rfl, trivial⟩
set_option maxHeartbeats 4000000 in
theorem A25b0 {l : Launch} {G : xG} {h : List va_E} {a b : Int32} (hF : xF8 G h) (ha : 0 ≤ a.toInt) (hb : b.toInt < 0) : CE l G yX8_clash cX8_clash 4 (some .int) 2 0 0 [.ref (G.1 + 0), .int a, .int b, .int 0] h (some (.int (-4))) (kp h) := by
  refine cm_of rfl (Nat.le_of_ble_eq_true rfl) [(0, .ref (G.1 + 0)), (1, .int a), (2, .int b), (3, .int 0)] rfl ?_
  refine aw_iload_n 1 dX8_clash_0 rfl rfl ?_
  refine aw_if_lt 8 dX8_clash_1 (by decide) (fun c1 => absurd c1 (by simp only [i_lt, (show (0 : Int32).toInt = 0 from rfl)] <;> omega)) (fun c1 => ?_)
  refine aw_iload_n 2 dX8_clash_4 rfl rfl ?_
  refine aw_if_ge 15 dX8_clash_5 (by decide) (fun c5 => absurd c5 (by simp only [i_le, (show (0 : Int32).toInt = 0 from rfl)] <;> omega)) (fun c5 => ?_)
  refine aw_aload_n 0 dX8_clash_8 rfl rfl ?_
  refine aw_bipush (-4) dX8_clash_9 (by decide) ?_
  refine aw_eV [.int (-4)] [] lX8_70 vX8_refuse mX8_refuse dX8_clash_11 (X8_refuse4 hF) hF.1 rfl rfl rfl (Nat.le_of_ble_eq_true rfl) (by decide) (by decide) rfl (fun h5 q6 => ?_)
  exact aw_iret rfl dX8_clash_14 (by decide) (by decide) ⟨rfl, (kp_tr (kp_rf h) q6)⟩
set_option maxHeartbeats 4000000 in
theorem B25b0 {l : Launch} {G : xG} {h : List va_E} {a b : Int32} (hM : xF9 G h) (ha : 0 ≤ a.toInt) (hb : b.toInt < 0) : CE l G yX9_clash cX9_clash 4 (some .int) 2 0 0 [.ref (G.1 + 88), .int a, .int b, .int 0] h (some (.int (-4))) (fun _ => True) := by
  refine cm_of rfl (Nat.le_of_ble_eq_true rfl) [(0, .ref (G.1 + 88)), (1, .int a), (2, .int b), (3, .int 0)] rfl ?_
  refine aw_iload_n 1 dX9_clash_0 rfl rfl ?_
  refine aw_if_lt 8 dX9_clash_1 (by decide) (fun c1 => absurd c1 (by simp only [i_lt, (show (0 : Int32).toInt = 0 from rfl)] <;> omega)) (fun c1 => ?_)
  refine aw_iload_n 2 dX9_clash_4 rfl rfl ?_
  refine aw_if_ge 15 dX9_clash_5 (by decide) (fun c5 => absurd c5 (by simp only [i_le, (show (0 : Int32).toInt = 0 from rfl)] <;> omega)) (fun c5 => ?_)
  refine aw_aload_n 0 dX9_clash_8 rfl rfl ?_
  refine aw_bipush (-4) dX9_clash_9 (by decide) ?_
  refine aw_eV [.int (-4)] [] lX9_130 vX9_refuse mX9_refuse dX9_clash_11 (X9_refuse4 hM) hM.1 rfl rfl rfl (Nat.le_of_ble_eq_true rfl) (by decide) (by decide) rfl (fun h7 q8 => ?_)
  exact aw_iret rfl dX9_clash_14 (by decide) (by decide) ⟨rfl, trivial⟩
set_option maxHeartbeats 4000000 in
theorem A25c0 {l : Launch} {G : xG} {h : List va_E} {a b : Int32} (hF : xF8 G h) (ha : 6 ≤ a.toInt) (hb : 0 ≤ b.toInt) : CE l G yX8_clash cX8_clash 4 (some .int) 2 0 0 [.ref (G.1 + 0), .int a, .int b, .int 0] h (some (.int (-6))) (kp h) := by
  refine cm_of rfl (Nat.le_of_ble_eq_true rfl) [(0, .ref (G.1 + 0)), (1, .int a), (2, .int b), (3, .int 0)] rfl ?_
  refine aw_iload_n 1 dX8_clash_0 rfl rfl ?_
  refine aw_if_lt 8 dX8_clash_1 (by decide) (fun c1 => absurd c1 (by simp only [i_lt, (show (0 : Int32).toInt = 0 from rfl)] <;> omega)) (fun c1 => ?_)
  refine aw_iload_n 2 dX8_clash_4 rfl rfl ?_
  refine aw_if_ge 15 dX8_clash_5 (by decide) (fun c5 => ?_) (fun c5 => absurd (by simp only [i_le, (show (0 : Int32).toInt = 0 from rfl)] <;> omega) c5)
  refine aw_iload_n 1 dX8_clash_15 rfl rfl ?_
  refine aw_bipush (6) dX8_clash_16 (by decide) ?_
  refine aw_icmp_ge 27 dX8_clash_18 (by decide) (fun c18 => ?_) (fun c18 => absurd (by simp only [i_le, (show (6 : Int32).toInt = 6 from rfl)] <;> omega) c18)
  refine aw_aload_n 0 dX8_clash_27 rfl rfl ?_
  refine aw_bipush (-6) dX8_clash_28 (by decide) ?_
  refine aw_eV [.int (-6)] [] lX8_70 vX8_refuse mX8_refuse dX8_clash_30 (X8_refuse6 hF) hF.1 rfl rfl rfl (Nat.le_of_ble_eq_true rfl) (by decide) (by decide) rfl (fun h9 q10 => ?_)
  exact aw_iret rfl dX8_clash_33 (by decide) (by decide) ⟨rfl, (kp_tr (kp_rf h) q10)⟩
set_option maxHeartbeats 4000000 in
theorem B25c0 {l : Launch} {G : xG} {h : List va_E} {a b : Int32} (hM : xF9 G h) (ha : 6 ≤ a.toInt) (hb : 0 ≤ b.toInt) : CE l G yX9_clash cX9_clash 4 (some .int) 2 0 0 [.ref (G.1 + 88), .int a, .int b, .int 0] h (some (.int (-6))) (fun _ => True) := by
  refine cm_of rfl (Nat.le_of_ble_eq_true rfl) [(0, .ref (G.1 + 88)), (1, .int a), (2, .int b), (3, .int 0)] rfl ?_
  refine aw_iload_n 1 dX9_clash_0 rfl rfl ?_
  refine aw_if_lt 8 dX9_clash_1 (by decide) (fun c1 => absurd c1 (by simp only [i_lt, (show (0 : Int32).toInt = 0 from rfl)] <;> omega)) (fun c1 => ?_)
  refine aw_iload_n 2 dX9_clash_4 rfl rfl ?_
  refine aw_if_ge 15 dX9_clash_5 (by decide) (fun c5 => ?_) (fun c5 => absurd (by simp only [i_le, (show (0 : Int32).toInt = 0 from rfl)] <;> omega) c5)
  refine aw_iload_n 1 dX9_clash_15 rfl rfl ?_
  refine aw_bipush (6) dX9_clash_16 (by decide) ?_
  refine aw_icmp_ge 27 dX9_clash_18 (by decide) (fun c18 => ?_) (fun c18 => absurd (by simp only [i_le, (show (6 : Int32).toInt = 6 from rfl)] <;> omega) c18)
  refine aw_aload_n 0 dX9_clash_27 rfl rfl ?_
  refine aw_bipush (-6) dX9_clash_28 (by decide) ?_
  refine aw_eV [.int (-6)] [] lX9_130 vX9_refuse mX9_refuse dX9_clash_30 (X9_refuse6 hM) hM.1 rfl rfl rfl (Nat.le_of_ble_eq_true rfl) (by decide) (by decide) rfl (fun h11 q12 => ?_)
  exact aw_iret rfl dX9_clash_33 (by decide) (by decide) ⟨rfl, trivial⟩
set_option maxHeartbeats 4000000 in
theorem A25d0 {l : Launch} {G : xG} {h : List va_E} {a b : Int32} (hF : xF8 G h) (ha : 0 ≤ a.toInt ∧ a.toInt < 6)(hb : 6 ≤ b.toInt) : CE l G yX8_clash cX8_clash 4 (some .int) 2 0 0 [.ref (G.1 + 0), .int a, .int b, .int 0] h (some (.int (-6))) (kp h) := by
  refine cm_of rfl (Nat.le_of_ble_eq_true rfl) [(0, .ref (G.1 + 0)), (1, .int a), (2, .int b), (3, .int 0)] rfl ?_
  refine aw_iload_n 1 dX8_clash_0 rfl rfl ?_
  refine aw_if_lt 8 dX8_clash_1 (by decide) (fun c1 => absurd c1 (by simp only [i_lt, (show (0 : Int32).toInt = 0 from rfl)] <;> omega)) (fun c1 => ?_)
  refine aw_iload_n 2 dX8_clash_4 rfl rfl ?_
  refine aw_if_ge 15 dX8_clash_5 (by decide) (fun c5 => ?_) (fun c5 => absurd (by simp only [i_le, (show (0 : Int32).toInt = 0 from rfl)] <;> omega) c5)
  refine aw_iload_n 1 dX8_clash_15 rfl rfl ?_
  refine aw_bipush (6) dX8_clash_16 (by decide) ?_
  refine aw_icmp_ge 27 dX8_clash_18 (by decide) (fun c18 => absurd c18 (by simp only [i_le, (show (6 : Int32).toInt = 6 from rfl)] <;> omega)) (fun c18 => ?_)
  refine aw_iload_n 2 dX8_clash_21 rfl rfl ?_
  refine aw_bipush (6) dX8_clash_22 (by decide) ?_
  refine aw_icmp_lt 34 dX8_clash_24 (by decide) (fun c24 => absurd c24 (by simp only [i_lt, (show (6 : Int32).toInt = 6 from rfl)] <;> omega)) (fun c24 => ?_)
  refine aw_aload_n 0 dX8_clash_27 rfl rfl ?_
  refine aw_bipush (-6) dX8_clash_28 (by decide) ?_
  refine aw_eV [.int (-6)] [] lX8_70 vX8_refuse mX8_refuse dX8_clash_30 (X8_refuse6 hF) hF.1 rfl rfl rfl (Nat.le_of_ble_eq_true rfl) (by decide) (by decide) rfl (fun h13 q14 => ?_)
  exact aw_iret rfl dX8_clash_33 (by decide) (by decide) ⟨rfl, (kp_tr (kp_rf h) q14)⟩
set_option maxHeartbeats 4000000 in
theorem B25d0 {l : Launch} {G : xG} {h : List va_E} {a b : Int32} (hM : xF9 G h) (ha : 0 ≤ a.toInt ∧ a.toInt < 6)(hb : 6 ≤ b.toInt) : CE l G yX9_clash cX9_clash 4 (some .int) 2 0 0 [.ref (G.1 + 88), .int a, .int b, .int 0] h (some (.int (-6))) (fun _ => True) := by
  refine cm_of rfl (Nat.le_of_ble_eq_true rfl) [(0, .ref (G.1 + 88)), (1, .int a), (2, .int b), (3, .int 0)] rfl ?_
  refine aw_iload_n 1 dX9_clash_0 rfl rfl ?_
  refine aw_if_lt 8 dX9_clash_1 (by decide) (fun c1 => absurd c1 (by simp only [i_lt, (show (0 : Int32).toInt = 0 from rfl)] <;> omega)) (fun c1 => ?_)
  refine aw_iload_n 2 dX9_clash_4 rfl rfl ?_
  refine aw_if_ge 15 dX9_clash_5 (by decide) (fun c5 => ?_) (fun c5 => absurd (by simp only [i_le, (show (0 : Int32).toInt = 0 from rfl)] <;> omega) c5)
  refine aw_iload_n 1 dX9_clash_15 rfl rfl ?_
  refine aw_bipush (6) dX9_clash_16 (by decide) ?_
  refine aw_icmp_ge 27 dX9_clash_18 (by decide) (fun c18 => absurd c18 (by simp only [i_le, (show (6 : Int32).toInt = 6 from rfl)] <;> omega)) (fun c18 => ?_)
  refine aw_iload_n 2 dX9_clash_21 rfl rfl ?_
  refine aw_bipush (6) dX9_clash_22 (by decide) ?_
  refine aw_icmp_lt 34 dX9_clash_24 (by decide) (fun c24 => absurd c24 (by simp only [i_lt, (show (6 : Int32).toInt = 6 from rfl)] <;> omega)) (fun c24 => ?_)
  refine aw_aload_n 0 dX9_clash_27 rfl rfl ?_
  refine aw_bipush (-6) dX9_clash_28 (by decide) ?_
  refine aw_eV [.int (-6)] [] lX9_130 vX9_refuse mX9_refuse dX9_clash_30 (X9_refuse6 hM) hM.1 rfl rfl rfl (Nat.le_of_ble_eq_true rfl) (by decide) (by decide) rfl (fun h15 q16 => ?_)
  exact aw_iret rfl dX9_clash_33 (by decide) (by decide) ⟨rfl, trivial⟩
set_option maxHeartbeats 4000000 in
theorem A25e0 {l : Launch} {G : xG} {h : List va_E} {a b : Int32} (hF : xF8 G h) (ha : 0 ≤ a.toInt ∧ a.toInt < 6)(hb : 0 ≤ b.toInt ∧ b.toInt < 6)(hab : a.toInt = b.toInt) : CE l G yX8_clash cX8_clash 4 (some .int) 2 0 0 [.ref (G.1 + 0), .int a, .int b, .int 0] h (some (.int (-3))) (kp h) := by
  refine cm_of rfl (Nat.le_of_ble_eq_true rfl) [(0, .ref (G.1 + 0)), (1, .int a), (2, .int b), (3, .int 0)] rfl ?_
  refine aw_iload_n 1 dX8_clash_0 rfl rfl ?_
  refine aw_if_lt 8 dX8_clash_1 (by decide) (fun c1 => absurd c1 (by simp only [i_lt, (show (0 : Int32).toInt = 0 from rfl)] <;> omega)) (fun c1 => ?_)
  refine aw_iload_n 2 dX8_clash_4 rfl rfl ?_
  refine aw_if_ge 15 dX8_clash_5 (by decide) (fun c5 => ?_) (fun c5 => absurd (by simp only [i_le, (show (0 : Int32).toInt = 0 from rfl)] <;> omega) c5)
  refine aw_iload_n 1 dX8_clash_15 rfl rfl ?_
  refine aw_bipush (6) dX8_clash_16 (by decide) ?_
  refine aw_icmp_ge 27 dX8_clash_18 (by decide) (fun c18 => absurd c18 (by simp only [i_le, (show (6 : Int32).toInt = 6 from rfl)] <;> omega)) (fun c18 => ?_)
  refine aw_iload_n 2 dX8_clash_21 rfl rfl ?_
  refine aw_bipush (6) dX8_clash_22 (by decide) ?_
  refine aw_icmp_lt 34 dX8_clash_24 (by decide) (fun c24 => ?_) (fun c24 => absurd (by simp only [i_lt, (show (6 : Int32).toInt = 6 from rfl)] <;> omega) c24)
  refine aw_iload_n 1 dX8_clash_34 rfl rfl ?_
  refine aw_iload_n 2 dX8_clash_35 rfl rfl ?_
  refine aw_icmp_ne 46 dX8_clash_36 (by decide) (fun c36 => absurd (by simp only [i_eq] <;> omega) c36) (fun c36 => ?_)
  refine aw_aload_n 0 dX8_clash_39 rfl rfl ?_
  refine aw_bipush (-3) dX8_clash_40 (by decide) ?_
  refine aw_eV [.int (-3)] [] lX8_70 vX8_refuse mX8_refuse dX8_clash_42 (X8_refuse3 hF) hF.1 rfl rfl rfl (Nat.le_of_ble_eq_true rfl) (by decide) (by decide) rfl (fun h17 q18 => ?_)
  exact aw_iret rfl dX8_clash_45 (by decide) (by decide) ⟨rfl, (kp_tr (kp_rf h) q18)⟩
set_option maxHeartbeats 4000000 in
theorem B25e0 {l : Launch} {G : xG} {h : List va_E} {a b : Int32} (hM : xF9 G h) (ha : 0 ≤ a.toInt ∧ a.toInt < 6)(hb : 0 ≤ b.toInt ∧ b.toInt < 6)(hab : a.toInt = b.toInt) : CE l G yX9_clash cX9_clash 4 (some .int) 2 0 0 [.ref (G.1 + 88), .int a, .int b, .int 0] h (some (.int (-3))) (fun _ => True) := by
  refine cm_of rfl (Nat.le_of_ble_eq_true rfl) [(0, .ref (G.1 + 88)), (1, .int a), (2, .int b), (3, .int 0)] rfl ?_
  refine aw_iload_n 1 dX9_clash_0 rfl rfl ?_
  refine aw_if_lt 8 dX9_clash_1 (by decide) (fun c1 => absurd c1 (by simp only [i_lt, (show (0 : Int32).toInt = 0 from rfl)] <;> omega)) (fun c1 => ?_)
  refine aw_iload_n 2 dX9_clash_4 rfl rfl ?_
  refine aw_if_ge 15 dX9_clash_5 (by decide) (fun c5 => ?_) (fun c5 => absurd (by simp only [i_le, (show (0 : Int32).toInt = 0 from rfl)] <;> omega) c5)
  refine aw_iload_n 1 dX9_clash_15 rfl rfl ?_
  refine aw_bipush (6) dX9_clash_16 (by decide) ?_
  refine aw_icmp_ge 27 dX9_clash_18 (by decide) (fun c18 => absurd c18 (by simp only [i_le, (show (6 : Int32).toInt = 6 from rfl)] <;> omega)) (fun c18 => ?_)
  refine aw_iload_n 2 dX9_clash_21 rfl rfl ?_
  refine aw_bipush (6) dX9_clash_22 (by decide) ?_
  refine aw_icmp_lt 34 dX9_clash_24 (by decide) (fun c24 => ?_) (fun c24 => absurd (by simp only [i_lt, (show (6 : Int32).toInt = 6 from rfl)] <;> omega) c24)
  refine aw_iload_n 1 dX9_clash_34 rfl rfl ?_
  refine aw_iload_n 2 dX9_clash_35 rfl rfl ?_
  refine aw_icmp_ne 46 dX9_clash_36 (by decide) (fun c36 => absurd (by simp only [i_eq] <;> omega) c36) (fun c36 => ?_)
  refine aw_aload_n 0 dX9_clash_39 rfl rfl ?_
  refine aw_bipush (-3) dX9_clash_40 (by decide) ?_
  refine aw_eV [.int (-3)] [] lX9_130 vX9_refuse mX9_refuse dX9_clash_42 (X9_refuse3 hM) hM.1 rfl rfl rfl (Nat.le_of_ble_eq_true rfl) (by decide) (by decide) rfl (fun h19 q20 => ?_)
  exact aw_iret rfl dX9_clash_45 (by decide) (by decide) ⟨rfl, trivial⟩
set_option maxHeartbeats 4000000 in
theorem A25o0 {l : Launch} {G : xG} {h : List va_E} {a b : Int32} (hF : xF8 G h) (ha : 0 ≤ a.toInt ∧ a.toInt < 6)(hb : 0 ≤ b.toInt ∧ b.toInt < 6)(hab : a.toInt ≠ b.toInt) : CE l G yX8_clash cX8_clash 4 (some .int) 2 0 0 [.ref (G.1 + 0), .int a, .int b, .int 0] h (some (.int 0)) (kp h) := by
  refine cm_of rfl (Nat.le_of_ble_eq_true rfl) [(0, .ref (G.1 + 0)), (1, .int a), (2, .int b), (3, .int 0)] rfl ?_
  obtain ⟨a0, ba, ea⟩ := i_nat (N := 6) ha.1 ha.2
  have ta : a.toInt = (a0 : Int) := i_toNat ea (by omega)
  obtain ⟨b0, bb, eb⟩ := i_nat (N := 6) hb.1 hb.2
  have tb : b.toInt = (b0 : Int) := i_toNat eb (by omega)
  refine aw_iload_n 1 dX8_clash_0 rfl rfl ?_
  refine aw_if_lt 8 dX8_clash_1 (by decide) (fun c1 => absurd c1 (by simp only [i_lt, (i_toNat (ea) (by omega)), (show (0 : Int32).toInt = 0 from rfl)] <;> omega)) (fun c1 => ?_)
  refine aw_iload_n 2 dX8_clash_4 rfl rfl ?_
  refine aw_if_ge 15 dX8_clash_5 (by decide) (fun c5 => ?_) (fun c5 => absurd (by simp only [i_le, (i_toNat (eb) (by omega)), (show (0 : Int32).toInt = 0 from rfl)] <;> omega) c5)
  refine aw_iload_n 1 dX8_clash_15 rfl rfl ?_
  refine aw_bipush (6) dX8_clash_16 (by decide) ?_
  refine aw_icmp_ge 27 dX8_clash_18 (by decide) (fun c18 => absurd c18 (by simp only [i_le, (i_toNat (ea) (by omega)), (show (6 : Int32).toInt = 6 from rfl)] <;> omega)) (fun c18 => ?_)
  refine aw_iload_n 2 dX8_clash_21 rfl rfl ?_
  refine aw_bipush (6) dX8_clash_22 (by decide) ?_
  refine aw_icmp_lt 34 dX8_clash_24 (by decide) (fun c24 => ?_) (fun c24 => absurd (by simp only [i_lt, (i_toNat (eb) (by omega)), (show (6 : Int32).toInt = 6 from rfl)] <;> omega) c24)
  refine aw_iload_n 1 dX8_clash_34 rfl rfl ?_
  refine aw_iload_n 2 dX8_clash_35 rfl rfl ?_
  refine aw_icmp_ne 46 dX8_clash_36 (by decide) (fun c36 => ?_) (fun c36 => absurd c36 (by simp only [i_eq, (i_toNat (ea) (by omega)), (i_toNat (eb) (by omega))] <;> omega))
  refine aw_aload_n 0 dX8_clash_46 rfl rfl ?_
  refine aw_get fX8_58 dX8_clash_47 hF.1 rfl ?_
  refine aw_iload_n 1 dX8_clash_50 rfl rfl ?_
  refine aw_iload_n 2 dX8_clash_51 rfl rfl ?_
  refine aw_iload_n 3 dX8_clash_52 rfl rfl ?_
  refine aw_eV [.int a, .int b, .int 0] [] lX8_230 vX0_tellClash mX0_tellClash dX8_clash_53 (X0_tellClash_0 hF ha hb) hF.2.2.2.2.2.2.2.2.2.2.2.2.2.2.2.2.2.2.2.2.2.2.2.2.2.2.2.2.2.2.2.2.2.2.2.2.1 rfl rfl rfl (Nat.le_of_ble_eq_true rfl) (by decide) (by decide) rfl (fun h21 q22 => ?_)
  refine aw_if_eq 63 dX8_clash_56 (by decide) (fun c56 => ?_) (fun c56 => absurd (by decide) c56)
  refine aw_iconst (0) dX8_clash_63 (by decide) ?_
  exact aw_iret rfl dX8_clash_64 (by decide) (by decide) ⟨rfl, (kp_tr (kp_rf h) q22)⟩
set_option maxHeartbeats 4000000 in
theorem B25o0 {l : Launch} {G : xG} {h : List va_E} {a b : Int32} (hM : xF9 G h) (ha : 0 ≤ a.toInt ∧ a.toInt < 6)(hb : 0 ≤ b.toInt ∧ b.toInt < 6)(hab : a.toInt ≠ b.toInt) : CE l G yX9_clash cX9_clash 4 (some .int) 2 0 0 [.ref (G.1 + 88), .int a, .int b, .int 0] h (some (.int 0)) (fun _ => True) := by
  refine cm_of rfl (Nat.le_of_ble_eq_true rfl) [(0, .ref (G.1 + 88)), (1, .int a), (2, .int b), (3, .int 0)] rfl ?_
  obtain ⟨a0, ba, ea⟩ := i_nat (N := 6) ha.1 ha.2
  have ta : a.toInt = (a0 : Int) := i_toNat ea (by omega)
  obtain ⟨b0, bb, eb⟩ := i_nat (N := 6) hb.1 hb.2
  have tb : b.toInt = (b0 : Int) := i_toNat eb (by omega)
  refine aw_iload_n 1 dX9_clash_0 rfl rfl ?_
  refine aw_if_lt 8 dX9_clash_1 (by decide) (fun c1 => absurd c1 (by simp only [i_lt, (i_toNat (ea) (by omega)), (show (0 : Int32).toInt = 0 from rfl)] <;> omega)) (fun c1 => ?_)
  refine aw_iload_n 2 dX9_clash_4 rfl rfl ?_
  refine aw_if_ge 15 dX9_clash_5 (by decide) (fun c5 => ?_) (fun c5 => absurd (by simp only [i_le, (i_toNat (eb) (by omega)), (show (0 : Int32).toInt = 0 from rfl)] <;> omega) c5)
  refine aw_iload_n 1 dX9_clash_15 rfl rfl ?_
  refine aw_bipush (6) dX9_clash_16 (by decide) ?_
  refine aw_icmp_ge 27 dX9_clash_18 (by decide) (fun c18 => absurd c18 (by simp only [i_le, (i_toNat (ea) (by omega)), (show (6 : Int32).toInt = 6 from rfl)] <;> omega)) (fun c18 => ?_)
  refine aw_iload_n 2 dX9_clash_21 rfl rfl ?_
  refine aw_bipush (6) dX9_clash_22 (by decide) ?_
  refine aw_icmp_lt 34 dX9_clash_24 (by decide) (fun c24 => ?_) (fun c24 => absurd (by simp only [i_lt, (i_toNat (eb) (by omega)), (show (6 : Int32).toInt = 6 from rfl)] <;> omega) c24)
  refine aw_iload_n 1 dX9_clash_34 rfl rfl ?_
  refine aw_iload_n 2 dX9_clash_35 rfl rfl ?_
  refine aw_icmp_ne 46 dX9_clash_36 (by decide) (fun c36 => ?_) (fun c36 => absurd c36 (by simp only [i_eq, (i_toNat (ea) (by omega)), (i_toNat (eb) (by omega))] <;> omega))
  refine aw_aload_n 0 dX9_clash_46 rfl rfl ?_
  refine aw_get fX9_122 dX9_clash_47 hM.1 rfl ?_
  refine aw_bipush (6) dX9_clash_50 (by decide) ?_
  refine aw_iload_n 1 dX9_clash_52 rfl rfl ?_
  refine aw_imul dX9_clash_53 ?_
  refine aw_iload_n 2 dX9_clash_54 rfl rfl ?_
  refine aw_iadd dX9_clash_55 ?_
  refine aw_zald ((6 * a0) + b0) (nv_add (nv_mul (rfl) (ea)) (eb)) (by omega) (by decide) dX9_clash_56 hM.2.2.2.2.2.2.2.2.2.2.2.2.2.2.2.2.2.2.2.2.2.2.2.2.2.2.2.2.2.2.2.2.2.2.2.2 ?_
  refine aw_toe 0 (rfl) ?_
  refine aw_iload_n 3 dX9_clash_57 rfl rfl ?_
  refine aw_icmp_ne 63 dX9_clash_58 (by decide) (fun c58 => absurd (by decide) c58) (fun c58 => ?_)
  refine aw_iconst (0) dX9_clash_61 (by decide) ?_
  exact aw_iret rfl dX9_clash_62 (by decide) (by decide) ⟨rfl, trivial⟩
set_option maxHeartbeats 4000000 in
theorem A25a1 {l : Launch} {G : xG} {h : List va_E} {a b : Int32} (hF : xF8 G h) (ha : a.toInt < 0) : CE l G yX8_clash cX8_clash 4 (some .int) 2 0 0 [.ref (G.1 + 0), .int a, .int b, .int 1] h (some (.int (-4))) (kp h) := by
  refine cm_of rfl (Nat.le_of_ble_eq_true rfl) [(0, .ref (G.1 + 0)), (1, .int a), (2, .int b), (3, .int 1)] rfl ?_
  refine aw_iload_n 1 dX8_clash_0 rfl rfl ?_
  refine aw_if_lt 8 dX8_clash_1 (by decide) (fun c1 => ?_) (fun c1 => absurd (by simp only [i_lt, (show (0 : Int32).toInt = 0 from rfl)] <;> omega) c1)
  refine aw_aload_n 0 dX8_clash_8 rfl rfl ?_
  refine aw_bipush (-4) dX8_clash_9 (by decide) ?_
  refine aw_eV [.int (-4)] [] lX8_70 vX8_refuse mX8_refuse dX8_clash_11 (X8_refuse4 hF) hF.1 rfl rfl rfl (Nat.le_of_ble_eq_true rfl) (by decide) (by decide) rfl (fun h23 q24 => ?_)
  exact aw_iret rfl dX8_clash_14 (by decide) (by decide) ⟨rfl, (kp_tr (kp_rf h) q24)⟩
set_option maxHeartbeats 4000000 in
theorem B25a1 {l : Launch} {G : xG} {h : List va_E} {a b : Int32} (hM : xF9 G h) (ha : a.toInt < 0) : CE l G yX9_clash cX9_clash 4 (some .int) 2 0 0 [.ref (G.1 + 88), .int a, .int b, .int 1] h (some (.int (-4))) (fun _ => True) := by
  refine cm_of rfl (Nat.le_of_ble_eq_true rfl) [(0, .ref (G.1 + 88)), (1, .int a), (2, .int b), (3, .int 1)] rfl ?_
  refine aw_iload_n 1 dX9_clash_0 rfl rfl ?_
  refine aw_if_lt 8 dX9_clash_1 (by decide) (fun c1 => ?_) (fun c1 => absurd (by simp only [i_lt, (show (0 : Int32).toInt = 0 from rfl)] <;> omega) c1)
  refine aw_aload_n 0 dX9_clash_8 rfl rfl ?_
  refine aw_bipush (-4) dX9_clash_9 (by decide) ?_
  refine aw_eV [.int (-4)] [] lX9_130 vX9_refuse mX9_refuse dX9_clash_11 (X9_refuse4 hM) hM.1 rfl rfl rfl (Nat.le_of_ble_eq_true rfl) (by decide) (by decide) rfl (fun h25 q26 => ?_)
  exact aw_iret rfl dX9_clash_14 (by decide) (by decide) ⟨rfl, trivial⟩
set_option maxHeartbeats 4000000 in
theorem A25b1 {l : Launch} {G : xG} {h : List va_E} {a b : Int32} (hF : xF8 G h) (ha : 0 ≤ a.toInt) (hb : b.toInt < 0) : CE l G yX8_clash cX8_clash 4 (some .int) 2 0 0 [.ref (G.1 + 0), .int a, .int b, .int 1] h (some (.int (-4))) (kp h) := by
  refine cm_of rfl (Nat.le_of_ble_eq_true rfl) [(0, .ref (G.1 + 0)), (1, .int a), (2, .int b), (3, .int 1)] rfl ?_
  refine aw_iload_n 1 dX8_clash_0 rfl rfl ?_
  refine aw_if_lt 8 dX8_clash_1 (by decide) (fun c1 => absurd c1 (by simp only [i_lt, (show (0 : Int32).toInt = 0 from rfl)] <;> omega)) (fun c1 => ?_)
  refine aw_iload_n 2 dX8_clash_4 rfl rfl ?_
  refine aw_if_ge 15 dX8_clash_5 (by decide) (fun c5 => absurd c5 (by simp only [i_le, (show (0 : Int32).toInt = 0 from rfl)] <;> omega)) (fun c5 => ?_)
  refine aw_aload_n 0 dX8_clash_8 rfl rfl ?_
  refine aw_bipush (-4) dX8_clash_9 (by decide) ?_
  refine aw_eV [.int (-4)] [] lX8_70 vX8_refuse mX8_refuse dX8_clash_11 (X8_refuse4 hF) hF.1 rfl rfl rfl (Nat.le_of_ble_eq_true rfl) (by decide) (by decide) rfl (fun h27 q28 => ?_)
  exact aw_iret rfl dX8_clash_14 (by decide) (by decide) ⟨rfl, (kp_tr (kp_rf h) q28)⟩
set_option maxHeartbeats 4000000 in
theorem B25b1 {l : Launch} {G : xG} {h : List va_E} {a b : Int32} (hM : xF9 G h) (ha : 0 ≤ a.toInt) (hb : b.toInt < 0) : CE l G yX9_clash cX9_clash 4 (some .int) 2 0 0 [.ref (G.1 + 88), .int a, .int b, .int 1] h (some (.int (-4))) (fun _ => True) := by
  refine cm_of rfl (Nat.le_of_ble_eq_true rfl) [(0, .ref (G.1 + 88)), (1, .int a), (2, .int b), (3, .int 1)] rfl ?_
  refine aw_iload_n 1 dX9_clash_0 rfl rfl ?_
  refine aw_if_lt 8 dX9_clash_1 (by decide) (fun c1 => absurd c1 (by simp only [i_lt, (show (0 : Int32).toInt = 0 from rfl)] <;> omega)) (fun c1 => ?_)
  refine aw_iload_n 2 dX9_clash_4 rfl rfl ?_
  refine aw_if_ge 15 dX9_clash_5 (by decide) (fun c5 => absurd c5 (by simp only [i_le, (show (0 : Int32).toInt = 0 from rfl)] <;> omega)) (fun c5 => ?_)
  refine aw_aload_n 0 dX9_clash_8 rfl rfl ?_
  refine aw_bipush (-4) dX9_clash_9 (by decide) ?_
  refine aw_eV [.int (-4)] [] lX9_130 vX9_refuse mX9_refuse dX9_clash_11 (X9_refuse4 hM) hM.1 rfl rfl rfl (Nat.le_of_ble_eq_true rfl) (by decide) (by decide) rfl (fun h29 q30 => ?_)
  exact aw_iret rfl dX9_clash_14 (by decide) (by decide) ⟨rfl, trivial⟩
set_option maxHeartbeats 4000000 in
theorem A25c1 {l : Launch} {G : xG} {h : List va_E} {a b : Int32} (hF : xF8 G h) (ha : 6 ≤ a.toInt) (hb : 0 ≤ b.toInt) : CE l G yX8_clash cX8_clash 4 (some .int) 2 0 0 [.ref (G.1 + 0), .int a, .int b, .int 1] h (some (.int (-6))) (kp h) := by
  refine cm_of rfl (Nat.le_of_ble_eq_true rfl) [(0, .ref (G.1 + 0)), (1, .int a), (2, .int b), (3, .int 1)] rfl ?_
  refine aw_iload_n 1 dX8_clash_0 rfl rfl ?_
  refine aw_if_lt 8 dX8_clash_1 (by decide) (fun c1 => absurd c1 (by simp only [i_lt, (show (0 : Int32).toInt = 0 from rfl)] <;> omega)) (fun c1 => ?_)
  refine aw_iload_n 2 dX8_clash_4 rfl rfl ?_
  refine aw_if_ge 15 dX8_clash_5 (by decide) (fun c5 => ?_) (fun c5 => absurd (by simp only [i_le, (show (0 : Int32).toInt = 0 from rfl)] <;> omega) c5)
  refine aw_iload_n 1 dX8_clash_15 rfl rfl ?_
  refine aw_bipush (6) dX8_clash_16 (by decide) ?_
  refine aw_icmp_ge 27 dX8_clash_18 (by decide) (fun c18 => ?_) (fun c18 => absurd (by simp only [i_le, (show (6 : Int32).toInt = 6 from rfl)] <;> omega) c18)
  refine aw_aload_n 0 dX8_clash_27 rfl rfl ?_
  refine aw_bipush (-6) dX8_clash_28 (by decide) ?_
  refine aw_eV [.int (-6)] [] lX8_70 vX8_refuse mX8_refuse dX8_clash_30 (X8_refuse6 hF) hF.1 rfl rfl rfl (Nat.le_of_ble_eq_true rfl) (by decide) (by decide) rfl (fun h31 q32 => ?_)
  exact aw_iret rfl dX8_clash_33 (by decide) (by decide) ⟨rfl, (kp_tr (kp_rf h) q32)⟩
set_option maxHeartbeats 4000000 in
theorem B25c1 {l : Launch} {G : xG} {h : List va_E} {a b : Int32} (hM : xF9 G h) (ha : 6 ≤ a.toInt) (hb : 0 ≤ b.toInt) : CE l G yX9_clash cX9_clash 4 (some .int) 2 0 0 [.ref (G.1 + 88), .int a, .int b, .int 1] h (some (.int (-6))) (fun _ => True) := by
  refine cm_of rfl (Nat.le_of_ble_eq_true rfl) [(0, .ref (G.1 + 88)), (1, .int a), (2, .int b), (3, .int 1)] rfl ?_
  refine aw_iload_n 1 dX9_clash_0 rfl rfl ?_
  refine aw_if_lt 8 dX9_clash_1 (by decide) (fun c1 => absurd c1 (by simp only [i_lt, (show (0 : Int32).toInt = 0 from rfl)] <;> omega)) (fun c1 => ?_)
  refine aw_iload_n 2 dX9_clash_4 rfl rfl ?_
  refine aw_if_ge 15 dX9_clash_5 (by decide) (fun c5 => ?_) (fun c5 => absurd (by simp only [i_le, (show (0 : Int32).toInt = 0 from rfl)] <;> omega) c5)
  refine aw_iload_n 1 dX9_clash_15 rfl rfl ?_
  refine aw_bipush (6) dX9_clash_16 (by decide) ?_
  refine aw_icmp_ge 27 dX9_clash_18 (by decide) (fun c18 => ?_) (fun c18 => absurd (by simp only [i_le, (show (6 : Int32).toInt = 6 from rfl)] <;> omega) c18)
  refine aw_aload_n 0 dX9_clash_27 rfl rfl ?_
  refine aw_bipush (-6) dX9_clash_28 (by decide) ?_
  refine aw_eV [.int (-6)] [] lX9_130 vX9_refuse mX9_refuse dX9_clash_30 (X9_refuse6 hM) hM.1 rfl rfl rfl (Nat.le_of_ble_eq_true rfl) (by decide) (by decide) rfl (fun h33 q34 => ?_)
  exact aw_iret rfl dX9_clash_33 (by decide) (by decide) ⟨rfl, trivial⟩
set_option maxHeartbeats 4000000 in
theorem A25d1 {l : Launch} {G : xG} {h : List va_E} {a b : Int32} (hF : xF8 G h) (ha : 0 ≤ a.toInt ∧ a.toInt < 6)(hb : 6 ≤ b.toInt) : CE l G yX8_clash cX8_clash 4 (some .int) 2 0 0 [.ref (G.1 + 0), .int a, .int b, .int 1] h (some (.int (-6))) (kp h) := by
  refine cm_of rfl (Nat.le_of_ble_eq_true rfl) [(0, .ref (G.1 + 0)), (1, .int a), (2, .int b), (3, .int 1)] rfl ?_
  refine aw_iload_n 1 dX8_clash_0 rfl rfl ?_
  refine aw_if_lt 8 dX8_clash_1 (by decide) (fun c1 => absurd c1 (by simp only [i_lt, (show (0 : Int32).toInt = 0 from rfl)] <;> omega)) (fun c1 => ?_)
  refine aw_iload_n 2 dX8_clash_4 rfl rfl ?_
  refine aw_if_ge 15 dX8_clash_5 (by decide) (fun c5 => ?_) (fun c5 => absurd (by simp only [i_le, (show (0 : Int32).toInt = 0 from rfl)] <;> omega) c5)
  refine aw_iload_n 1 dX8_clash_15 rfl rfl ?_
  refine aw_bipush (6) dX8_clash_16 (by decide) ?_
  refine aw_icmp_ge 27 dX8_clash_18 (by decide) (fun c18 => absurd c18 (by simp only [i_le, (show (6 : Int32).toInt = 6 from rfl)] <;> omega)) (fun c18 => ?_)
  refine aw_iload_n 2 dX8_clash_21 rfl rfl ?_
  refine aw_bipush (6) dX8_clash_22 (by decide) ?_
  refine aw_icmp_lt 34 dX8_clash_24 (by decide) (fun c24 => absurd c24 (by simp only [i_lt, (show (6 : Int32).toInt = 6 from rfl)] <;> omega)) (fun c24 => ?_)
  refine aw_aload_n 0 dX8_clash_27 rfl rfl ?_
  refine aw_bipush (-6) dX8_clash_28 (by decide) ?_
  refine aw_eV [.int (-6)] [] lX8_70 vX8_refuse mX8_refuse dX8_clash_30 (X8_refuse6 hF) hF.1 rfl rfl rfl (Nat.le_of_ble_eq_true rfl) (by decide) (by decide) rfl (fun h35 q36 => ?_)
  exact aw_iret rfl dX8_clash_33 (by decide) (by decide) ⟨rfl, (kp_tr (kp_rf h) q36)⟩
set_option maxHeartbeats 4000000 in
theorem B25d1 {l : Launch} {G : xG} {h : List va_E} {a b : Int32} (hM : xF9 G h) (ha : 0 ≤ a.toInt ∧ a.toInt < 6)(hb : 6 ≤ b.toInt) : CE l G yX9_clash cX9_clash 4 (some .int) 2 0 0 [.ref (G.1 + 88), .int a, .int b, .int 1] h (some (.int (-6))) (fun _ => True) := by
  refine cm_of rfl (Nat.le_of_ble_eq_true rfl) [(0, .ref (G.1 + 88)), (1, .int a), (2, .int b), (3, .int 1)] rfl ?_
  refine aw_iload_n 1 dX9_clash_0 rfl rfl ?_
  refine aw_if_lt 8 dX9_clash_1 (by decide) (fun c1 => absurd c1 (by simp only [i_lt, (show (0 : Int32).toInt = 0 from rfl)] <;> omega)) (fun c1 => ?_)
  refine aw_iload_n 2 dX9_clash_4 rfl rfl ?_
  refine aw_if_ge 15 dX9_clash_5 (by decide) (fun c5 => ?_) (fun c5 => absurd (by simp only [i_le, (show (0 : Int32).toInt = 0 from rfl)] <;> omega) c5)
  refine aw_iload_n 1 dX9_clash_15 rfl rfl ?_
  refine aw_bipush (6) dX9_clash_16 (by decide) ?_
  refine aw_icmp_ge 27 dX9_clash_18 (by decide) (fun c18 => absurd c18 (by simp only [i_le, (show (6 : Int32).toInt = 6 from rfl)] <;> omega)) (fun c18 => ?_)
  refine aw_iload_n 2 dX9_clash_21 rfl rfl ?_
  refine aw_bipush (6) dX9_clash_22 (by decide) ?_
  refine aw_icmp_lt 34 dX9_clash_24 (by decide) (fun c24 => absurd c24 (by simp only [i_lt, (show (6 : Int32).toInt = 6 from rfl)] <;> omega)) (fun c24 => ?_)
  refine aw_aload_n 0 dX9_clash_27 rfl rfl ?_
  refine aw_bipush (-6) dX9_clash_28 (by decide) ?_
  refine aw_eV [.int (-6)] [] lX9_130 vX9_refuse mX9_refuse dX9_clash_30 (X9_refuse6 hM) hM.1 rfl rfl rfl (Nat.le_of_ble_eq_true rfl) (by decide) (by decide) rfl (fun h37 q38 => ?_)
  exact aw_iret rfl dX9_clash_33 (by decide) (by decide) ⟨rfl, trivial⟩
set_option maxHeartbeats 4000000 in
theorem A25e1 {l : Launch} {G : xG} {h : List va_E} {a b : Int32} (hF : xF8 G h) (ha : 0 ≤ a.toInt ∧ a.toInt < 6)(hb : 0 ≤ b.toInt ∧ b.toInt < 6)(hab : a.toInt = b.toInt) : CE l G yX8_clash cX8_clash 4 (some .int) 2 0 0 [.ref (G.1 + 0), .int a, .int b, .int 1] h (some (.int (-3))) (kp h) := by
  refine cm_of rfl (Nat.le_of_ble_eq_true rfl) [(0, .ref (G.1 + 0)), (1, .int a), (2, .int b), (3, .int 1)] rfl ?_
  refine aw_iload_n 1 dX8_clash_0 rfl rfl ?_
  refine aw_if_lt 8 dX8_clash_1 (by decide) (fun c1 => absurd c1 (by simp only [i_lt, (show (0 : Int32).toInt = 0 from rfl)] <;> omega)) (fun c1 => ?_)
  refine aw_iload_n 2 dX8_clash_4 rfl rfl ?_
  refine aw_if_ge 15 dX8_clash_5 (by decide) (fun c5 => ?_) (fun c5 => absurd (by simp only [i_le, (show (0 : Int32).toInt = 0 from rfl)] <;> omega) c5)
  refine aw_iload_n 1 dX8_clash_15 rfl rfl ?_
  refine aw_bipush (6) dX8_clash_16 (by decide) ?_
  refine aw_icmp_ge 27 dX8_clash_18 (by decide) (fun c18 => absurd c18 (by simp only [i_le, (show (6 : Int32).toInt = 6 from rfl)] <;> omega)) (fun c18 => ?_)
  refine aw_iload_n 2 dX8_clash_21 rfl rfl ?_
  refine aw_bipush (6) dX8_clash_22 (by decide) ?_
  refine aw_icmp_lt 34 dX8_clash_24 (by decide) (fun c24 => ?_) (fun c24 => absurd (by simp only [i_lt, (show (6 : Int32).toInt = 6 from rfl)] <;> omega) c24)
  refine aw_iload_n 1 dX8_clash_34 rfl rfl ?_
  refine aw_iload_n 2 dX8_clash_35 rfl rfl ?_
  refine aw_icmp_ne 46 dX8_clash_36 (by decide) (fun c36 => absurd (by simp only [i_eq] <;> omega) c36) (fun c36 => ?_)
  refine aw_aload_n 0 dX8_clash_39 rfl rfl ?_
  refine aw_bipush (-3) dX8_clash_40 (by decide) ?_
  refine aw_eV [.int (-3)] [] lX8_70 vX8_refuse mX8_refuse dX8_clash_42 (X8_refuse3 hF) hF.1 rfl rfl rfl (Nat.le_of_ble_eq_true rfl) (by decide) (by decide) rfl (fun h39 q40 => ?_)
  exact aw_iret rfl dX8_clash_45 (by decide) (by decide) ⟨rfl, (kp_tr (kp_rf h) q40)⟩
set_option maxHeartbeats 4000000 in
theorem B25e1 {l : Launch} {G : xG} {h : List va_E} {a b : Int32} (hM : xF9 G h) (ha : 0 ≤ a.toInt ∧ a.toInt < 6)(hb : 0 ≤ b.toInt ∧ b.toInt < 6)(hab : a.toInt = b.toInt) : CE l G yX9_clash cX9_clash 4 (some .int) 2 0 0 [.ref (G.1 + 88), .int a, .int b, .int 1] h (some (.int (-3))) (fun _ => True) := by
  refine cm_of rfl (Nat.le_of_ble_eq_true rfl) [(0, .ref (G.1 + 88)), (1, .int a), (2, .int b), (3, .int 1)] rfl ?_
  refine aw_iload_n 1 dX9_clash_0 rfl rfl ?_
  refine aw_if_lt 8 dX9_clash_1 (by decide) (fun c1 => absurd c1 (by simp only [i_lt, (show (0 : Int32).toInt = 0 from rfl)] <;> omega)) (fun c1 => ?_)
  refine aw_iload_n 2 dX9_clash_4 rfl rfl ?_
  refine aw_if_ge 15 dX9_clash_5 (by decide) (fun c5 => ?_) (fun c5 => absurd (by simp only [i_le, (show (0 : Int32).toInt = 0 from rfl)] <;> omega) c5)
  refine aw_iload_n 1 dX9_clash_15 rfl rfl ?_
  refine aw_bipush (6) dX9_clash_16 (by decide) ?_
  refine aw_icmp_ge 27 dX9_clash_18 (by decide) (fun c18 => absurd c18 (by simp only [i_le, (show (6 : Int32).toInt = 6 from rfl)] <;> omega)) (fun c18 => ?_)
  refine aw_iload_n 2 dX9_clash_21 rfl rfl ?_
  refine aw_bipush (6) dX9_clash_22 (by decide) ?_
  refine aw_icmp_lt 34 dX9_clash_24 (by decide) (fun c24 => ?_) (fun c24 => absurd (by simp only [i_lt, (show (6 : Int32).toInt = 6 from rfl)] <;> omega) c24)
  refine aw_iload_n 1 dX9_clash_34 rfl rfl ?_
  refine aw_iload_n 2 dX9_clash_35 rfl rfl ?_
  refine aw_icmp_ne 46 dX9_clash_36 (by decide) (fun c36 => absurd (by simp only [i_eq] <;> omega) c36) (fun c36 => ?_)
  refine aw_aload_n 0 dX9_clash_39 rfl rfl ?_
  refine aw_bipush (-3) dX9_clash_40 (by decide) ?_
  refine aw_eV [.int (-3)] [] lX9_130 vX9_refuse mX9_refuse dX9_clash_42 (X9_refuse3 hM) hM.1 rfl rfl rfl (Nat.le_of_ble_eq_true rfl) (by decide) (by decide) rfl (fun h41 q42 => ?_)
  exact aw_iret rfl dX9_clash_45 (by decide) (by decide) ⟨rfl, trivial⟩
set_option maxHeartbeats 4000000 in
theorem A25o1 {l : Launch} {G : xG} {h : List va_E} {a b : Int32} (hF : xF8 G h) (ha : 0 ≤ a.toInt ∧ a.toInt < 6)(hb : 0 ≤ b.toInt ∧ b.toInt < 6)(hab : a.toInt ≠ b.toInt) : CE l G yX8_clash cX8_clash 4 (some .int) 2 0 0 [.ref (G.1 + 0), .int a, .int b, .int 1] h (some (.int 1)) (kp h) := by
  refine cm_of rfl (Nat.le_of_ble_eq_true rfl) [(0, .ref (G.1 + 0)), (1, .int a), (2, .int b), (3, .int 1)] rfl ?_
  obtain ⟨a0, ba, ea⟩ := i_nat (N := 6) ha.1 ha.2
  have ta : a.toInt = (a0 : Int) := i_toNat ea (by omega)
  obtain ⟨b0, bb, eb⟩ := i_nat (N := 6) hb.1 hb.2
  have tb : b.toInt = (b0 : Int) := i_toNat eb (by omega)
  refine aw_iload_n 1 dX8_clash_0 rfl rfl ?_
  refine aw_if_lt 8 dX8_clash_1 (by decide) (fun c1 => absurd c1 (by simp only [i_lt, (i_toNat (ea) (by omega)), (show (0 : Int32).toInt = 0 from rfl)] <;> omega)) (fun c1 => ?_)
  refine aw_iload_n 2 dX8_clash_4 rfl rfl ?_
  refine aw_if_ge 15 dX8_clash_5 (by decide) (fun c5 => ?_) (fun c5 => absurd (by simp only [i_le, (i_toNat (eb) (by omega)), (show (0 : Int32).toInt = 0 from rfl)] <;> omega) c5)
  refine aw_iload_n 1 dX8_clash_15 rfl rfl ?_
  refine aw_bipush (6) dX8_clash_16 (by decide) ?_
  refine aw_icmp_ge 27 dX8_clash_18 (by decide) (fun c18 => absurd c18 (by simp only [i_le, (i_toNat (ea) (by omega)), (show (6 : Int32).toInt = 6 from rfl)] <;> omega)) (fun c18 => ?_)
  refine aw_iload_n 2 dX8_clash_21 rfl rfl ?_
  refine aw_bipush (6) dX8_clash_22 (by decide) ?_
  refine aw_icmp_lt 34 dX8_clash_24 (by decide) (fun c24 => ?_) (fun c24 => absurd (by simp only [i_lt, (i_toNat (eb) (by omega)), (show (6 : Int32).toInt = 6 from rfl)] <;> omega) c24)
  refine aw_iload_n 1 dX8_clash_34 rfl rfl ?_
  refine aw_iload_n 2 dX8_clash_35 rfl rfl ?_
  refine aw_icmp_ne 46 dX8_clash_36 (by decide) (fun c36 => ?_) (fun c36 => absurd c36 (by simp only [i_eq, (i_toNat (ea) (by omega)), (i_toNat (eb) (by omega))] <;> omega))
  refine aw_aload_n 0 dX8_clash_46 rfl rfl ?_
  refine aw_get fX8_58 dX8_clash_47 hF.1 rfl ?_
  refine aw_iload_n 1 dX8_clash_50 rfl rfl ?_
  refine aw_iload_n 2 dX8_clash_51 rfl rfl ?_
  refine aw_iload_n 3 dX8_clash_52 rfl rfl ?_
  refine aw_eV [.int a, .int b, .int 1] [] lX8_230 vX0_tellClash mX0_tellClash dX8_clash_53 (X0_tellClash_1 hF ha hb) hF.2.2.2.2.2.2.2.2.2.2.2.2.2.2.2.2.2.2.2.2.2.2.2.2.2.2.2.2.2.2.2.2.2.2.2.2.1 rfl rfl rfl (Nat.le_of_ble_eq_true rfl) (by decide) (by decide) rfl (fun h43 q44 => ?_)
  refine aw_if_eq 63 dX8_clash_56 (by decide) (fun c56 => absurd c56 (by decide)) (fun c56 => ?_)
  refine aw_iconst (1) dX8_clash_59 (by decide) ?_
  refine aw_goto 64 dX8_clash_60 (by decide) ?_
  exact aw_iret rfl dX8_clash_64 (by decide) (by decide) ⟨rfl, (kp_tr (kp_rf h) q44)⟩
set_option maxHeartbeats 4000000 in
theorem B25o1 {l : Launch} {G : xG} {h : List va_E} {a b : Int32} (hM : xF9 G h) (ha : 0 ≤ a.toInt ∧ a.toInt < 6)(hb : 0 ≤ b.toInt ∧ b.toInt < 6)(hab : a.toInt ≠ b.toInt) : CE l G yX9_clash cX9_clash 4 (some .int) 2 0 0 [.ref (G.1 + 88), .int a, .int b, .int 1] h (some (.int 1)) (fun _ => True) := by
  refine cm_of rfl (Nat.le_of_ble_eq_true rfl) [(0, .ref (G.1 + 88)), (1, .int a), (2, .int b), (3, .int 1)] rfl ?_
  obtain ⟨a0, ba, ea⟩ := i_nat (N := 6) ha.1 ha.2
  have ta : a.toInt = (a0 : Int) := i_toNat ea (by omega)
  obtain ⟨b0, bb, eb⟩ := i_nat (N := 6) hb.1 hb.2
  have tb : b.toInt = (b0 : Int) := i_toNat eb (by omega)
  refine aw_iload_n 1 dX9_clash_0 rfl rfl ?_
  refine aw_if_lt 8 dX9_clash_1 (by decide) (fun c1 => absurd c1 (by simp only [i_lt, (i_toNat (ea) (by omega)), (show (0 : Int32).toInt = 0 from rfl)] <;> omega)) (fun c1 => ?_)
  refine aw_iload_n 2 dX9_clash_4 rfl rfl ?_
  refine aw_if_ge 15 dX9_clash_5 (by decide) (fun c5 => ?_) (fun c5 => absurd (by simp only [i_le, (i_toNat (eb) (by omega)), (show (0 : Int32).toInt = 0 from rfl)] <;> omega) c5)
  refine aw_iload_n 1 dX9_clash_15 rfl rfl ?_
  refine aw_bipush (6) dX9_clash_16 (by decide) ?_
  refine aw_icmp_ge 27 dX9_clash_18 (by decide) (fun c18 => absurd c18 (by simp only [i_le, (i_toNat (ea) (by omega)), (show (6 : Int32).toInt = 6 from rfl)] <;> omega)) (fun c18 => ?_)
  refine aw_iload_n 2 dX9_clash_21 rfl rfl ?_
  refine aw_bipush (6) dX9_clash_22 (by decide) ?_
  refine aw_icmp_lt 34 dX9_clash_24 (by decide) (fun c24 => ?_) (fun c24 => absurd (by simp only [i_lt, (i_toNat (eb) (by omega)), (show (6 : Int32).toInt = 6 from rfl)] <;> omega) c24)
  refine aw_iload_n 1 dX9_clash_34 rfl rfl ?_
  refine aw_iload_n 2 dX9_clash_35 rfl rfl ?_
  refine aw_icmp_ne 46 dX9_clash_36 (by decide) (fun c36 => ?_) (fun c36 => absurd c36 (by simp only [i_eq, (i_toNat (ea) (by omega)), (i_toNat (eb) (by omega))] <;> omega))
  refine aw_aload_n 0 dX9_clash_46 rfl rfl ?_
  refine aw_get fX9_122 dX9_clash_47 hM.1 rfl ?_
  refine aw_bipush (6) dX9_clash_50 (by decide) ?_
  refine aw_iload_n 1 dX9_clash_52 rfl rfl ?_
  refine aw_imul dX9_clash_53 ?_
  refine aw_iload_n 2 dX9_clash_54 rfl rfl ?_
  refine aw_iadd dX9_clash_55 ?_
  refine aw_zald ((6 * a0) + b0) (nv_add (nv_mul (rfl) (ea)) (eb)) (by omega) (by decide) dX9_clash_56 hM.2.2.2.2.2.2.2.2.2.2.2.2.2.2.2.2.2.2.2.2.2.2.2.2.2.2.2.2.2.2.2.2.2.2.2.2 ?_
  refine aw_toe 0 (rfl) ?_
  refine aw_iload_n 3 dX9_clash_57 rfl rfl ?_
  refine aw_icmp_ne 63 dX9_clash_58 (by decide) (fun c58 => ?_) (fun c58 => absurd c58 (by decide))
  refine aw_aload_n 0 dX9_clash_63 rfl rfl ?_
  refine aw_get fX9_122 dX9_clash_64 hM.1 rfl ?_
  refine aw_bipush (6) dX9_clash_67 (by decide) ?_
  refine aw_iload_n 1 dX9_clash_69 rfl rfl ?_
  refine aw_imul dX9_clash_70 ?_
  refine aw_iload_n 2 dX9_clash_71 rfl rfl ?_
  refine aw_iadd dX9_clash_72 ?_
  refine aw_iload_n 3 dX9_clash_73 rfl rfl ?_
  refine aw_zast ((6 * a0) + b0) (nv_add (nv_mul (rfl) (ea)) (eb)) (by omega) (by decide) dX9_clash_74 hM.2.2.2.2.2.2.2.2.2.2.2.2.2.2.2.2.2.2.2.2.2.2.2.2.2.2.2.2.2.2.2.2.2.2.2.2 ?_
  refine aw_aload_n 0 dX9_clash_75 rfl rfl ?_
  refine aw_get fX9_122 dX9_clash_76 (gn (by decide) (hM.1)) rfl ?_
  refine aw_bipush (6) dX9_clash_79 (by decide) ?_
  refine aw_iload_n 2 dX9_clash_81 rfl rfl ?_
  refine aw_imul dX9_clash_82 ?_
  refine aw_iload_n 1 dX9_clash_83 rfl rfl ?_
  refine aw_iadd dX9_clash_84 ?_
  refine aw_iload_n 3 dX9_clash_85 rfl rfl ?_
  refine aw_zast ((6 * b0) + a0) (nv_add (nv_mul (rfl) (eb)) (ea)) (by omega) (by decide) dX9_clash_86 (gs hM.2.2.2.2.2.2.2.2.2.2.2.2.2.2.2.2.2.2.2.2.2.2.2.2.2.2.2.2.2.2.2.2.2.2.2.2) ?_
  refine aw_iconst (1) dX9_clash_87 (by decide) ?_
  exact aw_iret rfl dX9_clash_88 (by decide) (by decide) ⟨rfl, trivial⟩
set_option maxHeartbeats 4000000 in
theorem A28_0 {l : Launch} {G : xG} {h : List va_E} (hF : xF8 G h)  : CE l G yX8_count cX8_count 2 (some .int) 2 0 0 [.ref (G.1 + 0), .int 0] h (some (.int 0)) (kp h) := by
  refine cm_of rfl (Nat.le_of_ble_eq_true rfl) [(0, .ref (G.1 + 0)), (1, .int 0)] rfl ?_
  refine aw_iload_n 1 dX8_count_0 rfl rfl ?_
  refine aw_tableIn 56 dX8_count_1 (by decide) (by decide) rfl (by decide) ?_
  refine aw_aload_n 0 dX8_count_56 rfl rfl ?_
  refine aw_get fX8_20 dX8_count_57 hF.1 rfl ?_
  refine aw_get fX8_91 dX8_count_60 hF.2.1 rfl ?_
  refine aw_iload_n 1 dX8_count_63 rfl rfl ?_
  refine aw_iald 0 (rfl) (by decide) (by decide) dX8_count_64 hF.2.2.2.2.2.1 ?_
  refine aw_toe 0 (rfl) ?_
  exact aw_iret rfl dX8_count_65 (by decide) (by decide) ⟨rfl, kp_rf h⟩
set_option maxHeartbeats 4000000 in
theorem B28_0 {l : Launch} {G : xG} {h : List va_E} (hM : xF9 G h)  : CE l G yX9_count cX9_count 5 (some .int) 2 0 0 [.ref (G.1 + 88), .int 0] h (some (.int 0)) (fun _ => True) := by
  refine cm_of rfl (Nat.le_of_ble_eq_true rfl) [(0, .ref (G.1 + 88)), (1, .int 0)] rfl ?_
  refine aw_iload_n 1 dX9_count_0 rfl rfl ?_
  refine aw_bipush (10) dX9_count_1 (by decide) ?_
  refine aw_icmp_le 22 dX9_count_3 (by decide) (fun c3 => ?_) (fun c3 => absurd (by decide) c3)
  refine aw_iload_n 1 dX9_count_22 rfl rfl ?_
  refine aw_iconst (4) dX9_count_23 (by decide) ?_
  refine aw_dS [.int 0, .int 4] [] lX9_126 sX9_isIn mX9_isIn dX9_count_24 (X9_isIn4_t (by decide)) rfl (Nat.le_of_ble_eq_true rfl) (by decide) (by decide) rfl ?_
  refine aw_if_eq 37 dX9_count_27 (by decide) (fun c27 => absurd c27 (by decide)) (fun c27 => ?_)
  refine aw_aload_n 0 dX9_count_30 rfl rfl ?_
  refine aw_get fX9_19 dX9_count_31 hM.1 rfl ?_
  refine aw_iload_n 1 dX9_count_34 rfl rfl ?_
  refine aw_iald 0 (rfl) (by decide) (by decide) dX9_count_35 hM.2.2.2.2.1 ?_
  refine aw_toe 0 (rfl) ?_
  exact aw_iret rfl dX9_count_36 (by decide) (by decide) ⟨rfl, trivial⟩
set_option maxHeartbeats 4000000 in
theorem A28_1 {l : Launch} {G : xG} {h : List va_E} (hF : xF8 G h)  : CE l G yX8_count cX8_count 2 (some .int) 2 0 0 [.ref (G.1 + 0), .int 1] h (some (.int 0)) (kp h) := by
  refine cm_of rfl (Nat.le_of_ble_eq_true rfl) [(0, .ref (G.1 + 0)), (1, .int 1)] rfl ?_
  refine aw_iload_n 1 dX8_count_0 rfl rfl ?_
  refine aw_tableIn 56 dX8_count_1 (by decide) (by decide) rfl (by decide) ?_
  refine aw_aload_n 0 dX8_count_56 rfl rfl ?_
  refine aw_get fX8_20 dX8_count_57 hF.1 rfl ?_
  refine aw_get fX8_91 dX8_count_60 hF.2.1 rfl ?_
  refine aw_iload_n 1 dX8_count_63 rfl rfl ?_
  refine aw_iald 1 (rfl) (by decide) (by decide) dX8_count_64 hF.2.2.2.2.2.1 ?_
  refine aw_toe 0 (rfl) ?_
  exact aw_iret rfl dX8_count_65 (by decide) (by decide) ⟨rfl, kp_rf h⟩
set_option maxHeartbeats 4000000 in
theorem B28_1 {l : Launch} {G : xG} {h : List va_E} (hM : xF9 G h)  : CE l G yX9_count cX9_count 5 (some .int) 2 0 0 [.ref (G.1 + 88), .int 1] h (some (.int 0)) (fun _ => True) := by
  refine cm_of rfl (Nat.le_of_ble_eq_true rfl) [(0, .ref (G.1 + 88)), (1, .int 1)] rfl ?_
  refine aw_iload_n 1 dX9_count_0 rfl rfl ?_
  refine aw_bipush (10) dX9_count_1 (by decide) ?_
  refine aw_icmp_le 22 dX9_count_3 (by decide) (fun c3 => ?_) (fun c3 => absurd (by decide) c3)
  refine aw_iload_n 1 dX9_count_22 rfl rfl ?_
  refine aw_iconst (4) dX9_count_23 (by decide) ?_
  refine aw_dS [.int 1, .int 4] [] lX9_126 sX9_isIn mX9_isIn dX9_count_24 (X9_isIn4_t (by decide)) rfl (Nat.le_of_ble_eq_true rfl) (by decide) (by decide) rfl ?_
  refine aw_if_eq 37 dX9_count_27 (by decide) (fun c27 => absurd c27 (by decide)) (fun c27 => ?_)
  refine aw_aload_n 0 dX9_count_30 rfl rfl ?_
  refine aw_get fX9_19 dX9_count_31 hM.1 rfl ?_
  refine aw_iload_n 1 dX9_count_34 rfl rfl ?_
  refine aw_iald 1 (rfl) (by decide) (by decide) dX9_count_35 hM.2.2.2.2.1 ?_
  refine aw_toe 0 (rfl) ?_
  exact aw_iret rfl dX9_count_36 (by decide) (by decide) ⟨rfl, trivial⟩
set_option maxHeartbeats 4000000 in
theorem A28_2 {l : Launch} {G : xG} {h : List va_E} (hF : xF8 G h)  : CE l G yX8_count cX8_count 2 (some .int) 2 0 0 [.ref (G.1 + 0), .int 2] h (some (.int 0)) (kp h) := by
  refine cm_of rfl (Nat.le_of_ble_eq_true rfl) [(0, .ref (G.1 + 0)), (1, .int 2)] rfl ?_
  refine aw_iload_n 1 dX8_count_0 rfl rfl ?_
  refine aw_tableIn 56 dX8_count_1 (by decide) (by decide) rfl (by decide) ?_
  refine aw_aload_n 0 dX8_count_56 rfl rfl ?_
  refine aw_get fX8_20 dX8_count_57 hF.1 rfl ?_
  refine aw_get fX8_91 dX8_count_60 hF.2.1 rfl ?_
  refine aw_iload_n 1 dX8_count_63 rfl rfl ?_
  refine aw_iald 2 (rfl) (by decide) (by decide) dX8_count_64 hF.2.2.2.2.2.1 ?_
  refine aw_toe 0 (rfl) ?_
  exact aw_iret rfl dX8_count_65 (by decide) (by decide) ⟨rfl, kp_rf h⟩
set_option maxHeartbeats 4000000 in
theorem B28_2 {l : Launch} {G : xG} {h : List va_E} (hM : xF9 G h)  : CE l G yX9_count cX9_count 5 (some .int) 2 0 0 [.ref (G.1 + 88), .int 2] h (some (.int 0)) (fun _ => True) := by
  refine cm_of rfl (Nat.le_of_ble_eq_true rfl) [(0, .ref (G.1 + 88)), (1, .int 2)] rfl ?_
  refine aw_iload_n 1 dX9_count_0 rfl rfl ?_
  refine aw_bipush (10) dX9_count_1 (by decide) ?_
  refine aw_icmp_le 22 dX9_count_3 (by decide) (fun c3 => ?_) (fun c3 => absurd (by decide) c3)
  refine aw_iload_n 1 dX9_count_22 rfl rfl ?_
  refine aw_iconst (4) dX9_count_23 (by decide) ?_
  refine aw_dS [.int 2, .int 4] [] lX9_126 sX9_isIn mX9_isIn dX9_count_24 (X9_isIn4_t (by decide)) rfl (Nat.le_of_ble_eq_true rfl) (by decide) (by decide) rfl ?_
  refine aw_if_eq 37 dX9_count_27 (by decide) (fun c27 => absurd c27 (by decide)) (fun c27 => ?_)
  refine aw_aload_n 0 dX9_count_30 rfl rfl ?_
  refine aw_get fX9_19 dX9_count_31 hM.1 rfl ?_
  refine aw_iload_n 1 dX9_count_34 rfl rfl ?_
  refine aw_iald 2 (rfl) (by decide) (by decide) dX9_count_35 hM.2.2.2.2.1 ?_
  refine aw_toe 0 (rfl) ?_
  exact aw_iret rfl dX9_count_36 (by decide) (by decide) ⟨rfl, trivial⟩
set_option maxHeartbeats 4000000 in
theorem A28_3 {l : Launch} {G : xG} {h : List va_E} (hF : xF8 G h)  : CE l G yX8_count cX8_count 2 (some .int) 2 0 0 [.ref (G.1 + 0), .int 3] h (some (.int 0)) (kp h) := by
  refine cm_of rfl (Nat.le_of_ble_eq_true rfl) [(0, .ref (G.1 + 0)), (1, .int 3)] rfl ?_
  refine aw_iload_n 1 dX8_count_0 rfl rfl ?_
  refine aw_tableIn 56 dX8_count_1 (by decide) (by decide) rfl (by decide) ?_
  refine aw_aload_n 0 dX8_count_56 rfl rfl ?_
  refine aw_get fX8_20 dX8_count_57 hF.1 rfl ?_
  refine aw_get fX8_91 dX8_count_60 hF.2.1 rfl ?_
  refine aw_iload_n 1 dX8_count_63 rfl rfl ?_
  refine aw_iald 3 (rfl) (by decide) (by decide) dX8_count_64 hF.2.2.2.2.2.1 ?_
  refine aw_toe 0 (rfl) ?_
  exact aw_iret rfl dX8_count_65 (by decide) (by decide) ⟨rfl, kp_rf h⟩
set_option maxHeartbeats 4000000 in
theorem B28_3 {l : Launch} {G : xG} {h : List va_E} (hM : xF9 G h)  : CE l G yX9_count cX9_count 5 (some .int) 2 0 0 [.ref (G.1 + 88), .int 3] h (some (.int 0)) (fun _ => True) := by
  refine cm_of rfl (Nat.le_of_ble_eq_true rfl) [(0, .ref (G.1 + 88)), (1, .int 3)] rfl ?_
  refine aw_iload_n 1 dX9_count_0 rfl rfl ?_
  refine aw_bipush (10) dX9_count_1 (by decide) ?_
  refine aw_icmp_le 22 dX9_count_3 (by decide) (fun c3 => ?_) (fun c3 => absurd (by decide) c3)
  refine aw_iload_n 1 dX9_count_22 rfl rfl ?_
  refine aw_iconst (4) dX9_count_23 (by decide) ?_
  refine aw_dS [.int 3, .int 4] [] lX9_126 sX9_isIn mX9_isIn dX9_count_24 (X9_isIn4_t (by decide)) rfl (Nat.le_of_ble_eq_true rfl) (by decide) (by decide) rfl ?_
  refine aw_if_eq 37 dX9_count_27 (by decide) (fun c27 => absurd c27 (by decide)) (fun c27 => ?_)
  refine aw_aload_n 0 dX9_count_30 rfl rfl ?_
  refine aw_get fX9_19 dX9_count_31 hM.1 rfl ?_
  refine aw_iload_n 1 dX9_count_34 rfl rfl ?_
  refine aw_iald 3 (rfl) (by decide) (by decide) dX9_count_35 hM.2.2.2.2.1 ?_
  refine aw_toe 0 (rfl) ?_
  exact aw_iret rfl dX9_count_36 (by decide) (by decide) ⟨rfl, trivial⟩
set_option maxHeartbeats 4000000 in
theorem A28_4 {l : Launch} {G : xG} {h : List va_E} (hF : xF8 G h)  : CE l G yX8_count cX8_count 2 (some .int) 2 0 0 [.ref (G.1 + 0), .int 4] h (some (.int 0)) (kp h) := by
  refine cm_of rfl (Nat.le_of_ble_eq_true rfl) [(0, .ref (G.1 + 0)), (1, .int 4)] rfl ?_
  refine aw_iload_n 1 dX8_count_0 rfl rfl ?_
  refine aw_tableIn 66 dX8_count_1 (by decide) (by decide) rfl (by decide) ?_
  refine aw_aload_n 0 dX8_count_66 rfl rfl ?_
  refine aw_get fX8_34 dX8_count_67 hF.1 rfl ?_
  refine aw_get fX8_160 dX8_count_70 hF.2.2.2.2.2.2.2.2.2.2.2.2.2.1 rfl ?_
  exact aw_iret rfl dX8_count_73 (by decide) (by decide) ⟨rfl, kp_rf h⟩
set_option maxHeartbeats 4000000 in
theorem B28_4 {l : Launch} {G : xG} {h : List va_E} (hM : xF9 G h)  : CE l G yX9_count cX9_count 5 (some .int) 2 0 0 [.ref (G.1 + 88), .int 4] h (some (.int 0)) (fun _ => True) := by
  refine cm_of rfl (Nat.le_of_ble_eq_true rfl) [(0, .ref (G.1 + 88)), (1, .int 4)] rfl ?_
  refine aw_iload_n 1 dX9_count_0 rfl rfl ?_
  refine aw_bipush (10) dX9_count_1 (by decide) ?_
  refine aw_icmp_le 22 dX9_count_3 (by decide) (fun c3 => ?_) (fun c3 => absurd (by decide) c3)
  refine aw_iload_n 1 dX9_count_22 rfl rfl ?_
  refine aw_iconst (4) dX9_count_23 (by decide) ?_
  refine aw_dS [.int 4, .int 4] [] lX9_126 sX9_isIn mX9_isIn dX9_count_24 (X9_isIn4_f (by decide)) rfl (Nat.le_of_ble_eq_true rfl) (by decide) (by decide) rfl ?_
  refine aw_if_eq 37 dX9_count_27 (by decide) (fun c27 => ?_) (fun c27 => absurd (by decide) c27)
  refine aw_iconst (0) dX9_count_37 (by decide) ?_
  refine aw_istore_n [(2, .int 0), (0, .ref (G.1 + 88)), (1, .int 4)] dX9_count_38 rfl (by decide) rfl ?_
  refine aw_iload_n 2 dX9_count_39 rfl rfl ?_
  refine aw_tableIn 80 dX9_count_40 (by decide) (by decide) rfl (by decide) ?_
  refine aw_aload_n 1 dX9_count_80 rfl rfl ?_
  refine aw_get fX9_198 dX9_count_81 hM.1 rfl ?_
  exact aw_iret rfl dX9_count_84 (by decide) (by decide) ⟨rfl, trivial⟩
set_option maxHeartbeats 4000000 in
theorem A28_5 {l : Launch} {G : xG} {h : List va_E} (hF : xF8 G h)  : CE l G yX8_count cX8_count 2 (some .int) 2 0 0 [.ref (G.1 + 0), .int 5] h (some (.int 0)) (kp h) := by
  refine cm_of rfl (Nat.le_of_ble_eq_true rfl) [(0, .ref (G.1 + 0)), (1, .int 5)] rfl ?_
  refine aw_iload_n 1 dX8_count_0 rfl rfl ?_
  refine aw_tableIn 74 dX8_count_1 (by decide) (by decide) rfl (by decide) ?_
  refine aw_aload_n 0 dX8_count_74 rfl rfl ?_
  refine aw_get fX8_38 dX8_count_75 hF.1 rfl ?_
  refine aw_get fX8_160 dX8_count_78 hF.2.2.2.2.2.2.2.2.2.2.2.2.2.2.2.2.2.2.2.2.2.1 rfl ?_
  exact aw_iret rfl dX8_count_81 (by decide) (by decide) ⟨rfl, kp_rf h⟩
set_option maxHeartbeats 4000000 in
theorem B28_5 {l : Launch} {G : xG} {h : List va_E} (hM : xF9 G h)  : CE l G yX9_count cX9_count 5 (some .int) 2 0 0 [.ref (G.1 + 88), .int 5] h (some (.int 0)) (fun _ => True) := by
  refine cm_of rfl (Nat.le_of_ble_eq_true rfl) [(0, .ref (G.1 + 88)), (1, .int 5)] rfl ?_
  refine aw_iload_n 1 dX9_count_0 rfl rfl ?_
  refine aw_bipush (10) dX9_count_1 (by decide) ?_
  refine aw_icmp_le 22 dX9_count_3 (by decide) (fun c3 => ?_) (fun c3 => absurd (by decide) c3)
  refine aw_iload_n 1 dX9_count_22 rfl rfl ?_
  refine aw_iconst (4) dX9_count_23 (by decide) ?_
  refine aw_dS [.int 5, .int 4] [] lX9_126 sX9_isIn mX9_isIn dX9_count_24 (X9_isIn4_f (by decide)) rfl (Nat.le_of_ble_eq_true rfl) (by decide) (by decide) rfl ?_
  refine aw_if_eq 37 dX9_count_27 (by decide) (fun c27 => ?_) (fun c27 => absurd (by decide) c27)
  refine aw_iconst (0) dX9_count_37 (by decide) ?_
  refine aw_istore_n [(2, .int 0), (0, .ref (G.1 + 88)), (1, .int 5)] dX9_count_38 rfl (by decide) rfl ?_
  refine aw_iload_n 2 dX9_count_39 rfl rfl ?_
  refine aw_tableIn 85 dX9_count_40 (by decide) (by decide) rfl (by decide) ?_
  refine aw_aload_n 1 dX9_count_85 rfl rfl ?_
  refine aw_get fX9_202 dX9_count_86 hM.1 rfl ?_
  exact aw_iret rfl dX9_count_89 (by decide) (by decide) ⟨rfl, trivial⟩
set_option maxHeartbeats 4000000 in
theorem A28_6 {l : Launch} {G : xG} {h : List va_E} (hF : xF8 G h)  : CE l G yX8_count cX8_count 2 (some .int) 2 0 0 [.ref (G.1 + 0), .int 6] h (some (.int 0)) (kp h) := by
  refine cm_of rfl (Nat.le_of_ble_eq_true rfl) [(0, .ref (G.1 + 0)), (1, .int 6)] rfl ?_
  refine aw_iload_n 1 dX8_count_0 rfl rfl ?_
  refine aw_tableIn 82 dX8_count_1 (by decide) (by decide) rfl (by decide) ?_
  refine aw_aload_n 0 dX8_count_82 rfl rfl ?_
  refine aw_get fX8_51 dX8_count_83 hF.1 rfl ?_
  refine aw_get fX8_204 dX8_count_86 hF.2.2.2.2.2.2.2.2.2.2.2.2.2.2.2.2.2.2.2.2.2.2.2.2.2.2.2.2.2.2.2.1 rfl ?_
  exact aw_iret rfl dX8_count_89 (by decide) (by decide) ⟨rfl, kp_rf h⟩
set_option maxHeartbeats 4000000 in
theorem B28_6 {l : Launch} {G : xG} {h : List va_E} (hM : xF9 G h)  : CE l G yX9_count cX9_count 5 (some .int) 2 0 0 [.ref (G.1 + 88), .int 6] h (some (.int 0)) (fun _ => True) := by
  refine cm_of rfl (Nat.le_of_ble_eq_true rfl) [(0, .ref (G.1 + 88)), (1, .int 6)] rfl ?_
  refine aw_iload_n 1 dX9_count_0 rfl rfl ?_
  refine aw_bipush (10) dX9_count_1 (by decide) ?_
  refine aw_icmp_le 22 dX9_count_3 (by decide) (fun c3 => ?_) (fun c3 => absurd (by decide) c3)
  refine aw_iload_n 1 dX9_count_22 rfl rfl ?_
  refine aw_iconst (4) dX9_count_23 (by decide) ?_
  refine aw_dS [.int 6, .int 4] [] lX9_126 sX9_isIn mX9_isIn dX9_count_24 (X9_isIn4_f (by decide)) rfl (Nat.le_of_ble_eq_true rfl) (by decide) (by decide) rfl ?_
  refine aw_if_eq 37 dX9_count_27 (by decide) (fun c27 => ?_) (fun c27 => absurd (by decide) c27)
  refine aw_iconst (0) dX9_count_37 (by decide) ?_
  refine aw_istore_n [(2, .int 0), (0, .ref (G.1 + 88)), (1, .int 6)] dX9_count_38 rfl (by decide) rfl ?_
  refine aw_iload_n 2 dX9_count_39 rfl rfl ?_
  refine aw_tableIn 90 dX9_count_40 (by decide) (by decide) rfl (by decide) ?_
  refine aw_aload_n 1 dX9_count_90 rfl rfl ?_
  refine aw_get fX9_227 dX9_count_91 hM.1 rfl ?_
  exact aw_iret rfl dX9_count_94 (by decide) (by decide) ⟨rfl, trivial⟩
set_option maxHeartbeats 4000000 in
theorem A28_7 {l : Launch} {G : xG} {h : List va_E} (hF : xF8 G h)  : CE l G yX8_count cX8_count 2 (some .int) 2 0 0 [.ref (G.1 + 0), .int 7] h (some (.int 0)) (kp h) := by
  refine cm_of rfl (Nat.le_of_ble_eq_true rfl) [(0, .ref (G.1 + 0)), (1, .int 7)] rfl ?_
  refine aw_iload_n 1 dX8_count_0 rfl rfl ?_
  refine aw_tableIn 90 dX8_count_1 (by decide) (by decide) rfl (by decide) ?_
  refine aw_aload_n 0 dX8_count_90 rfl rfl ?_
  refine aw_get fX8_20 dX8_count_91 hF.1 rfl ?_
  refine aw_get fX8_113 dX8_count_94 hF.2.1 rfl ?_
  exact aw_iret rfl dX8_count_97 (by decide) (by decide) ⟨rfl, kp_rf h⟩
set_option maxHeartbeats 4000000 in
theorem B28_7 {l : Launch} {G : xG} {h : List va_E} (hM : xF9 G h)  : CE l G yX9_count cX9_count 5 (some .int) 2 0 0 [.ref (G.1 + 88), .int 7] h (some (.int 0)) (fun _ => True) := by
  refine cm_of rfl (Nat.le_of_ble_eq_true rfl) [(0, .ref (G.1 + 88)), (1, .int 7)] rfl ?_
  refine aw_iload_n 1 dX9_count_0 rfl rfl ?_
  refine aw_bipush (10) dX9_count_1 (by decide) ?_
  refine aw_icmp_le 22 dX9_count_3 (by decide) (fun c3 => ?_) (fun c3 => absurd (by decide) c3)
  refine aw_iload_n 1 dX9_count_22 rfl rfl ?_
  refine aw_iconst (4) dX9_count_23 (by decide) ?_
  refine aw_dS [.int 7, .int 4] [] lX9_126 sX9_isIn mX9_isIn dX9_count_24 (X9_isIn4_f (by decide)) rfl (Nat.le_of_ble_eq_true rfl) (by decide) (by decide) rfl ?_
  refine aw_if_eq 37 dX9_count_27 (by decide) (fun c27 => ?_) (fun c27 => absurd (by decide) c27)
  refine aw_iconst (0) dX9_count_37 (by decide) ?_
  refine aw_istore_n [(2, .int 0), (0, .ref (G.1 + 88)), (1, .int 7)] dX9_count_38 rfl (by decide) rfl ?_
  refine aw_iload_n 2 dX9_count_39 rfl rfl ?_
  refine aw_tableIn 95 dX9_count_40 (by decide) (by decide) rfl (by decide) ?_
  refine aw_aload_n 1 dX9_count_95 rfl rfl ?_
  refine aw_get fX9_142 dX9_count_96 hM.1 rfl ?_
  exact aw_iret rfl dX9_count_99 (by decide) (by decide) ⟨rfl, trivial⟩
set_option maxHeartbeats 4000000 in
theorem A28_8 {l : Launch} {G : xG} {h : List va_E} (hF : xF8 G h)  : CE l G yX8_count cX8_count 2 (some .int) 2 0 0 [.ref (G.1 + 0), .int 8] h (some (.int 0)) (kp h) := by
  refine cm_of rfl (Nat.le_of_ble_eq_true rfl) [(0, .ref (G.1 + 0)), (1, .int 8)] rfl ?_
  refine aw_iload_n 1 dX8_count_0 rfl rfl ?_
  refine aw_tableIn 98 dX8_count_1 (by decide) (by decide) rfl (by decide) ?_
  refine aw_aload_n 0 dX8_count_98 rfl rfl ?_
  refine aw_get fX8_58 dX8_count_99 hF.1 rfl ?_
  refine aw_get fX8_240 dX8_count_102 hF.2.2.2.2.2.2.2.2.2.2.2.2.2.2.2.2.2.2.2.2.2.2.2.2.2.2.2.2.2.2.2.2.2.2.2.2.1 rfl ?_
  exact aw_iret rfl dX8_count_105 (by decide) (by decide) ⟨rfl, kp_rf h⟩
set_option maxHeartbeats 4000000 in
theorem B28_8 {l : Launch} {G : xG} {h : List va_E} (hM : xF9 G h)  : CE l G yX9_count cX9_count 5 (some .int) 2 0 0 [.ref (G.1 + 88), .int 8] h (some (.int 0)) (fun _ => True) := by
  refine cm_of rfl (Nat.le_of_ble_eq_true rfl) [(0, .ref (G.1 + 88)), (1, .int 8)] rfl ?_
  refine aw_iload_n 1 dX9_count_0 rfl rfl ?_
  refine aw_bipush (10) dX9_count_1 (by decide) ?_
  refine aw_icmp_le 22 dX9_count_3 (by decide) (fun c3 => ?_) (fun c3 => absurd (by decide) c3)
  refine aw_iload_n 1 dX9_count_22 rfl rfl ?_
  refine aw_iconst (4) dX9_count_23 (by decide) ?_
  refine aw_dS [.int 8, .int 4] [] lX9_126 sX9_isIn mX9_isIn dX9_count_24 (X9_isIn4_f (by decide)) rfl (Nat.le_of_ble_eq_true rfl) (by decide) (by decide) rfl ?_
  refine aw_if_eq 37 dX9_count_27 (by decide) (fun c27 => ?_) (fun c27 => absurd (by decide) c27)
  refine aw_iconst (0) dX9_count_37 (by decide) ?_
  refine aw_istore_n [(2, .int 0), (0, .ref (G.1 + 88)), (1, .int 8)] dX9_count_38 rfl (by decide) rfl ?_
  refine aw_iload_n 2 dX9_count_39 rfl rfl ?_
  refine aw_tableIn 100 dX9_count_40 (by decide) (by decide) rfl (by decide) ?_
  refine aw_iconst (0) dX9_count_100 (by decide) ?_
  refine aw_istore_n [(3, .int 0), (2, .int 0), (0, .ref (G.1 + 88)), (1, .int 8)] dX9_count_101 rfl (by decide) rfl ?_
  refine aw_iload_n 0 dX9_count_102 rfl rfl ?_
  refine aw_bipush (6) dX9_count_103 (by decide) ?_
  refine aw_icmp_ge 152 dX9_count_105 (by decide) (fun c105 => absurd c105 (by decide)) (fun c105 => ?_)
  refine aw_iconst (0) dX9_count_108 (by decide) ?_
  refine aw_istore [(4, .int 0), (3, .int 0), (2, .int 0), (0, .ref (G.1 + 88)), (1, .int 8)] dX9_count_109 (by decide) rfl ?_
  refine aw_iload 0 dX9_count_111 rfl ?_
  refine aw_iload_n 1 dX9_count_113 rfl rfl ?_
  refine aw_icmp_ge 146 dX9_count_114 (by decide) (fun c114 => ?_) (fun c114 => absurd (by decide) c114)
  refine aw_iinc (j := 1) 1 [(3, .int 1), (4, .int 0), (2, .int 0), (0, .ref (G.1 + 88)), (1, .int 8)] dX9_count_146 rfl (by decide) (by decide) rfl ?_
  refine aw_goto 102 dX9_count_149 (by decide) ?_
  refine aw_iload_n 0 dX9_count_102 rfl rfl ?_
  refine aw_bipush (6) dX9_count_103 (by decide) ?_
  refine aw_icmp_ge 152 dX9_count_105 (by decide) (fun c105 => absurd c105 (by decide)) (fun c105 => ?_)
  refine aw_iconst (0) dX9_count_108 (by decide) ?_
  refine aw_istore [(4, .int 0), (3, .int 1), (2, .int 0), (0, .ref (G.1 + 88)), (1, .int 8)] dX9_count_109 (by decide) rfl ?_
  refine aw_iload 0 dX9_count_111 rfl ?_
  refine aw_iload_n 1 dX9_count_113 rfl rfl ?_
  refine aw_icmp_ge 146 dX9_count_114 (by decide) (fun c114 => absurd c114 (by decide)) (fun c114 => ?_)
  refine aw_iload_n 2 dX9_count_117 rfl rfl ?_
  refine aw_aload_n 3 dX9_count_118 rfl rfl ?_
  refine aw_get fX9_122 dX9_count_119 hM.1 rfl ?_
  refine aw_bipush (6) dX9_count_122 (by decide) ?_
  refine aw_iload_n 1 dX9_count_124 rfl rfl ?_
  refine aw_imul dX9_count_125 ?_
  refine aw_toe 6 (by decide) ?_
  refine aw_iload 0 dX9_count_126 rfl ?_
  refine aw_iadd dX9_count_128 ?_
  refine aw_toe 6 (by decide) ?_
  refine aw_zald 6 (rfl) (by decide) (by decide) dX9_count_129 hM.2.2.2.2.2.2.2.2.2.2.2.2.2.2.2.2.2.2.2.2.2.2.2.2.2.2.2.2.2.2.2.2.2.2.2.2 ?_
  refine aw_toe 0 (rfl) ?_
  refine aw_if_eq 137 dX9_count_130 (by decide) (fun c130 => ?_) (fun c130 => absurd (by decide) c130)
  refine aw_iconst (0) dX9_count_137 (by decide) ?_
  refine aw_iadd dX9_count_138 ?_
  refine aw_toe 0 (by decide) ?_
  refine aw_istore_n [(2, .int 0), (4, .int 0), (3, .int 1), (0, .ref (G.1 + 88)), (1, .int 8)] dX9_count_139 rfl (by decide) rfl ?_
  refine aw_iinc (j := 1) 1 [(4, .int 1), (2, .int 0), (3, .int 1), (0, .ref (G.1 + 88)), (1, .int 8)] dX9_count_140 rfl (by decide) (by decide) rfl ?_
  refine aw_goto 111 dX9_count_143 (by decide) ?_
  refine aw_iload 0 dX9_count_111 rfl ?_
  refine aw_iload_n 2 dX9_count_113 rfl rfl ?_
  refine aw_icmp_ge 146 dX9_count_114 (by decide) (fun c114 => ?_) (fun c114 => absurd (by decide) c114)
  refine aw_iinc (j := 2) 2 [(3, .int 2), (4, .int 1), (2, .int 0), (0, .ref (G.1 + 88)), (1, .int 8)] dX9_count_146 rfl (by decide) (by decide) rfl ?_
  refine aw_goto 102 dX9_count_149 (by decide) ?_
  refine aw_iload_n 0 dX9_count_102 rfl rfl ?_
  refine aw_bipush (6) dX9_count_103 (by decide) ?_
  refine aw_icmp_ge 152 dX9_count_105 (by decide) (fun c105 => absurd c105 (by decide)) (fun c105 => ?_)
  refine aw_iconst (0) dX9_count_108 (by decide) ?_
  refine aw_istore [(4, .int 0), (3, .int 2), (2, .int 0), (0, .ref (G.1 + 88)), (1, .int 8)] dX9_count_109 (by decide) rfl ?_
  refine aw_iload 0 dX9_count_111 rfl ?_
  refine aw_iload_n 1 dX9_count_113 rfl rfl ?_
  refine aw_icmp_ge 146 dX9_count_114 (by decide) (fun c114 => absurd c114 (by decide)) (fun c114 => ?_)
  refine aw_iload_n 2 dX9_count_117 rfl rfl ?_
  refine aw_aload_n 3 dX9_count_118 rfl rfl ?_
  refine aw_get fX9_122 dX9_count_119 hM.1 rfl ?_
  refine aw_bipush (6) dX9_count_122 (by decide) ?_
  refine aw_iload_n 1 dX9_count_124 rfl rfl ?_
  refine aw_imul dX9_count_125 ?_
  refine aw_toe 12 (by decide) ?_
  refine aw_iload 0 dX9_count_126 rfl ?_
  refine aw_iadd dX9_count_128 ?_
  refine aw_toe 12 (by decide) ?_
  refine aw_zald 12 (rfl) (by decide) (by decide) dX9_count_129 hM.2.2.2.2.2.2.2.2.2.2.2.2.2.2.2.2.2.2.2.2.2.2.2.2.2.2.2.2.2.2.2.2.2.2.2.2 ?_
  refine aw_toe 0 (rfl) ?_
  refine aw_if_eq 137 dX9_count_130 (by decide) (fun c130 => ?_) (fun c130 => absurd (by decide) c130)
  refine aw_iconst (0) dX9_count_137 (by decide) ?_
  refine aw_iadd dX9_count_138 ?_
  refine aw_toe 0 (by decide) ?_
  refine aw_istore_n [(2, .int 0), (4, .int 0), (3, .int 2), (0, .ref (G.1 + 88)), (1, .int 8)] dX9_count_139 rfl (by decide) rfl ?_
  refine aw_iinc (j := 1) 1 [(4, .int 1), (2, .int 0), (3, .int 2), (0, .ref (G.1 + 88)), (1, .int 8)] dX9_count_140 rfl (by decide) (by decide) rfl ?_
  refine aw_goto 111 dX9_count_143 (by decide) ?_
  refine aw_iload 0 dX9_count_111 rfl ?_
  refine aw_iload_n 2 dX9_count_113 rfl rfl ?_
  refine aw_icmp_ge 146 dX9_count_114 (by decide) (fun c114 => absurd c114 (by decide)) (fun c114 => ?_)
  refine aw_iload_n 1 dX9_count_117 rfl rfl ?_
  refine aw_aload_n 3 dX9_count_118 rfl rfl ?_
  refine aw_get fX9_122 dX9_count_119 hM.1 rfl ?_
  refine aw_bipush (6) dX9_count_122 (by decide) ?_
  refine aw_iload_n 2 dX9_count_124 rfl rfl ?_
  refine aw_imul dX9_count_125 ?_
  refine aw_toe 12 (by decide) ?_
  refine aw_iload 0 dX9_count_126 rfl ?_
  refine aw_iadd dX9_count_128 ?_
  refine aw_toe 13 (by decide) ?_
  refine aw_zald 13 (rfl) (by decide) (by decide) dX9_count_129 hM.2.2.2.2.2.2.2.2.2.2.2.2.2.2.2.2.2.2.2.2.2.2.2.2.2.2.2.2.2.2.2.2.2.2.2.2 ?_
  refine aw_toe 0 (rfl) ?_
  refine aw_if_eq 137 dX9_count_130 (by decide) (fun c130 => ?_) (fun c130 => absurd (by decide) c130)
  refine aw_iconst (0) dX9_count_137 (by decide) ?_
  refine aw_iadd dX9_count_138 ?_
  refine aw_toe 0 (by decide) ?_
  refine aw_istore_n [(2, .int 0), (4, .int 1), (3, .int 2), (0, .ref (G.1 + 88)), (1, .int 8)] dX9_count_139 rfl (by decide) rfl ?_
  refine aw_iinc (j := 1) 2 [(4, .int 2), (2, .int 0), (3, .int 2), (0, .ref (G.1 + 88)), (1, .int 8)] dX9_count_140 rfl (by decide) (by decide) rfl ?_
  refine aw_goto 111 dX9_count_143 (by decide) ?_
  refine aw_iload 0 dX9_count_111 rfl ?_
  refine aw_iload_n 2 dX9_count_113 rfl rfl ?_
  refine aw_icmp_ge 146 dX9_count_114 (by decide) (fun c114 => ?_) (fun c114 => absurd (by decide) c114)
  refine aw_iinc (j := 2) 3 [(3, .int 3), (4, .int 2), (2, .int 0), (0, .ref (G.1 + 88)), (1, .int 8)] dX9_count_146 rfl (by decide) (by decide) rfl ?_
  refine aw_goto 102 dX9_count_149 (by decide) ?_
  refine aw_iload_n 0 dX9_count_102 rfl rfl ?_
  refine aw_bipush (6) dX9_count_103 (by decide) ?_
  refine aw_icmp_ge 152 dX9_count_105 (by decide) (fun c105 => absurd c105 (by decide)) (fun c105 => ?_)
  refine aw_iconst (0) dX9_count_108 (by decide) ?_
  refine aw_istore [(4, .int 0), (3, .int 3), (2, .int 0), (0, .ref (G.1 + 88)), (1, .int 8)] dX9_count_109 (by decide) rfl ?_
  refine aw_iload 0 dX9_count_111 rfl ?_
  refine aw_iload_n 1 dX9_count_113 rfl rfl ?_
  refine aw_icmp_ge 146 dX9_count_114 (by decide) (fun c114 => absurd c114 (by decide)) (fun c114 => ?_)
  refine aw_iload_n 2 dX9_count_117 rfl rfl ?_
  refine aw_aload_n 3 dX9_count_118 rfl rfl ?_
  refine aw_get fX9_122 dX9_count_119 hM.1 rfl ?_
  refine aw_bipush (6) dX9_count_122 (by decide) ?_
  refine aw_iload_n 1 dX9_count_124 rfl rfl ?_
  refine aw_imul dX9_count_125 ?_
  refine aw_toe 18 (by decide) ?_
  refine aw_iload 0 dX9_count_126 rfl ?_
  refine aw_iadd dX9_count_128 ?_
  refine aw_toe 18 (by decide) ?_
  refine aw_zald 18 (rfl) (by decide) (by decide) dX9_count_129 hM.2.2.2.2.2.2.2.2.2.2.2.2.2.2.2.2.2.2.2.2.2.2.2.2.2.2.2.2.2.2.2.2.2.2.2.2 ?_
  refine aw_toe 0 (rfl) ?_
  refine aw_if_eq 137 dX9_count_130 (by decide) (fun c130 => ?_) (fun c130 => absurd (by decide) c130)
  refine aw_iconst (0) dX9_count_137 (by decide) ?_
  refine aw_iadd dX9_count_138 ?_
  refine aw_toe 0 (by decide) ?_
  refine aw_istore_n [(2, .int 0), (4, .int 0), (3, .int 3), (0, .ref (G.1 + 88)), (1, .int 8)] dX9_count_139 rfl (by decide) rfl ?_
  refine aw_iinc (j := 1) 1 [(4, .int 1), (2, .int 0), (3, .int 3), (0, .ref (G.1 + 88)), (1, .int 8)] dX9_count_140 rfl (by decide) (by decide) rfl ?_
  refine aw_goto 111 dX9_count_143 (by decide) ?_
  refine aw_iload 0 dX9_count_111 rfl ?_
  refine aw_iload_n 2 dX9_count_113 rfl rfl ?_
  refine aw_icmp_ge 146 dX9_count_114 (by decide) (fun c114 => absurd c114 (by decide)) (fun c114 => ?_)
  refine aw_iload_n 1 dX9_count_117 rfl rfl ?_
  refine aw_aload_n 3 dX9_count_118 rfl rfl ?_
  refine aw_get fX9_122 dX9_count_119 hM.1 rfl ?_
  refine aw_bipush (6) dX9_count_122 (by decide) ?_
  refine aw_iload_n 2 dX9_count_124 rfl rfl ?_
  refine aw_imul dX9_count_125 ?_
  refine aw_toe 18 (by decide) ?_
  refine aw_iload 0 dX9_count_126 rfl ?_
  refine aw_iadd dX9_count_128 ?_
  refine aw_toe 19 (by decide) ?_
  refine aw_zald 19 (rfl) (by decide) (by decide) dX9_count_129 hM.2.2.2.2.2.2.2.2.2.2.2.2.2.2.2.2.2.2.2.2.2.2.2.2.2.2.2.2.2.2.2.2.2.2.2.2 ?_
  refine aw_toe 0 (rfl) ?_
  refine aw_if_eq 137 dX9_count_130 (by decide) (fun c130 => ?_) (fun c130 => absurd (by decide) c130)
  refine aw_iconst (0) dX9_count_137 (by decide) ?_
  refine aw_iadd dX9_count_138 ?_
  refine aw_toe 0 (by decide) ?_
  refine aw_istore_n [(2, .int 0), (4, .int 1), (3, .int 3), (0, .ref (G.1 + 88)), (1, .int 8)] dX9_count_139 rfl (by decide) rfl ?_
  refine aw_iinc (j := 1) 2 [(4, .int 2), (2, .int 0), (3, .int 3), (0, .ref (G.1 + 88)), (1, .int 8)] dX9_count_140 rfl (by decide) (by decide) rfl ?_
  refine aw_goto 111 dX9_count_143 (by decide) ?_
  refine aw_iload 0 dX9_count_111 rfl ?_
  refine aw_iload_n 2 dX9_count_113 rfl rfl ?_
  refine aw_icmp_ge 146 dX9_count_114 (by decide) (fun c114 => absurd c114 (by decide)) (fun c114 => ?_)
  refine aw_iload_n 1 dX9_count_117 rfl rfl ?_
  refine aw_aload_n 3 dX9_count_118 rfl rfl ?_
  refine aw_get fX9_122 dX9_count_119 hM.1 rfl ?_
  refine aw_bipush (6) dX9_count_122 (by decide) ?_
  refine aw_iload_n 2 dX9_count_124 rfl rfl ?_
  refine aw_imul dX9_count_125 ?_
  refine aw_toe 18 (by decide) ?_
  refine aw_iload 0 dX9_count_126 rfl ?_
  refine aw_iadd dX9_count_128 ?_
  refine aw_toe 20 (by decide) ?_
  refine aw_zald 20 (rfl) (by decide) (by decide) dX9_count_129 hM.2.2.2.2.2.2.2.2.2.2.2.2.2.2.2.2.2.2.2.2.2.2.2.2.2.2.2.2.2.2.2.2.2.2.2.2 ?_
  refine aw_toe 0 (rfl) ?_
  refine aw_if_eq 137 dX9_count_130 (by decide) (fun c130 => ?_) (fun c130 => absurd (by decide) c130)
  refine aw_iconst (0) dX9_count_137 (by decide) ?_
  refine aw_iadd dX9_count_138 ?_
  refine aw_toe 0 (by decide) ?_
  refine aw_istore_n [(2, .int 0), (4, .int 2), (3, .int 3), (0, .ref (G.1 + 88)), (1, .int 8)] dX9_count_139 rfl (by decide) rfl ?_
  refine aw_iinc (j := 1) 3 [(4, .int 3), (2, .int 0), (3, .int 3), (0, .ref (G.1 + 88)), (1, .int 8)] dX9_count_140 rfl (by decide) (by decide) rfl ?_
  refine aw_goto 111 dX9_count_143 (by decide) ?_
  refine aw_iload 0 dX9_count_111 rfl ?_
  refine aw_iload_n 2 dX9_count_113 rfl rfl ?_
  refine aw_icmp_ge 146 dX9_count_114 (by decide) (fun c114 => ?_) (fun c114 => absurd (by decide) c114)
  refine aw_iinc (j := 2) 4 [(3, .int 4), (4, .int 3), (2, .int 0), (0, .ref (G.1 + 88)), (1, .int 8)] dX9_count_146 rfl (by decide) (by decide) rfl ?_
  refine aw_goto 102 dX9_count_149 (by decide) ?_
  refine aw_iload_n 0 dX9_count_102 rfl rfl ?_
  refine aw_bipush (6) dX9_count_103 (by decide) ?_
  refine aw_icmp_ge 152 dX9_count_105 (by decide) (fun c105 => absurd c105 (by decide)) (fun c105 => ?_)
  refine aw_iconst (0) dX9_count_108 (by decide) ?_
  refine aw_istore [(4, .int 0), (3, .int 4), (2, .int 0), (0, .ref (G.1 + 88)), (1, .int 8)] dX9_count_109 (by decide) rfl ?_
  refine aw_iload 0 dX9_count_111 rfl ?_
  refine aw_iload_n 1 dX9_count_113 rfl rfl ?_
  refine aw_icmp_ge 146 dX9_count_114 (by decide) (fun c114 => absurd c114 (by decide)) (fun c114 => ?_)
  refine aw_iload_n 2 dX9_count_117 rfl rfl ?_
  refine aw_aload_n 3 dX9_count_118 rfl rfl ?_
  refine aw_get fX9_122 dX9_count_119 hM.1 rfl ?_
  refine aw_bipush (6) dX9_count_122 (by decide) ?_
  refine aw_iload_n 1 dX9_count_124 rfl rfl ?_
  refine aw_imul dX9_count_125 ?_
  refine aw_toe 24 (by decide) ?_
  refine aw_iload 0 dX9_count_126 rfl ?_
  refine aw_iadd dX9_count_128 ?_
  refine aw_toe 24 (by decide) ?_
  refine aw_zald 24 (rfl) (by decide) (by decide) dX9_count_129 hM.2.2.2.2.2.2.2.2.2.2.2.2.2.2.2.2.2.2.2.2.2.2.2.2.2.2.2.2.2.2.2.2.2.2.2.2 ?_
  refine aw_toe 0 (rfl) ?_
  refine aw_if_eq 137 dX9_count_130 (by decide) (fun c130 => ?_) (fun c130 => absurd (by decide) c130)
  refine aw_iconst (0) dX9_count_137 (by decide) ?_
  refine aw_iadd dX9_count_138 ?_
  refine aw_toe 0 (by decide) ?_
  refine aw_istore_n [(2, .int 0), (4, .int 0), (3, .int 4), (0, .ref (G.1 + 88)), (1, .int 8)] dX9_count_139 rfl (by decide) rfl ?_
  refine aw_iinc (j := 1) 1 [(4, .int 1), (2, .int 0), (3, .int 4), (0, .ref (G.1 + 88)), (1, .int 8)] dX9_count_140 rfl (by decide) (by decide) rfl ?_
  refine aw_goto 111 dX9_count_143 (by decide) ?_
  refine aw_iload 0 dX9_count_111 rfl ?_
  refine aw_iload_n 2 dX9_count_113 rfl rfl ?_
  refine aw_icmp_ge 146 dX9_count_114 (by decide) (fun c114 => absurd c114 (by decide)) (fun c114 => ?_)
  refine aw_iload_n 1 dX9_count_117 rfl rfl ?_
  refine aw_aload_n 3 dX9_count_118 rfl rfl ?_
  refine aw_get fX9_122 dX9_count_119 hM.1 rfl ?_
  refine aw_bipush (6) dX9_count_122 (by decide) ?_
  refine aw_iload_n 2 dX9_count_124 rfl rfl ?_
  refine aw_imul dX9_count_125 ?_
  refine aw_toe 24 (by decide) ?_
  refine aw_iload 0 dX9_count_126 rfl ?_
  refine aw_iadd dX9_count_128 ?_
  refine aw_toe 25 (by decide) ?_
  refine aw_zald 25 (rfl) (by decide) (by decide) dX9_count_129 hM.2.2.2.2.2.2.2.2.2.2.2.2.2.2.2.2.2.2.2.2.2.2.2.2.2.2.2.2.2.2.2.2.2.2.2.2 ?_
  refine aw_toe 0 (rfl) ?_
  refine aw_if_eq 137 dX9_count_130 (by decide) (fun c130 => ?_) (fun c130 => absurd (by decide) c130)
  refine aw_iconst (0) dX9_count_137 (by decide) ?_
  refine aw_iadd dX9_count_138 ?_
  refine aw_toe 0 (by decide) ?_
  refine aw_istore_n [(2, .int 0), (4, .int 1), (3, .int 4), (0, .ref (G.1 + 88)), (1, .int 8)] dX9_count_139 rfl (by decide) rfl ?_
  refine aw_iinc (j := 1) 2 [(4, .int 2), (2, .int 0), (3, .int 4), (0, .ref (G.1 + 88)), (1, .int 8)] dX9_count_140 rfl (by decide) (by decide) rfl ?_
  refine aw_goto 111 dX9_count_143 (by decide) ?_
  refine aw_iload 0 dX9_count_111 rfl ?_
  refine aw_iload_n 2 dX9_count_113 rfl rfl ?_
  refine aw_icmp_ge 146 dX9_count_114 (by decide) (fun c114 => absurd c114 (by decide)) (fun c114 => ?_)
  refine aw_iload_n 1 dX9_count_117 rfl rfl ?_
  refine aw_aload_n 3 dX9_count_118 rfl rfl ?_
  refine aw_get fX9_122 dX9_count_119 hM.1 rfl ?_
  refine aw_bipush (6) dX9_count_122 (by decide) ?_
  refine aw_iload_n 2 dX9_count_124 rfl rfl ?_
  refine aw_imul dX9_count_125 ?_
  refine aw_toe 24 (by decide) ?_
  refine aw_iload 0 dX9_count_126 rfl ?_
  refine aw_iadd dX9_count_128 ?_
  refine aw_toe 26 (by decide) ?_
  refine aw_zald 26 (rfl) (by decide) (by decide) dX9_count_129 hM.2.2.2.2.2.2.2.2.2.2.2.2.2.2.2.2.2.2.2.2.2.2.2.2.2.2.2.2.2.2.2.2.2.2.2.2 ?_
  refine aw_toe 0 (rfl) ?_
  refine aw_if_eq 137 dX9_count_130 (by decide) (fun c130 => ?_) (fun c130 => absurd (by decide) c130)
  refine aw_iconst (0) dX9_count_137 (by decide) ?_
  refine aw_iadd dX9_count_138 ?_
  refine aw_toe 0 (by decide) ?_
  refine aw_istore_n [(2, .int 0), (4, .int 2), (3, .int 4), (0, .ref (G.1 + 88)), (1, .int 8)] dX9_count_139 rfl (by decide) rfl ?_
  refine aw_iinc (j := 1) 3 [(4, .int 3), (2, .int 0), (3, .int 4), (0, .ref (G.1 + 88)), (1, .int 8)] dX9_count_140 rfl (by decide) (by decide) rfl ?_
  refine aw_goto 111 dX9_count_143 (by decide) ?_
  refine aw_iload 0 dX9_count_111 rfl ?_
  refine aw_iload_n 2 dX9_count_113 rfl rfl ?_
  refine aw_icmp_ge 146 dX9_count_114 (by decide) (fun c114 => absurd c114 (by decide)) (fun c114 => ?_)
  refine aw_iload_n 1 dX9_count_117 rfl rfl ?_
  refine aw_aload_n 3 dX9_count_118 rfl rfl ?_
  refine aw_get fX9_122 dX9_count_119 hM.1 rfl ?_
  refine aw_bipush (6) dX9_count_122 (by decide) ?_
  refine aw_iload_n 2 dX9_count_124 rfl rfl ?_
  refine aw_imul dX9_count_125 ?_
  refine aw_toe 24 (by decide) ?_
  refine aw_iload 0 dX9_count_126 rfl ?_
  refine aw_iadd dX9_count_128 ?_
  refine aw_toe 27 (by decide) ?_
  refine aw_zald 27 (rfl) (by decide) (by decide) dX9_count_129 hM.2.2.2.2.2.2.2.2.2.2.2.2.2.2.2.2.2.2.2.2.2.2.2.2.2.2.2.2.2.2.2.2.2.2.2.2 ?_
  refine aw_toe 0 (rfl) ?_
  refine aw_if_eq 137 dX9_count_130 (by decide) (fun c130 => ?_) (fun c130 => absurd (by decide) c130)
  refine aw_iconst (0) dX9_count_137 (by decide) ?_
  refine aw_iadd dX9_count_138 ?_
  refine aw_toe 0 (by decide) ?_
  refine aw_istore_n [(2, .int 0), (4, .int 3), (3, .int 4), (0, .ref (G.1 + 88)), (1, .int 8)] dX9_count_139 rfl (by decide) rfl ?_
  refine aw_iinc (j := 1) 4 [(4, .int 4), (2, .int 0), (3, .int 4), (0, .ref (G.1 + 88)), (1, .int 8)] dX9_count_140 rfl (by decide) (by decide) rfl ?_
  refine aw_goto 111 dX9_count_143 (by decide) ?_
  refine aw_iload 0 dX9_count_111 rfl ?_
  refine aw_iload_n 2 dX9_count_113 rfl rfl ?_
  refine aw_icmp_ge 146 dX9_count_114 (by decide) (fun c114 => ?_) (fun c114 => absurd (by decide) c114)
  refine aw_iinc (j := 2) 5 [(3, .int 5), (4, .int 4), (2, .int 0), (0, .ref (G.1 + 88)), (1, .int 8)] dX9_count_146 rfl (by decide) (by decide) rfl ?_
  refine aw_goto 102 dX9_count_149 (by decide) ?_
  refine aw_iload_n 0 dX9_count_102 rfl rfl ?_
  refine aw_bipush (6) dX9_count_103 (by decide) ?_
  refine aw_icmp_ge 152 dX9_count_105 (by decide) (fun c105 => absurd c105 (by decide)) (fun c105 => ?_)
  refine aw_iconst (0) dX9_count_108 (by decide) ?_
  refine aw_istore [(4, .int 0), (3, .int 5), (2, .int 0), (0, .ref (G.1 + 88)), (1, .int 8)] dX9_count_109 (by decide) rfl ?_
  refine aw_iload 0 dX9_count_111 rfl ?_
  refine aw_iload_n 1 dX9_count_113 rfl rfl ?_
  refine aw_icmp_ge 146 dX9_count_114 (by decide) (fun c114 => absurd c114 (by decide)) (fun c114 => ?_)
  refine aw_iload_n 2 dX9_count_117 rfl rfl ?_
  refine aw_aload_n 3 dX9_count_118 rfl rfl ?_
  refine aw_get fX9_122 dX9_count_119 hM.1 rfl ?_
  refine aw_bipush (6) dX9_count_122 (by decide) ?_
  refine aw_iload_n 1 dX9_count_124 rfl rfl ?_
  refine aw_imul dX9_count_125 ?_
  refine aw_toe 30 (by decide) ?_
  refine aw_iload 0 dX9_count_126 rfl ?_
  refine aw_iadd dX9_count_128 ?_
  refine aw_toe 30 (by decide) ?_
  refine aw_zald 30 (rfl) (by decide) (by decide) dX9_count_129 hM.2.2.2.2.2.2.2.2.2.2.2.2.2.2.2.2.2.2.2.2.2.2.2.2.2.2.2.2.2.2.2.2.2.2.2.2 ?_
  refine aw_toe 0 (rfl) ?_
  refine aw_if_eq 137 dX9_count_130 (by decide) (fun c130 => ?_) (fun c130 => absurd (by decide) c130)
  refine aw_iconst (0) dX9_count_137 (by decide) ?_
  refine aw_iadd dX9_count_138 ?_
  refine aw_toe 0 (by decide) ?_
  refine aw_istore_n [(2, .int 0), (4, .int 0), (3, .int 5), (0, .ref (G.1 + 88)), (1, .int 8)] dX9_count_139 rfl (by decide) rfl ?_
  refine aw_iinc (j := 1) 1 [(4, .int 1), (2, .int 0), (3, .int 5), (0, .ref (G.1 + 88)), (1, .int 8)] dX9_count_140 rfl (by decide) (by decide) rfl ?_
  refine aw_goto 111 dX9_count_143 (by decide) ?_
  refine aw_iload 0 dX9_count_111 rfl ?_
  refine aw_iload_n 2 dX9_count_113 rfl rfl ?_
  refine aw_icmp_ge 146 dX9_count_114 (by decide) (fun c114 => absurd c114 (by decide)) (fun c114 => ?_)
  refine aw_iload_n 1 dX9_count_117 rfl rfl ?_
  refine aw_aload_n 3 dX9_count_118 rfl rfl ?_
  refine aw_get fX9_122 dX9_count_119 hM.1 rfl ?_
  refine aw_bipush (6) dX9_count_122 (by decide) ?_
  refine aw_iload_n 2 dX9_count_124 rfl rfl ?_
  refine aw_imul dX9_count_125 ?_
  refine aw_toe 30 (by decide) ?_
  refine aw_iload 0 dX9_count_126 rfl ?_
  refine aw_iadd dX9_count_128 ?_
  refine aw_toe 31 (by decide) ?_
  refine aw_zald 31 (rfl) (by decide) (by decide) dX9_count_129 hM.2.2.2.2.2.2.2.2.2.2.2.2.2.2.2.2.2.2.2.2.2.2.2.2.2.2.2.2.2.2.2.2.2.2.2.2 ?_
  refine aw_toe 0 (rfl) ?_
  refine aw_if_eq 137 dX9_count_130 (by decide) (fun c130 => ?_) (fun c130 => absurd (by decide) c130)
  refine aw_iconst (0) dX9_count_137 (by decide) ?_
  refine aw_iadd dX9_count_138 ?_
  refine aw_toe 0 (by decide) ?_
  refine aw_istore_n [(2, .int 0), (4, .int 1), (3, .int 5), (0, .ref (G.1 + 88)), (1, .int 8)] dX9_count_139 rfl (by decide) rfl ?_
  refine aw_iinc (j := 1) 2 [(4, .int 2), (2, .int 0), (3, .int 5), (0, .ref (G.1 + 88)), (1, .int 8)] dX9_count_140 rfl (by decide) (by decide) rfl ?_
  refine aw_goto 111 dX9_count_143 (by decide) ?_
  refine aw_iload 0 dX9_count_111 rfl ?_
  refine aw_iload_n 2 dX9_count_113 rfl rfl ?_
  refine aw_icmp_ge 146 dX9_count_114 (by decide) (fun c114 => absurd c114 (by decide)) (fun c114 => ?_)
  refine aw_iload_n 1 dX9_count_117 rfl rfl ?_
  refine aw_aload_n 3 dX9_count_118 rfl rfl ?_
  refine aw_get fX9_122 dX9_count_119 hM.1 rfl ?_
  refine aw_bipush (6) dX9_count_122 (by decide) ?_
  refine aw_iload_n 2 dX9_count_124 rfl rfl ?_
  refine aw_imul dX9_count_125 ?_
  refine aw_toe 30 (by decide) ?_
  refine aw_iload 0 dX9_count_126 rfl ?_
  refine aw_iadd dX9_count_128 ?_
  refine aw_toe 32 (by decide) ?_
  refine aw_zald 32 (rfl) (by decide) (by decide) dX9_count_129 hM.2.2.2.2.2.2.2.2.2.2.2.2.2.2.2.2.2.2.2.2.2.2.2.2.2.2.2.2.2.2.2.2.2.2.2.2 ?_
  refine aw_toe 0 (rfl) ?_
  refine aw_if_eq 137 dX9_count_130 (by decide) (fun c130 => ?_) (fun c130 => absurd (by decide) c130)
  refine aw_iconst (0) dX9_count_137 (by decide) ?_
  refine aw_iadd dX9_count_138 ?_
  refine aw_toe 0 (by decide) ?_
  refine aw_istore_n [(2, .int 0), (4, .int 2), (3, .int 5), (0, .ref (G.1 + 88)), (1, .int 8)] dX9_count_139 rfl (by decide) rfl ?_
  refine aw_iinc (j := 1) 3 [(4, .int 3), (2, .int 0), (3, .int 5), (0, .ref (G.1 + 88)), (1, .int 8)] dX9_count_140 rfl (by decide) (by decide) rfl ?_
  refine aw_goto 111 dX9_count_143 (by decide) ?_
  refine aw_iload 0 dX9_count_111 rfl ?_
  refine aw_iload_n 2 dX9_count_113 rfl rfl ?_
  refine aw_icmp_ge 146 dX9_count_114 (by decide) (fun c114 => absurd c114 (by decide)) (fun c114 => ?_)
  refine aw_iload_n 1 dX9_count_117 rfl rfl ?_
  refine aw_aload_n 3 dX9_count_118 rfl rfl ?_
  refine aw_get fX9_122 dX9_count_119 hM.1 rfl ?_
  refine aw_bipush (6) dX9_count_122 (by decide) ?_
  refine aw_iload_n 2 dX9_count_124 rfl rfl ?_
  refine aw_imul dX9_count_125 ?_
  refine aw_toe 30 (by decide) ?_
  refine aw_iload 0 dX9_count_126 rfl ?_
  refine aw_iadd dX9_count_128 ?_
  refine aw_toe 33 (by decide) ?_
  refine aw_zald 33 (rfl) (by decide) (by decide) dX9_count_129 hM.2.2.2.2.2.2.2.2.2.2.2.2.2.2.2.2.2.2.2.2.2.2.2.2.2.2.2.2.2.2.2.2.2.2.2.2 ?_
  refine aw_toe 0 (rfl) ?_
  refine aw_if_eq 137 dX9_count_130 (by decide) (fun c130 => ?_) (fun c130 => absurd (by decide) c130)
  refine aw_iconst (0) dX9_count_137 (by decide) ?_
  refine aw_iadd dX9_count_138 ?_
  refine aw_toe 0 (by decide) ?_
  refine aw_istore_n [(2, .int 0), (4, .int 3), (3, .int 5), (0, .ref (G.1 + 88)), (1, .int 8)] dX9_count_139 rfl (by decide) rfl ?_
  refine aw_iinc (j := 1) 4 [(4, .int 4), (2, .int 0), (3, .int 5), (0, .ref (G.1 + 88)), (1, .int 8)] dX9_count_140 rfl (by decide) (by decide) rfl ?_
  refine aw_goto 111 dX9_count_143 (by decide) ?_
  refine aw_iload 0 dX9_count_111 rfl ?_
  refine aw_iload_n 2 dX9_count_113 rfl rfl ?_
  refine aw_icmp_ge 146 dX9_count_114 (by decide) (fun c114 => absurd c114 (by decide)) (fun c114 => ?_)
  refine aw_iload_n 1 dX9_count_117 rfl rfl ?_
  refine aw_aload_n 3 dX9_count_118 rfl rfl ?_
  refine aw_get fX9_122 dX9_count_119 hM.1 rfl ?_
  refine aw_bipush (6) dX9_count_122 (by decide) ?_
  refine aw_iload_n 2 dX9_count_124 rfl rfl ?_
  refine aw_imul dX9_count_125 ?_
  refine aw_toe 30 (by decide) ?_
  refine aw_iload 0 dX9_count_126 rfl ?_
  refine aw_iadd dX9_count_128 ?_
  refine aw_toe 34 (by decide) ?_
  refine aw_zald 34 (rfl) (by decide) (by decide) dX9_count_129 hM.2.2.2.2.2.2.2.2.2.2.2.2.2.2.2.2.2.2.2.2.2.2.2.2.2.2.2.2.2.2.2.2.2.2.2.2 ?_
  refine aw_toe 0 (rfl) ?_
  refine aw_if_eq 137 dX9_count_130 (by decide) (fun c130 => ?_) (fun c130 => absurd (by decide) c130)
  refine aw_iconst (0) dX9_count_137 (by decide) ?_
  refine aw_iadd dX9_count_138 ?_
  refine aw_toe 0 (by decide) ?_
  refine aw_istore_n [(2, .int 0), (4, .int 4), (3, .int 5), (0, .ref (G.1 + 88)), (1, .int 8)] dX9_count_139 rfl (by decide) rfl ?_
  refine aw_iinc (j := 1) 5 [(4, .int 5), (2, .int 0), (3, .int 5), (0, .ref (G.1 + 88)), (1, .int 8)] dX9_count_140 rfl (by decide) (by decide) rfl ?_
  refine aw_goto 111 dX9_count_143 (by decide) ?_
  refine aw_iload 0 dX9_count_111 rfl ?_
  refine aw_iload_n 2 dX9_count_113 rfl rfl ?_
  refine aw_icmp_ge 146 dX9_count_114 (by decide) (fun c114 => ?_) (fun c114 => absurd (by decide) c114)
  refine aw_iinc (j := 2) 6 [(3, .int 6), (4, .int 5), (2, .int 0), (0, .ref (G.1 + 88)), (1, .int 8)] dX9_count_146 rfl (by decide) (by decide) rfl ?_
  refine aw_goto 102 dX9_count_149 (by decide) ?_
  refine aw_iload_n 0 dX9_count_102 rfl rfl ?_
  refine aw_bipush (6) dX9_count_103 (by decide) ?_
  refine aw_icmp_ge 152 dX9_count_105 (by decide) (fun c105 => ?_) (fun c105 => absurd (by decide) c105)
  refine aw_iload_n 2 dX9_count_152 rfl rfl ?_
  exact aw_iret rfl dX9_count_153 (by decide) (by decide) ⟨rfl, trivial⟩
set_option maxHeartbeats 4000000 in
theorem A28_9 {l : Launch} {G : xG} {h : List va_E} (hF : xF8 G h)  : CE l G yX8_count cX8_count 2 (some .int) 2 0 0 [.ref (G.1 + 0), .int 9] h (some (.int 0)) (kp h) := by
  refine cm_of rfl (Nat.le_of_ble_eq_true rfl) [(0, .ref (G.1 + 0)), (1, .int 9)] rfl ?_
  refine aw_iload_n 1 dX8_count_0 rfl rfl ?_
  refine aw_tableIn 106 dX8_count_1 (by decide) (by decide) rfl (by decide) ?_
  refine aw_aload_n 0 dX8_count_106 rfl rfl ?_
  refine aw_get fX8_34 dX8_count_107 hF.1 rfl ?_
  refine aw_get fX8_243 dX8_count_110 hF.2.2.2.2.2.2.2.2.2.2.2.2.2.1 rfl ?_
  refine aw_aload_n 0 dX8_count_113 rfl rfl ?_
  refine aw_get fX8_38 dX8_count_114 hF.1 rfl ?_
  refine aw_get fX8_243 dX8_count_117 hF.2.2.2.2.2.2.2.2.2.2.2.2.2.2.2.2.2.2.2.2.2.1 rfl ?_
  refine aw_iadd dX8_count_120 ?_
  refine aw_toe 0 (by decide) ?_
  exact aw_iret rfl dX8_count_121 (by decide) (by decide) ⟨rfl, kp_rf h⟩
set_option maxHeartbeats 4000000 in
theorem B28_9 {l : Launch} {G : xG} {h : List va_E} (hM : xF9 G h)  : CE l G yX9_count cX9_count 5 (some .int) 2 0 0 [.ref (G.1 + 88), .int 9] h (some (.int 0)) (fun _ => True) := by
  refine cm_of rfl (Nat.le_of_ble_eq_true rfl) [(0, .ref (G.1 + 88)), (1, .int 9)] rfl ?_
  refine aw_iload_n 1 dX9_count_0 rfl rfl ?_
  refine aw_bipush (10) dX9_count_1 (by decide) ?_
  refine aw_icmp_le 22 dX9_count_3 (by decide) (fun c3 => ?_) (fun c3 => absurd (by decide) c3)
  refine aw_iload_n 1 dX9_count_22 rfl rfl ?_
  refine aw_iconst (4) dX9_count_23 (by decide) ?_
  refine aw_dS [.int 9, .int 4] [] lX9_126 sX9_isIn mX9_isIn dX9_count_24 (X9_isIn4_f (by decide)) rfl (Nat.le_of_ble_eq_true rfl) (by decide) (by decide) rfl ?_
  refine aw_if_eq 37 dX9_count_27 (by decide) (fun c27 => ?_) (fun c27 => absurd (by decide) c27)
  refine aw_iconst (0) dX9_count_37 (by decide) ?_
  refine aw_istore_n [(2, .int 0), (0, .ref (G.1 + 88)), (1, .int 9)] dX9_count_38 rfl (by decide) rfl ?_
  refine aw_iload_n 2 dX9_count_39 rfl rfl ?_
  refine aw_tableIn 154 dX9_count_40 (by decide) (by decide) rfl (by decide) ?_
  refine aw_iconst (0) dX9_count_154 (by decide) ?_
  refine aw_istore_n [(3, .int 0), (2, .int 0), (0, .ref (G.1 + 88)), (1, .int 9)] dX9_count_155 rfl (by decide) rfl ?_
  refine aw_iload_n 0 dX9_count_156 rfl rfl ?_
  refine aw_aload_n 2 dX9_count_157 rfl rfl ?_
  refine aw_get fX9_198 dX9_count_158 hM.1 rfl ?_
  refine aw_icmp_ge 189 dX9_count_161 (by decide) (fun c161 => ?_) (fun c161 => absurd (by decide) c161)
  refine aw_iconst (0) dX9_count_189 (by decide) ?_
  refine aw_istore_n [(3, .int 0), (2, .int 0), (0, .ref (G.1 + 88)), (1, .int 9)] dX9_count_190 rfl (by decide) rfl ?_
  refine aw_iload_n 0 dX9_count_191 rfl rfl ?_
  refine aw_aload_n 2 dX9_count_192 rfl rfl ?_
  refine aw_get fX9_202 dX9_count_193 hM.1 rfl ?_
  refine aw_icmp_ge 224 dX9_count_196 (by decide) (fun c196 => ?_) (fun c196 => absurd (by decide) c196)
  refine aw_iload_n 1 dX9_count_224 rfl rfl ?_
  exact aw_iret rfl dX9_count_225 (by decide) (by decide) ⟨rfl, trivial⟩
set_option maxHeartbeats 4000000 in
theorem A28_11 {l : Launch} {G : xG} {h : List va_E} (hF : xF8 G h)  : CE l G yX8_count cX8_count 2 (some .int) 2 0 0 [.ref (G.1 + 0), .int 11] h (some (.int 0)) (kp h) := by
  refine cm_of rfl (Nat.le_of_ble_eq_true rfl) [(0, .ref (G.1 + 0)), (1, .int 11)] rfl ?_
  refine aw_iload_n 1 dX8_count_0 rfl rfl ?_
  refine aw_tableOut 122 dX8_count_1 (by decide) (by decide) ?_
  refine aw_iload_n 1 dX8_count_122 rfl rfl ?_
  refine aw_bipush (10) dX8_count_123 (by decide) ?_
  refine aw_icmp_le 146 dX8_count_125 (by decide) (fun c125 => absurd c125 (by decide)) (fun c125 => ?_)
  refine aw_iload_n 1 dX8_count_128 rfl rfl ?_
  refine aw_bipush (16) dX8_count_129 (by decide) ?_
  refine aw_icmp_gt 146 dX8_count_131 (by decide) (fun c131 => absurd c131 (by decide)) (fun c131 => ?_)
  refine aw_aload_n 0 dX8_count_134 rfl rfl ?_
  refine aw_get fX8_62 dX8_count_135 hF.1 rfl ?_
  refine aw_iload_n 1 dX8_count_138 rfl rfl ?_
  refine aw_bipush (10) dX8_count_139 (by decide) ?_
  refine aw_isub dX8_count_141 ?_
  refine aw_toe 1 (by decide) ?_
  refine aw_iald 1 (rfl) (by decide) (by decide) dX8_count_142 hF.2.2.2.2.2.2.2.2.2.2.2.2.2.2.2.2.2.2.2.2.2.2.2.2.2.2.2.2.2.2.2.2.2.2.2.2.2.2.2.1 ?_
  refine aw_toe 0 (rfl) ?_
  refine aw_goto 148 dX8_count_143 (by decide) ?_
  exact aw_iret rfl dX8_count_148 (by decide) (by decide) ⟨rfl, kp_rf h⟩
set_option maxHeartbeats 4000000 in
theorem B28_11 {l : Launch} {G : xG} {h : List va_E} (hM : xF9 G h)  : CE l G yX9_count cX9_count 5 (some .int) 2 0 0 [.ref (G.1 + 88), .int 11] h (some (.int 0)) (fun _ => True) := by
  refine cm_of rfl (Nat.le_of_ble_eq_true rfl) [(0, .ref (G.1 + 88)), (1, .int 11)] rfl ?_
  refine aw_iload_n 1 dX9_count_0 rfl rfl ?_
  refine aw_bipush (10) dX9_count_1 (by decide) ?_
  refine aw_icmp_le 22 dX9_count_3 (by decide) (fun c3 => absurd c3 (by decide)) (fun c3 => ?_)
  refine aw_iload_n 1 dX9_count_6 rfl rfl ?_
  refine aw_bipush (17) dX9_count_7 (by decide) ?_
  refine aw_icmp_ge 22 dX9_count_9 (by decide) (fun c9 => absurd c9 (by decide)) (fun c9 => ?_)
  refine aw_aload_n 0 dX9_count_12 rfl rfl ?_
  refine aw_get fX9_7 dX9_count_13 hM.1 rfl ?_
  refine aw_iload_n 1 dX9_count_16 rfl rfl ?_
  refine aw_bipush (10) dX9_count_17 (by decide) ?_
  refine aw_isub dX9_count_19 ?_
  refine aw_toe 1 (by decide) ?_
  refine aw_iald 1 (rfl) (by decide) (by decide) dX9_count_20 hM.2.1 ?_
  refine aw_toe 0 (rfl) ?_
  exact aw_iret rfl dX9_count_21 (by decide) (by decide) ⟨rfl, trivial⟩
set_option maxHeartbeats 4000000 in
theorem A28_12 {l : Launch} {G : xG} {h : List va_E} (hF : xF8 G h)  : CE l G yX8_count cX8_count 2 (some .int) 2 0 0 [.ref (G.1 + 0), .int 12] h (some (.int 0)) (kp h) := by
  refine cm_of rfl (Nat.le_of_ble_eq_true rfl) [(0, .ref (G.1 + 0)), (1, .int 12)] rfl ?_
  refine aw_iload_n 1 dX8_count_0 rfl rfl ?_
  refine aw_tableOut 122 dX8_count_1 (by decide) (by decide) ?_
  refine aw_iload_n 1 dX8_count_122 rfl rfl ?_
  refine aw_bipush (10) dX8_count_123 (by decide) ?_
  refine aw_icmp_le 146 dX8_count_125 (by decide) (fun c125 => absurd c125 (by decide)) (fun c125 => ?_)
  refine aw_iload_n 1 dX8_count_128 rfl rfl ?_
  refine aw_bipush (16) dX8_count_129 (by decide) ?_
  refine aw_icmp_gt 146 dX8_count_131 (by decide) (fun c131 => absurd c131 (by decide)) (fun c131 => ?_)
  refine aw_aload_n 0 dX8_count_134 rfl rfl ?_
  refine aw_get fX8_62 dX8_count_135 hF.1 rfl ?_
  refine aw_iload_n 1 dX8_count_138 rfl rfl ?_
  refine aw_bipush (10) dX8_count_139 (by decide) ?_
  refine aw_isub dX8_count_141 ?_
  refine aw_toe 2 (by decide) ?_
  refine aw_iald 2 (rfl) (by decide) (by decide) dX8_count_142 hF.2.2.2.2.2.2.2.2.2.2.2.2.2.2.2.2.2.2.2.2.2.2.2.2.2.2.2.2.2.2.2.2.2.2.2.2.2.2.2.1 ?_
  refine aw_toe 0 (rfl) ?_
  refine aw_goto 148 dX8_count_143 (by decide) ?_
  exact aw_iret rfl dX8_count_148 (by decide) (by decide) ⟨rfl, kp_rf h⟩
set_option maxHeartbeats 4000000 in
theorem B28_12 {l : Launch} {G : xG} {h : List va_E} (hM : xF9 G h)  : CE l G yX9_count cX9_count 5 (some .int) 2 0 0 [.ref (G.1 + 88), .int 12] h (some (.int 0)) (fun _ => True) := by
  refine cm_of rfl (Nat.le_of_ble_eq_true rfl) [(0, .ref (G.1 + 88)), (1, .int 12)] rfl ?_
  refine aw_iload_n 1 dX9_count_0 rfl rfl ?_
  refine aw_bipush (10) dX9_count_1 (by decide) ?_
  refine aw_icmp_le 22 dX9_count_3 (by decide) (fun c3 => absurd c3 (by decide)) (fun c3 => ?_)
  refine aw_iload_n 1 dX9_count_6 rfl rfl ?_
  refine aw_bipush (17) dX9_count_7 (by decide) ?_
  refine aw_icmp_ge 22 dX9_count_9 (by decide) (fun c9 => absurd c9 (by decide)) (fun c9 => ?_)
  refine aw_aload_n 0 dX9_count_12 rfl rfl ?_
  refine aw_get fX9_7 dX9_count_13 hM.1 rfl ?_
  refine aw_iload_n 1 dX9_count_16 rfl rfl ?_
  refine aw_bipush (10) dX9_count_17 (by decide) ?_
  refine aw_isub dX9_count_19 ?_
  refine aw_toe 2 (by decide) ?_
  refine aw_iald 2 (rfl) (by decide) (by decide) dX9_count_20 hM.2.1 ?_
  refine aw_toe 0 (rfl) ?_
  exact aw_iret rfl dX9_count_21 (by decide) (by decide) ⟨rfl, trivial⟩
set_option maxHeartbeats 4000000 in
theorem A28_13 {l : Launch} {G : xG} {h : List va_E} (hF : xF8 G h)  : CE l G yX8_count cX8_count 2 (some .int) 2 0 0 [.ref (G.1 + 0), .int 13] h (some (.int 0)) (kp h) := by
  refine cm_of rfl (Nat.le_of_ble_eq_true rfl) [(0, .ref (G.1 + 0)), (1, .int 13)] rfl ?_
  refine aw_iload_n 1 dX8_count_0 rfl rfl ?_
  refine aw_tableOut 122 dX8_count_1 (by decide) (by decide) ?_
  refine aw_iload_n 1 dX8_count_122 rfl rfl ?_
  refine aw_bipush (10) dX8_count_123 (by decide) ?_
  refine aw_icmp_le 146 dX8_count_125 (by decide) (fun c125 => absurd c125 (by decide)) (fun c125 => ?_)
  refine aw_iload_n 1 dX8_count_128 rfl rfl ?_
  refine aw_bipush (16) dX8_count_129 (by decide) ?_
  refine aw_icmp_gt 146 dX8_count_131 (by decide) (fun c131 => absurd c131 (by decide)) (fun c131 => ?_)
  refine aw_aload_n 0 dX8_count_134 rfl rfl ?_
  refine aw_get fX8_62 dX8_count_135 hF.1 rfl ?_
  refine aw_iload_n 1 dX8_count_138 rfl rfl ?_
  refine aw_bipush (10) dX8_count_139 (by decide) ?_
  refine aw_isub dX8_count_141 ?_
  refine aw_toe 3 (by decide) ?_
  refine aw_iald 3 (rfl) (by decide) (by decide) dX8_count_142 hF.2.2.2.2.2.2.2.2.2.2.2.2.2.2.2.2.2.2.2.2.2.2.2.2.2.2.2.2.2.2.2.2.2.2.2.2.2.2.2.1 ?_
  refine aw_toe 0 (rfl) ?_
  refine aw_goto 148 dX8_count_143 (by decide) ?_
  exact aw_iret rfl dX8_count_148 (by decide) (by decide) ⟨rfl, kp_rf h⟩
set_option maxHeartbeats 4000000 in
theorem B28_13 {l : Launch} {G : xG} {h : List va_E} (hM : xF9 G h)  : CE l G yX9_count cX9_count 5 (some .int) 2 0 0 [.ref (G.1 + 88), .int 13] h (some (.int 0)) (fun _ => True) := by
  refine cm_of rfl (Nat.le_of_ble_eq_true rfl) [(0, .ref (G.1 + 88)), (1, .int 13)] rfl ?_
  refine aw_iload_n 1 dX9_count_0 rfl rfl ?_
  refine aw_bipush (10) dX9_count_1 (by decide) ?_
  refine aw_icmp_le 22 dX9_count_3 (by decide) (fun c3 => absurd c3 (by decide)) (fun c3 => ?_)
  refine aw_iload_n 1 dX9_count_6 rfl rfl ?_
  refine aw_bipush (17) dX9_count_7 (by decide) ?_
  refine aw_icmp_ge 22 dX9_count_9 (by decide) (fun c9 => absurd c9 (by decide)) (fun c9 => ?_)
  refine aw_aload_n 0 dX9_count_12 rfl rfl ?_
  refine aw_get fX9_7 dX9_count_13 hM.1 rfl ?_
  refine aw_iload_n 1 dX9_count_16 rfl rfl ?_
  refine aw_bipush (10) dX9_count_17 (by decide) ?_
  refine aw_isub dX9_count_19 ?_
  refine aw_toe 3 (by decide) ?_
  refine aw_iald 3 (rfl) (by decide) (by decide) dX9_count_20 hM.2.1 ?_
  refine aw_toe 0 (rfl) ?_
  exact aw_iret rfl dX9_count_21 (by decide) (by decide) ⟨rfl, trivial⟩
set_option maxHeartbeats 4000000 in
theorem A28_14 {l : Launch} {G : xG} {h : List va_E} (hF : xF8 G h)  : CE l G yX8_count cX8_count 2 (some .int) 2 0 0 [.ref (G.1 + 0), .int 14] h (some (.int 0)) (kp h) := by
  refine cm_of rfl (Nat.le_of_ble_eq_true rfl) [(0, .ref (G.1 + 0)), (1, .int 14)] rfl ?_
  refine aw_iload_n 1 dX8_count_0 rfl rfl ?_
  refine aw_tableOut 122 dX8_count_1 (by decide) (by decide) ?_
  refine aw_iload_n 1 dX8_count_122 rfl rfl ?_
  refine aw_bipush (10) dX8_count_123 (by decide) ?_
  refine aw_icmp_le 146 dX8_count_125 (by decide) (fun c125 => absurd c125 (by decide)) (fun c125 => ?_)
  refine aw_iload_n 1 dX8_count_128 rfl rfl ?_
  refine aw_bipush (16) dX8_count_129 (by decide) ?_
  refine aw_icmp_gt 146 dX8_count_131 (by decide) (fun c131 => absurd c131 (by decide)) (fun c131 => ?_)
  refine aw_aload_n 0 dX8_count_134 rfl rfl ?_
  refine aw_get fX8_62 dX8_count_135 hF.1 rfl ?_
  refine aw_iload_n 1 dX8_count_138 rfl rfl ?_
  refine aw_bipush (10) dX8_count_139 (by decide) ?_
  refine aw_isub dX8_count_141 ?_
  refine aw_toe 4 (by decide) ?_
  refine aw_iald 4 (rfl) (by decide) (by decide) dX8_count_142 hF.2.2.2.2.2.2.2.2.2.2.2.2.2.2.2.2.2.2.2.2.2.2.2.2.2.2.2.2.2.2.2.2.2.2.2.2.2.2.2.1 ?_
  refine aw_toe 0 (rfl) ?_
  refine aw_goto 148 dX8_count_143 (by decide) ?_
  exact aw_iret rfl dX8_count_148 (by decide) (by decide) ⟨rfl, kp_rf h⟩
set_option maxHeartbeats 4000000 in
theorem B28_14 {l : Launch} {G : xG} {h : List va_E} (hM : xF9 G h)  : CE l G yX9_count cX9_count 5 (some .int) 2 0 0 [.ref (G.1 + 88), .int 14] h (some (.int 0)) (fun _ => True) := by
  refine cm_of rfl (Nat.le_of_ble_eq_true rfl) [(0, .ref (G.1 + 88)), (1, .int 14)] rfl ?_
  refine aw_iload_n 1 dX9_count_0 rfl rfl ?_
  refine aw_bipush (10) dX9_count_1 (by decide) ?_
  refine aw_icmp_le 22 dX9_count_3 (by decide) (fun c3 => absurd c3 (by decide)) (fun c3 => ?_)
  refine aw_iload_n 1 dX9_count_6 rfl rfl ?_
  refine aw_bipush (17) dX9_count_7 (by decide) ?_
  refine aw_icmp_ge 22 dX9_count_9 (by decide) (fun c9 => absurd c9 (by decide)) (fun c9 => ?_)
  refine aw_aload_n 0 dX9_count_12 rfl rfl ?_
  refine aw_get fX9_7 dX9_count_13 hM.1 rfl ?_
  refine aw_iload_n 1 dX9_count_16 rfl rfl ?_
  refine aw_bipush (10) dX9_count_17 (by decide) ?_
  refine aw_isub dX9_count_19 ?_
  refine aw_toe 4 (by decide) ?_
  refine aw_iald 4 (rfl) (by decide) (by decide) dX9_count_20 hM.2.1 ?_
  refine aw_toe 0 (rfl) ?_
  exact aw_iret rfl dX9_count_21 (by decide) (by decide) ⟨rfl, trivial⟩
set_option maxHeartbeats 4000000 in
theorem A28_15 {l : Launch} {G : xG} {h : List va_E} (hF : xF8 G h)  : CE l G yX8_count cX8_count 2 (some .int) 2 0 0 [.ref (G.1 + 0), .int 15] h (some (.int 0)) (kp h) := by
  refine cm_of rfl (Nat.le_of_ble_eq_true rfl) [(0, .ref (G.1 + 0)), (1, .int 15)] rfl ?_
  refine aw_iload_n 1 dX8_count_0 rfl rfl ?_
  refine aw_tableOut 122 dX8_count_1 (by decide) (by decide) ?_
  refine aw_iload_n 1 dX8_count_122 rfl rfl ?_
  refine aw_bipush (10) dX8_count_123 (by decide) ?_
  refine aw_icmp_le 146 dX8_count_125 (by decide) (fun c125 => absurd c125 (by decide)) (fun c125 => ?_)
  refine aw_iload_n 1 dX8_count_128 rfl rfl ?_
  refine aw_bipush (16) dX8_count_129 (by decide) ?_
  refine aw_icmp_gt 146 dX8_count_131 (by decide) (fun c131 => absurd c131 (by decide)) (fun c131 => ?_)
  refine aw_aload_n 0 dX8_count_134 rfl rfl ?_
  refine aw_get fX8_62 dX8_count_135 hF.1 rfl ?_
  refine aw_iload_n 1 dX8_count_138 rfl rfl ?_
  refine aw_bipush (10) dX8_count_139 (by decide) ?_
  refine aw_isub dX8_count_141 ?_
  refine aw_toe 5 (by decide) ?_
  refine aw_iald 5 (rfl) (by decide) (by decide) dX8_count_142 hF.2.2.2.2.2.2.2.2.2.2.2.2.2.2.2.2.2.2.2.2.2.2.2.2.2.2.2.2.2.2.2.2.2.2.2.2.2.2.2.1 ?_
  refine aw_toe 0 (rfl) ?_
  refine aw_goto 148 dX8_count_143 (by decide) ?_
  exact aw_iret rfl dX8_count_148 (by decide) (by decide) ⟨rfl, kp_rf h⟩
set_option maxHeartbeats 4000000 in
theorem B28_15 {l : Launch} {G : xG} {h : List va_E} (hM : xF9 G h)  : CE l G yX9_count cX9_count 5 (some .int) 2 0 0 [.ref (G.1 + 88), .int 15] h (some (.int 0)) (fun _ => True) := by
  refine cm_of rfl (Nat.le_of_ble_eq_true rfl) [(0, .ref (G.1 + 88)), (1, .int 15)] rfl ?_
  refine aw_iload_n 1 dX9_count_0 rfl rfl ?_
  refine aw_bipush (10) dX9_count_1 (by decide) ?_
  refine aw_icmp_le 22 dX9_count_3 (by decide) (fun c3 => absurd c3 (by decide)) (fun c3 => ?_)
  refine aw_iload_n 1 dX9_count_6 rfl rfl ?_
  refine aw_bipush (17) dX9_count_7 (by decide) ?_
  refine aw_icmp_ge 22 dX9_count_9 (by decide) (fun c9 => absurd c9 (by decide)) (fun c9 => ?_)
  refine aw_aload_n 0 dX9_count_12 rfl rfl ?_
  refine aw_get fX9_7 dX9_count_13 hM.1 rfl ?_
  refine aw_iload_n 1 dX9_count_16 rfl rfl ?_
  refine aw_bipush (10) dX9_count_17 (by decide) ?_
  refine aw_isub dX9_count_19 ?_
  refine aw_toe 5 (by decide) ?_
  refine aw_iald 5 (rfl) (by decide) (by decide) dX9_count_20 hM.2.1 ?_
  refine aw_toe 0 (rfl) ?_
  exact aw_iret rfl dX9_count_21 (by decide) (by decide) ⟨rfl, trivial⟩
set_option maxHeartbeats 4000000 in
theorem A28_16 {l : Launch} {G : xG} {h : List va_E} (hF : xF8 G h)  : CE l G yX8_count cX8_count 2 (some .int) 2 0 0 [.ref (G.1 + 0), .int 16] h (some (.int 0)) (kp h) := by
  refine cm_of rfl (Nat.le_of_ble_eq_true rfl) [(0, .ref (G.1 + 0)), (1, .int 16)] rfl ?_
  refine aw_iload_n 1 dX8_count_0 rfl rfl ?_
  refine aw_tableOut 122 dX8_count_1 (by decide) (by decide) ?_
  refine aw_iload_n 1 dX8_count_122 rfl rfl ?_
  refine aw_bipush (10) dX8_count_123 (by decide) ?_
  refine aw_icmp_le 146 dX8_count_125 (by decide) (fun c125 => absurd c125 (by decide)) (fun c125 => ?_)
  refine aw_iload_n 1 dX8_count_128 rfl rfl ?_
  refine aw_bipush (16) dX8_count_129 (by decide) ?_
  refine aw_icmp_gt 146 dX8_count_131 (by decide) (fun c131 => absurd c131 (by decide)) (fun c131 => ?_)
  refine aw_aload_n 0 dX8_count_134 rfl rfl ?_
  refine aw_get fX8_62 dX8_count_135 hF.1 rfl ?_
  refine aw_iload_n 1 dX8_count_138 rfl rfl ?_
  refine aw_bipush (10) dX8_count_139 (by decide) ?_
  refine aw_isub dX8_count_141 ?_
  refine aw_toe 6 (by decide) ?_
  refine aw_iald 6 (rfl) (by decide) (by decide) dX8_count_142 hF.2.2.2.2.2.2.2.2.2.2.2.2.2.2.2.2.2.2.2.2.2.2.2.2.2.2.2.2.2.2.2.2.2.2.2.2.2.2.2.1 ?_
  refine aw_toe 0 (rfl) ?_
  refine aw_goto 148 dX8_count_143 (by decide) ?_
  exact aw_iret rfl dX8_count_148 (by decide) (by decide) ⟨rfl, kp_rf h⟩
set_option maxHeartbeats 4000000 in
theorem B28_16 {l : Launch} {G : xG} {h : List va_E} (hM : xF9 G h)  : CE l G yX9_count cX9_count 5 (some .int) 2 0 0 [.ref (G.1 + 88), .int 16] h (some (.int 0)) (fun _ => True) := by
  refine cm_of rfl (Nat.le_of_ble_eq_true rfl) [(0, .ref (G.1 + 88)), (1, .int 16)] rfl ?_
  refine aw_iload_n 1 dX9_count_0 rfl rfl ?_
  refine aw_bipush (10) dX9_count_1 (by decide) ?_
  refine aw_icmp_le 22 dX9_count_3 (by decide) (fun c3 => absurd c3 (by decide)) (fun c3 => ?_)
  refine aw_iload_n 1 dX9_count_6 rfl rfl ?_
  refine aw_bipush (17) dX9_count_7 (by decide) ?_
  refine aw_icmp_ge 22 dX9_count_9 (by decide) (fun c9 => absurd c9 (by decide)) (fun c9 => ?_)
  refine aw_aload_n 0 dX9_count_12 rfl rfl ?_
  refine aw_get fX9_7 dX9_count_13 hM.1 rfl ?_
  refine aw_iload_n 1 dX9_count_16 rfl rfl ?_
  refine aw_bipush (10) dX9_count_17 (by decide) ?_
  refine aw_isub dX9_count_19 ?_
  refine aw_toe 6 (by decide) ?_
  refine aw_iald 6 (rfl) (by decide) (by decide) dX9_count_20 hM.2.1 ?_
  refine aw_toe 0 (rfl) ?_
  exact aw_iret rfl dX9_count_21 (by decide) (by decide) ⟨rfl, trivial⟩
set_option maxHeartbeats 4000000 in
theorem A28n {l : Launch} {G : xG} {h : List va_E} {w : Int32} (hF : xF8 G h) (hw : w.toInt < 0) : CE l G yX8_count cX8_count 2 (some .int) 2 0 0 [.ref (G.1 + 0), .int w] h (some (.int (-9))) (kp h) := by
  refine cm_of rfl (Nat.le_of_ble_eq_true rfl) [(0, .ref (G.1 + 0)), (1, .int w)] rfl ?_
  refine aw_iload_n 1 dX8_count_0 rfl rfl ?_
  refine aw_tableOut 122 dX8_count_1 (by omega) (by decide) ?_
  refine aw_iload_n 1 dX8_count_122 rfl rfl ?_
  refine aw_bipush (10) dX8_count_123 (by decide) ?_
  refine aw_icmp_le 146 dX8_count_125 (by decide) (fun c125 => ?_) (fun c125 => absurd (by simp only [i_le, (show (10 : Int32).toInt = 10 from rfl)] <;> omega) c125)
  refine aw_bipush (-9) dX8_count_146 (by decide) ?_
  exact aw_iret rfl dX8_count_148 (by decide) (by decide) ⟨rfl, kp_rf h⟩
set_option maxHeartbeats 4000000 in
theorem B28n {l : Launch} {G : xG} {h : List va_E} {w : Int32} (hM : xF9 G h) (hw : w.toInt < 0) : CE l G yX9_count cX9_count 5 (some .int) 2 0 0 [.ref (G.1 + 88), .int w] h (some (.int (-9))) (fun _ => True) := by
  refine cm_of rfl (Nat.le_of_ble_eq_true rfl) [(0, .ref (G.1 + 88)), (1, .int w)] rfl ?_
  refine aw_iload_n 1 dX9_count_0 rfl rfl ?_
  refine aw_bipush (10) dX9_count_1 (by decide) ?_
  refine aw_icmp_le 22 dX9_count_3 (by decide) (fun c3 => ?_) (fun c3 => absurd (by simp only [i_le, (show (10 : Int32).toInt = 10 from rfl)] <;> omega) c3)
  refine aw_iload_n 1 dX9_count_22 rfl rfl ?_
  refine aw_iconst (4) dX9_count_23 (by decide) ?_
  refine aw_dS [.int w, .int 4] [] lX9_126 sX9_isIn mX9_isIn dX9_count_24 (X9_isIn4_f (by omega)) rfl (Nat.le_of_ble_eq_true rfl) (by decide) (by decide) rfl ?_
  refine aw_if_eq 37 dX9_count_27 (by decide) (fun c27 => ?_) (fun c27 => absurd (by decide) c27)
  refine aw_iconst (0) dX9_count_37 (by decide) ?_
  refine aw_istore_n [(2, .int 0), (0, .ref (G.1 + 88)), (1, .int w)] dX9_count_38 rfl (by decide) rfl ?_
  refine aw_iload_n 2 dX9_count_39 rfl rfl ?_
  refine aw_tableOut 226 dX9_count_40 (by omega) (by decide) ?_
  refine aw_bipush (-9) dX9_count_226 (by decide) ?_
  exact aw_iret rfl dX9_count_228 (by decide) (by decide) ⟨rfl, trivial⟩
set_option maxHeartbeats 4000000 in
theorem A28x {l : Launch} {G : xG} {h : List va_E} (hF : xF8 G h)  : CE l G yX8_count cX8_count 2 (some .int) 2 0 0 [.ref (G.1 + 0), .int 10] h (some (.int (-9))) (kp h) := by
  refine cm_of rfl (Nat.le_of_ble_eq_true rfl) [(0, .ref (G.1 + 0)), (1, .int 10)] rfl ?_
  refine aw_iload_n 1 dX8_count_0 rfl rfl ?_
  refine aw_tableOut 122 dX8_count_1 (by decide) (by decide) ?_
  refine aw_iload_n 1 dX8_count_122 rfl rfl ?_
  refine aw_bipush (10) dX8_count_123 (by decide) ?_
  refine aw_icmp_le 146 dX8_count_125 (by decide) (fun c125 => ?_) (fun c125 => absurd (by decide) c125)
  refine aw_bipush (-9) dX8_count_146 (by decide) ?_
  exact aw_iret rfl dX8_count_148 (by decide) (by decide) ⟨rfl, kp_rf h⟩
set_option maxHeartbeats 4000000 in
theorem B28x {l : Launch} {G : xG} {h : List va_E} (hM : xF9 G h)  : CE l G yX9_count cX9_count 5 (some .int) 2 0 0 [.ref (G.1 + 88), .int 10] h (some (.int (-9))) (fun _ => True) := by
  refine cm_of rfl (Nat.le_of_ble_eq_true rfl) [(0, .ref (G.1 + 88)), (1, .int 10)] rfl ?_
  refine aw_iload_n 1 dX9_count_0 rfl rfl ?_
  refine aw_bipush (10) dX9_count_1 (by decide) ?_
  refine aw_icmp_le 22 dX9_count_3 (by decide) (fun c3 => ?_) (fun c3 => absurd (by decide) c3)
  refine aw_iload_n 1 dX9_count_22 rfl rfl ?_
  refine aw_iconst (4) dX9_count_23 (by decide) ?_
  refine aw_dS [.int 10, .int 4] [] lX9_126 sX9_isIn mX9_isIn dX9_count_24 (X9_isIn4_f (by decide)) rfl (Nat.le_of_ble_eq_true rfl) (by decide) (by decide) rfl ?_
  refine aw_if_eq 37 dX9_count_27 (by decide) (fun c27 => ?_) (fun c27 => absurd (by decide) c27)
  refine aw_iconst (0) dX9_count_37 (by decide) ?_
  refine aw_istore_n [(2, .int 0), (0, .ref (G.1 + 88)), (1, .int 10)] dX9_count_38 rfl (by decide) rfl ?_
  refine aw_iload_n 2 dX9_count_39 rfl rfl ?_
  refine aw_tableOut 226 dX9_count_40 (by decide) (by decide) ?_
  refine aw_bipush (-9) dX9_count_226 (by decide) ?_
  exact aw_iret rfl dX9_count_228 (by decide) (by decide) ⟨rfl, trivial⟩
set_option maxHeartbeats 4000000 in
theorem A28p {l : Launch} {G : xG} {h : List va_E} {w : Int32} (hF : xF8 G h) (hw : 16 < w.toInt) : CE l G yX8_count cX8_count 2 (some .int) 2 0 0 [.ref (G.1 + 0), .int w] h (some (.int (-9))) (kp h) := by
  refine cm_of rfl (Nat.le_of_ble_eq_true rfl) [(0, .ref (G.1 + 0)), (1, .int w)] rfl ?_
  refine aw_iload_n 1 dX8_count_0 rfl rfl ?_
  refine aw_tableOut 122 dX8_count_1 (by omega) (by decide) ?_
  refine aw_iload_n 1 dX8_count_122 rfl rfl ?_
  refine aw_bipush (10) dX8_count_123 (by decide) ?_
  refine aw_icmp_le 146 dX8_count_125 (by decide) (fun c125 => absurd c125 (by simp only [i_le, (show (10 : Int32).toInt = 10 from rfl)] <;> omega)) (fun c125 => ?_)
  refine aw_iload_n 1 dX8_count_128 rfl rfl ?_
  refine aw_bipush (16) dX8_count_129 (by decide) ?_
  refine aw_icmp_gt 146 dX8_count_131 (by decide) (fun c131 => ?_) (fun c131 => absurd (by simp only [i_lt, (show (16 : Int32).toInt = 16 from rfl)] <;> omega) c131)
  refine aw_bipush (-9) dX8_count_146 (by decide) ?_
  exact aw_iret rfl dX8_count_148 (by decide) (by decide) ⟨rfl, kp_rf h⟩
set_option maxHeartbeats 4000000 in
theorem B28p {l : Launch} {G : xG} {h : List va_E} {w : Int32} (hM : xF9 G h) (hw : 16 < w.toInt) : CE l G yX9_count cX9_count 5 (some .int) 2 0 0 [.ref (G.1 + 88), .int w] h (some (.int (-9))) (fun _ => True) := by
  refine cm_of rfl (Nat.le_of_ble_eq_true rfl) [(0, .ref (G.1 + 88)), (1, .int w)] rfl ?_
  refine aw_iload_n 1 dX9_count_0 rfl rfl ?_
  refine aw_bipush (10) dX9_count_1 (by decide) ?_
  refine aw_icmp_le 22 dX9_count_3 (by decide) (fun c3 => absurd c3 (by simp only [i_le, (show (10 : Int32).toInt = 10 from rfl)] <;> omega)) (fun c3 => ?_)
  refine aw_iload_n 1 dX9_count_6 rfl rfl ?_
  refine aw_bipush (17) dX9_count_7 (by decide) ?_
  refine aw_icmp_ge 22 dX9_count_9 (by decide) (fun c9 => ?_) (fun c9 => absurd (by simp only [i_le, (show (17 : Int32).toInt = 17 from rfl)] <;> omega) c9)
  refine aw_iload_n 1 dX9_count_22 rfl rfl ?_
  refine aw_iconst (4) dX9_count_23 (by decide) ?_
  refine aw_dS [.int w, .int 4] [] lX9_126 sX9_isIn mX9_isIn dX9_count_24 (X9_isIn4_f (by omega)) rfl (Nat.le_of_ble_eq_true rfl) (by decide) (by decide) rfl ?_
  refine aw_if_eq 37 dX9_count_27 (by decide) (fun c27 => ?_) (fun c27 => absurd (by decide) c27)
  refine aw_iconst (0) dX9_count_37 (by decide) ?_
  refine aw_istore_n [(2, .int 0), (0, .ref (G.1 + 88)), (1, .int w)] dX9_count_38 rfl (by decide) rfl ?_
  refine aw_iload_n 2 dX9_count_39 rfl rfl ?_
  refine aw_tableOut 226 dX9_count_40 (by omega) (by decide) ?_
  refine aw_bipush (-9) dX9_count_226 (by decide) ?_
  exact aw_iret rfl dX9_count_228 (by decide) (by decide) ⟨rfl, trivial⟩
