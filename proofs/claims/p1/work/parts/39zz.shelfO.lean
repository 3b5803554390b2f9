set_option maxHeartbeats 4000000 in
theorem X9_wS_z {l : Launch} {G : xG} {h : List va_E} {w : Int32} (hw : w.toInt = 0) : CD l G yX9_wrongShelf cX9_wrongShelf 2 (some .int) 1 0 0 [.ref (G.1 + 88), .int w] h (some (.int (-1))) h := by
  refine cm_of rfl (Nat.le_of_ble_eq_true rfl) [(0, .ref (G.1 + 88)), (1, .int w)] rfl ?_
  refine aw_iload_n 1 dX9_wrongShelf_0 rfl rfl ?_
  refine aw_if_le 11 dX9_wrongShelf_1 (by decide) (fun c1 => ?_) (fun c1 => absurd (by simp only [i_le, (show (0 : Int32).toInt = 0 from rfl)] <;> omega) c1)
  refine aw_iconst (-1) dX9_wrongShelf_11 (by decide) ?_
  exact aw_iret rfl dX9_wrongShelf_12 (by decide) (by decide) ⟨rfl, rfl⟩
set_option maxHeartbeats 4000000 in
theorem X9_wS_f1 {l : Launch} {G : xG} {h : List va_E} {w : Int32} (hw : w.toInt < 0) : CD l G yX9_wrongShelf cX9_wrongShelf 2 (some .int) 1 0 0 [.ref (G.1 + 88), .int w] h (some (.int (-1))) h := by
  refine cm_of rfl (Nat.le_of_ble_eq_true rfl) [(0, .ref (G.1 + 88)), (1, .int w)] rfl ?_
  refine aw_iload_n 1 dX9_wrongShelf_0 rfl rfl ?_
  refine aw_if_le 11 dX9_wrongShelf_1 (by decide) (fun c1 => ?_) (fun c1 => absurd (by simp only [i_le, (show (0 : Int32).toInt = 0 from rfl)] <;> omega) c1)
  refine aw_iconst (-1) dX9_wrongShelf_11 (by decide) ?_
  exact aw_iret rfl dX9_wrongShelf_12 (by decide) (by decide) ⟨rfl, rfl⟩
set_option maxHeartbeats 4000000 in
theorem X9_wS_f2 {l : Launch} {G : xG} {h : List va_E} {w : Int32} (hw : 4096 ≤ w.toInt) : CD l G yX9_wrongShelf cX9_wrongShelf 2 (some .int) 1 0 0 [.ref (G.1 + 88), .int w] h (some (.int (-1))) h := by
  refine cm_of rfl (Nat.le_of_ble_eq_true rfl) [(0, .ref (G.1 + 88)), (1, .int w)] rfl ?_
  refine aw_iload_n 1 dX9_wrongShelf_0 rfl rfl ?_
  refine aw_if_le 11 dX9_wrongShelf_1 (by decide) (fun c1 => absurd c1 (by simp only [i_le, (show (0 : Int32).toInt = 0 from rfl)] <;> omega)) (fun c1 => ?_)
  refine aw_iload_n 1 dX9_wrongShelf_4 rfl rfl ?_
  refine aw_sipush (4096) dX9_wrongShelf_5 (by decide) ?_
  refine aw_icmp_lt 13 dX9_wrongShelf_8 (by decide) (fun c8 => absurd c8 (by simp only [i_lt, (show (4096 : Int32).toInt = 4096 from rfl)] <;> omega)) (fun c8 => ?_)
  refine aw_iconst (-1) dX9_wrongShelf_11 (by decide) ?_
  exact aw_iret rfl dX9_wrongShelf_12 (by decide) (by decide) ⟨rfl, rfl⟩
set_option maxHeartbeats 4000000 in
theorem X9_wS_b {l : Launch} {G : xG} {h : List va_E} {w : Int32} (hw : 0 ≤ w.toInt ∧ w.toInt < 4096) (h0 : w.toInt ≠ 0) (hp : 8 < popN w.toInt.toNat) : CD l G yX9_wrongShelf cX9_wrongShelf 2 (some .int) 1 0 0 [.ref (G.1 + 88), .int w] h (some (.int (-6))) h := by
  refine cm_of rfl (Nat.le_of_ble_eq_true rfl) [(0, .ref (G.1 + 88)), (1, .int w)] rfl ?_
  obtain ⟨w0, bw, ew⟩ := i_nat (N := 4096) hw.1 hw.2
  have tw : w.toInt = (w0 : Int) := i_toNat ew (by omega)
  have w00 : w.toInt.toNat = w0 := by omega
  have hp12 := popN_le w0
  rw [w00] at hp
  refine aw_iload_n 1 dX9_wrongShelf_0 rfl rfl ?_
  refine aw_if_le 11 dX9_wrongShelf_1 (by decide) (fun c1 => absurd c1 (by simp only [i_le, (i_toNat (ew) (by omega)), (show (0 : Int32).toInt = 0 from rfl)] <;> omega)) (fun c1 => ?_)
  refine aw_iload_n 1 dX9_wrongShelf_4 rfl rfl ?_
  refine aw_sipush (4096) dX9_wrongShelf_5 (by decide) ?_
  refine aw_icmp_lt 13 dX9_wrongShelf_8 (by decide) (fun c8 => ?_) (fun c8 => absurd (by simp only [i_lt, (i_toNat (ew) (by omega)), (show (4096 : Int32).toInt = 4096 from rfl)] <;> omega) c8)
  refine aw_iload_n 1 dX9_wrongShelf_13 rfl rfl ?_
  refine aw_dS [.int w] [] lX9_159 sX9_bitsOf mX9_bitsOf dX9_wrongShelf_14 (X9_bitsOf_n (x := w0) ew (by omega)) rfl (Nat.le_of_ble_eq_true rfl) (by decide) (by decide) rfl ?_
  refine aw_bipush (8) dX9_wrongShelf_17 (by decide) ?_
  refine aw_icmp_le 27 dX9_wrongShelf_19 (by decide) (fun c19 => absurd c19 (by simp only [i_le, (nI_toInt (n := popN w0) (by omega)), (show (8 : Int32).toInt = 8 from rfl)] <;> omega)) (fun c19 => ?_)
  refine aw_bipush (-6) dX9_wrongShelf_22 (by decide) ?_
  refine aw_goto 28 dX9_wrongShelf_24 (by decide) ?_
  exact aw_iret rfl dX9_wrongShelf_28 (by decide) (by decide) ⟨rfl, rfl⟩
set_option maxHeartbeats 4000000 in
theorem X9_wS_o {l : Launch} {G : xG} {h : List va_E} {w : Int32} (hw : 0 ≤ w.toInt ∧ w.toInt < 4096) (h0 : w.toInt ≠ 0) (hp : popN w.toInt.toNat ≤ 8) : CD l G yX9_wrongShelf cX9_wrongShelf 2 (some .int) 1 0 0 [.ref (G.1 + 88), .int w] h (some (.int 0)) h := by
  refine cm_of rfl (Nat.le_of_ble_eq_true rfl) [(0, .ref (G.1 + 88)), (1, .int w)] rfl ?_
  obtain ⟨w0, bw, ew⟩ := i_nat (N := 4096) hw.1 hw.2
  have tw : w.toInt = (w0 : Int) := i_toNat ew (by omega)
  have w00 : w.toInt.toNat = w0 := by omega
  have hp12 := popN_le w0
  rw [w00] at hp
  refine aw_iload_n 1 dX9_wrongShelf_0 rfl rfl ?_
  refine aw_if_le 11 dX9_wrongShelf_1 (by decide) (fun c1 => absurd c1 (by simp only [i_le, (i_toNat (ew) (by omega)), (show (0 : Int32).toInt = 0 from rfl)] <;> omega)) (fun c1 => ?_)
  refine aw_iload_n 1 dX9_wrongShelf_4 rfl rfl ?_
  refine aw_sipush (4096) dX9_wrongShelf_5 (by decide) ?_
  refine aw_icmp_lt 13 dX9_wrongShelf_8 (by decide) (fun c8 => ?_) (fun c8 => absurd (by simp only [i_lt, (i_toNat (ew) (by omega)), (show (4096 : Int32).toInt = 4096 from rfl)] <;> omega) c8)
  refine aw_iload_n 1 dX9_wrongShelf_13 rfl rfl ?_
  refine aw_dS [.int w] [] lX9_159 sX9_bitsOf mX9_bitsOf dX9_wrongShelf_14 (X9_bitsOf_n (x := w0) ew (by omega)) rfl (Nat.le_of_ble_eq_true rfl) (by decide) (by decide) rfl ?_
  refine aw_bipush (8) dX9_wrongShelf_17 (by decide) ?_
  refine aw_icmp_le 27 dX9_wrongShelf_19 (by decide) (fun c19 => ?_) (fun c19 => absurd (by simp only [i_le, (nI_toInt (n := popN w0) (by omega)), (show (8 : Int32).toInt = 8 from rfl)] <;> omega) c19)
  refine aw_iconst (0) dX9_wrongShelf_27 (by decide) ?_
  exact aw_iret rfl dX9_wrongShelf_28 (by decide) (by decide) ⟨rfl, rfl⟩
theorem X9_wS_f {l : Launch} {G : xG} {h : List va_E} {w : Int32} (hw : ¬ (0 ≤ w.toInt ∧ w.toInt < 4096)) : CD l G yX9_wrongShelf cX9_wrongShelf 2 (some .int) 1 0 0 [.ref (G.1 + 88), .int w] h (some (.int (-1))) h := by
  by_cases q : w.toInt < 0
  · exact X9_wS_f1 q
  · exact X9_wS_f2 (by omega)
set_option maxHeartbeats 4000000 in
theorem X9_isInN_n {l : Launch} {G : xG} {h : List va_E} {k : Int32} {N : Nat} (hk : k.toInt < 0) : CD l G yX9_isIn cX9_isIn 2 (some .boolean) 0 0 0 [.int k, .int (nI N)] h (some (.int 0)) h := by
  refine cm_of rfl (Nat.le_of_ble_eq_true rfl) [(0, .int k), (1, .int (nI N))] rfl ?_
  refine aw_iload_n 0 dX9_isIn_0 rfl rfl ?_
  refine aw_if_lt 13 dX9_isIn_1 (by decide) (fun c1 => ?_) (fun c1 => absurd (by simp only [i_lt, (show (0 : Int32).toInt = 0 from rfl)] <;> omega) c1)
  refine aw_iconst (0) dX9_isIn_13 (by decide) ?_
  exact aw_zret rfl rfl dX9_isIn_14 (by decide) (by decide) ⟨rfl, rfl⟩
set_option maxHeartbeats 4000000 in
theorem X9_isInN_p {l : Launch} {G : xG} {h : List va_E} {k : Int32} {N : Nat} (hk : (N : Int) ≤ k.toInt) (bN : N < 100) : CD l G yX9_isIn cX9_isIn 2 (some .boolean) 0 0 0 [.int k, .int (nI N)] h (some (.int 0)) h := by
  refine cm_of rfl (Nat.le_of_ble_eq_true rfl) [(0, .int k), (1, .int (nI N))] rfl ?_
  refine aw_iload_n 0 dX9_isIn_0 rfl rfl ?_
  refine aw_if_lt 13 dX9_isIn_1 (by decide) (fun c1 => absurd c1 (by simp only [i_lt, (show (0 : Int32).toInt = 0 from rfl)] <;> omega)) (fun c1 => ?_)
  refine aw_iload_n 0 dX9_isIn_4 rfl rfl ?_
  refine aw_iload_n 1 dX9_isIn_5 rfl rfl ?_
  refine aw_icmp_ge 13 dX9_isIn_6 (by decide) (fun c6 => ?_) (fun c6 => absurd (by simp only [i_le, (nI_toInt (n := N) (by omega))] <;> omega) c6)
  refine aw_iconst (0) dX9_isIn_13 (by decide) ?_
  exact aw_zret rfl rfl dX9_isIn_14 (by decide) (by decide) ⟨rfl, rfl⟩
set_option maxHeartbeats 4000000 in
theorem X9_isInN_o {l : Launch} {G : xG} {h : List va_E} {k : Int32} {N : Nat} (hk : 0 ≤ k.toInt) (hk2 : k.toInt < (N : Int)) (bN : N < 100) : CD l G yX9_isIn cX9_isIn 2 (some .boolean) 0 0 0 [.int k, .int (nI N)] h (some (.int 1)) h := by
  refine cm_of rfl (Nat.le_of_ble_eq_true rfl) [(0, .int k), (1, .int (nI N))] rfl ?_
  refine aw_iload_n 0 dX9_isIn_0 rfl rfl ?_
  refine aw_if_lt 13 dX9_isIn_1 (by decide) (fun c1 => absurd c1 (by simp only [i_lt, (show (0 : Int32).toInt = 0 from rfl)] <;> omega)) (fun c1 => ?_)
  refine aw_iload_n 0 dX9_isIn_4 rfl rfl ?_
  refine aw_iload_n 1 dX9_isIn_5 rfl rfl ?_
  refine aw_icmp_ge 13 dX9_isIn_6 (by decide) (fun c6 => absurd c6 (by simp only [i_le, (nI_toInt (n := N) (by omega))] <;> omega)) (fun c6 => ?_)
  refine aw_iconst (1) dX9_isIn_9 (by decide) ?_
  refine aw_goto 14 dX9_isIn_10 (by decide) ?_
  exact aw_zret rfl rfl dX9_isIn_14 (by decide) (by decide) ⟨rfl, rfl⟩
set_option maxHeartbeats 4000000 in
theorem B21z {l : Launch} {G : xG} {h : List va_E} {w : Int32} (hM : xF9 G h) (hw : w.toInt = 0) : CE l G yX9_shelf cX9_shelf 3 (some .int) 4 0 0 [.ref (G.1 + 88), .int w] h (some (.int (-1))) (fun _ => True) := by
  refine cm_of rfl (Nat.le_of_ble_eq_true rfl) [(0, .ref (G.1 + 88)), (1, .int w)] rfl ?_
  refine aw_aload_n 0 dX9_shelf_0 rfl rfl ?_
  refine aw_iload_n 1 dX9_shelf_1 rfl rfl ?_
  refine aw_dV [.int w] [] lX9_239 vX9_wrongShelf mX9_wrongShelf dX9_shelf_2 (X9_wS_z hw) hM.1 rfl rfl rfl (Nat.le_of_ble_eq_true rfl) (by decide) (by decide) rfl ?_
  refine aw_istore_n [(2, .int (-1)), (0, .ref (G.1 + 88)), (1, .int w)] dX9_shelf_5 rfl (by decide) rfl ?_
  refine aw_iload_n 0 dX9_shelf_6 rfl rfl ?_
  refine aw_if_eq 18 dX9_shelf_7 (by decide) (fun c7 => absurd c7 (by decide)) (fun c7 => ?_)
  refine aw_aload_n 1 dX9_shelf_10 rfl rfl ?_
  refine aw_iload_n 0 dX9_shelf_11 rfl rfl ?_
  refine aw_eV [.int (-1)] [] lX9_130 vX9_refuse mX9_refuse dX9_shelf_12 (X9_refuse1 hM) hM.1 rfl rfl rfl (Nat.le_of_ble_eq_true rfl) (by decide) (by decide) rfl (fun h14 q15 => ?_)
  refine aw_goto 23 dX9_shelf_15 (by decide) ?_
  exact aw_iret rfl dX9_shelf_23 (by decide) (by decide) ⟨rfl, trivial⟩
set_option maxHeartbeats 4000000 in
theorem B21f {l : Launch} {G : xG} {h : List va_E} {w : Int32} (hM : xF9 G h) (hw : ¬ (0 ≤ w.toInt ∧ w.toInt < 4096)) : CE l G yX9_shelf cX9_shelf 3 (some .int) 4 0 0 [.ref (G.1 + 88), .int w] h (some (.int (-1))) (fun _ => True) := by
  refine cm_of rfl (Nat.le_of_ble_eq_true rfl) [(0, .ref (G.1 + 88)), (1, .int w)] rfl ?_
  refine aw_aload_n 0 dX9_shelf_0 rfl rfl ?_
  refine aw_iload_n 1 dX9_shelf_1 rfl rfl ?_
  refine aw_dV [.int w] [] lX9_239 vX9_wrongShelf mX9_wrongShelf dX9_shelf_2 (X9_wS_f hw) hM.1 rfl rfl rfl (Nat.le_of_ble_eq_true rfl) (by decide) (by decide) rfl ?_
  refine aw_istore_n [(2, .int (-1)), (0, .ref (G.1 + 88)), (1, .int w)] dX9_shelf_5 rfl (by decide) rfl ?_
  refine aw_iload_n 0 dX9_shelf_6 rfl rfl ?_
  refine aw_if_eq 18 dX9_shelf_7 (by decide) (fun c7 => absurd c7 (by decide)) (fun c7 => ?_)
  refine aw_aload_n 1 dX9_shelf_10 rfl rfl ?_
  refine aw_iload_n 0 dX9_shelf_11 rfl rfl ?_
  refine aw_eV [.int (-1)] [] lX9_130 vX9_refuse mX9_refuse dX9_shelf_12 (X9_refuse1 hM) hM.1 rfl rfl rfl (Nat.le_of_ble_eq_true rfl) (by decide) (by decide) rfl (fun h16 q17 => ?_)
  refine aw_goto 23 dX9_shelf_15 (by decide) ?_
  exact aw_iret rfl dX9_shelf_23 (by decide) (by decide) ⟨rfl, trivial⟩
set_option maxHeartbeats 4000000 in
theorem B21b {l : Launch} {G : xG} {h : List va_E} {w : Int32} (hM : xF9 G h) (hw : 0 ≤ w.toInt ∧ w.toInt < 4096) (h0 : w.toInt ≠ 0) (hp : 8 < popN w.toInt.toNat) : CE l G yX9_shelf cX9_shelf 3 (some .int) 4 0 0 [.ref (G.1 + 88), .int w] h (some (.int (-6))) (fun _ => True) := by
  refine cm_of rfl (Nat.le_of_ble_eq_true rfl) [(0, .ref (G.1 + 88)), (1, .int w)] rfl ?_
  refine aw_aload_n 0 dX9_shelf_0 rfl rfl ?_
  refine aw_iload_n 1 dX9_shelf_1 rfl rfl ?_
  refine aw_dV [.int w] [] lX9_239 vX9_wrongShelf mX9_wrongShelf dX9_shelf_2 (X9_wS_b hw h0 hp) hM.1 rfl rfl rfl (Nat.le_of_ble_eq_true rfl) (by decide) (by decide) rfl ?_
  refine aw_istore_n [(2, .int (-6)), (0, .ref (G.1 + 88)), (1, .int w)] dX9_shelf_5 rfl (by decide) rfl ?_
  refine aw_iload_n 0 dX9_shelf_6 rfl rfl ?_
  refine aw_if_eq 18 dX9_shelf_7 (by decide) (fun c7 => absurd c7 (by decide)) (fun c7 => ?_)
  refine aw_aload_n 1 dX9_shelf_10 rfl rfl ?_
  refine aw_iload_n 0 dX9_shelf_11 rfl rfl ?_
  refine aw_eV [.int (-6)] [] lX9_130 vX9_refuse mX9_refuse dX9_shelf_12 (X9_refuse6 hM) hM.1 rfl rfl rfl (Nat.le_of_ble_eq_true rfl) (by decide) (by decide) rfl (fun h18 q19 => ?_)
  refine aw_goto 23 dX9_shelf_15 (by decide) ?_
  exact aw_iret rfl dX9_shelf_23 (by decide) (by decide) ⟨rfl, trivial⟩
set_option maxHeartbeats 4000000 in
theorem B21o {l : Launch} {G : xG} {h : List va_E} {w : Int32} (hM : xF9 G h) (hw : 0 ≤ w.toInt ∧ w.toInt < 4096) (h0 : w.toInt ≠ 0) (hp : popN w.toInt.toNat ≤ 8) : CE l G yX9_shelf cX9_shelf 3 (some .int) 4 0 0 [.ref (G.1 + 88), .int w] h (some (.int 0)) (fun _ => True) := by
  refine cm_of rfl (Nat.le_of_ble_eq_true rfl) [(0, .ref (G.1 + 88)), (1, .int w)] rfl ?_
  obtain ⟨w0, bw, ew⟩ := i_nat (N := 4096) hw.1 hw.2
  have tw : w.toInt = (w0 : Int) := i_toNat ew (by omega)
  have w00 : w.toInt.toNat = w0 := by omega
  have hp12 := popN_le w0
  have hp0 : popN w0 ≤ 8 := by rw [← w00]; exact hp
  refine aw_aload_n 0 dX9_shelf_0 rfl rfl ?_
  refine aw_iload_n 1 dX9_shelf_1 rfl rfl ?_
  refine aw_dV [.int w] [] lX9_239 vX9_wrongShelf mX9_wrongShelf dX9_shelf_2 (X9_wS_o hw h0 hp) hM.1 rfl rfl rfl (Nat.le_of_ble_eq_true rfl) (by decide) (by decide) rfl ?_
  refine aw_istore_n [(2, .int 0), (0, .ref (G.1 + 88)), (1, .int w)] dX9_shelf_5 rfl (by decide) rfl ?_
  refine aw_iload_n 0 dX9_shelf_6 rfl rfl ?_
  refine aw_if_eq 18 dX9_shelf_7 (by decide) (fun c7 => ?_) (fun c7 => absurd (by decide) c7)
  refine aw_aload_n 1 dX9_shelf_18 rfl rfl ?_
  refine aw_iload_n 2 dX9_shelf_19 rfl rfl ?_
  refine aw_eV [.int w] [] lX9_242 vX9_shelves mX9_shelves dX9_shelf_20 (X9_shelves_o hM ew bw hp0) hM.1 rfl rfl rfl (Nat.le_of_ble_eq_true rfl) (by decide) (by decide) rfl (fun h7 q7 => ?_)
  exact aw_iret rfl dX9_shelf_23 (by decide) (by decide) ⟨rfl, trivial⟩
set_option maxHeartbeats 4000000 in
theorem B22z {l : Launch} {G : xG} {h : List va_E} {w k : Int32} (hM : xF9 G h) (hw : w.toInt = 0) : CE l G yX9_row cX9_row 5 (some .int) 4 0 0 [.ref (G.1 + 88), .int w, .int k] h (some (.int (-1))) (fun _ => True) := by
  refine cm_of rfl (Nat.le_of_ble_eq_true rfl) [(0, .ref (G.1 + 88)), (1, .int w), (2, .int k)] rfl ?_
  refine aw_aload_n 0 dX9_row_0 rfl rfl ?_
  refine aw_iload_n 1 dX9_row_1 rfl rfl ?_
  refine aw_dV [.int w] [] lX9_239 vX9_wrongShelf mX9_wrongShelf dX9_row_2 (X9_wS_z hw) hM.1 rfl rfl rfl (Nat.le_of_ble_eq_true rfl) (by decide) (by decide) rfl ?_
  refine aw_istore_n [(3, .int (-1)), (0, .ref (G.1 + 88)), (1, .int w), (2, .int k)] dX9_row_5 rfl (by decide) rfl ?_
  refine aw_iload_n 0 dX9_row_6 rfl rfl ?_
  refine aw_if_eq 16 dX9_row_7 (by decide) (fun c7 => absurd c7 (by decide)) (fun c7 => ?_)
  refine aw_aload_n 1 dX9_row_10 rfl rfl ?_
  refine aw_iload_n 0 dX9_row_11 rfl rfl ?_
  refine aw_eV [.int (-1)] [] lX9_130 vX9_refuse mX9_refuse dX9_row_12 (X9_refuse1 hM) hM.1 rfl rfl rfl (Nat.le_of_ble_eq_true rfl) (by decide) (by decide) rfl (fun h20 q21 => ?_)
  exact aw_iret rfl dX9_row_15 (by decide) (by decide) ⟨rfl, trivial⟩
set_option maxHeartbeats 4000000 in
theorem B22f {l : Launch} {G : xG} {h : List va_E} {w k : Int32} (hM : xF9 G h) (hw : ¬ (0 ≤ w.toInt ∧ w.toInt < 4096)) : CE l G yX9_row cX9_row 5 (some .int) 4 0 0 [.ref (G.1 + 88), .int w, .int k] h (some (.int (-1))) (fun _ => True) := by
  refine cm_of rfl (Nat.le_of_ble_eq_true rfl) [(0, .ref (G.1 + 88)), (1, .int w), (2, .int k)] rfl ?_
  refine aw_aload_n 0 dX9_row_0 rfl rfl ?_
  refine aw_iload_n 1 dX9_row_1 rfl rfl ?_
  refine aw_dV [.int w] [] lX9_239 vX9_wrongShelf mX9_wrongShelf dX9_row_2 (X9_wS_f hw) hM.1 rfl rfl rfl (Nat.le_of_ble_eq_true rfl) (by decide) (by decide) rfl ?_
  refine aw_istore_n [(3, .int (-1)), (0, .ref (G.1 + 88)), (1, .int w), (2, .int k)] dX9_row_5 rfl (by decide) rfl ?_
  refine aw_iload_n 0 dX9_row_6 rfl rfl ?_
  refine aw_if_eq 16 dX9_row_7 (by decide) (fun c7 => absurd c7 (by decide)) (fun c7 => ?_)
  refine aw_aload_n 1 dX9_row_10 rfl rfl ?_
  refine aw_iload_n 0 dX9_row_11 rfl rfl ?_
  refine aw_eV [.int (-1)] [] lX9_130 vX9_refuse mX9_refuse dX9_row_12 (X9_refuse1 hM) hM.1 rfl rfl rfl (Nat.le_of_ble_eq_true rfl) (by decide) (by decide) rfl (fun h22 q23 => ?_)
  exact aw_iret rfl dX9_row_15 (by decide) (by decide) ⟨rfl, trivial⟩
set_option maxHeartbeats 4000000 in
theorem B22b {l : Launch} {G : xG} {h : List va_E} {w k : Int32} (hM : xF9 G h) (hw : 0 ≤ w.toInt ∧ w.toInt < 4096) (h0 : w.toInt ≠ 0) (hp : 8 < popN w.toInt.toNat) : CE l G yX9_row cX9_row 5 (some .int) 4 0 0 [.ref (G.1 + 88), .int w, .int k] h (some (.int (-6))) (fun _ => True) := by
  refine cm_of rfl (Nat.le_of_ble_eq_true rfl) [(0, .ref (G.1 + 88)), (1, .int w), (2, .int k)] rfl ?_
  refine aw_aload_n 0 dX9_row_0 rfl rfl ?_
  refine aw_iload_n 1 dX9_row_1 rfl rfl ?_
  refine aw_dV [.int w] [] lX9_239 vX9_wrongShelf mX9_wrongShelf dX9_row_2 (X9_wS_b hw h0 hp) hM.1 rfl rfl rfl (Nat.le_of_ble_eq_true rfl) (by decide) (by decide) rfl ?_
  refine aw_istore_n [(3, .int (-6)), (0, .ref (G.1 + 88)), (1, .int w), (2, .int k)] dX9_row_5 rfl (by decide) rfl ?_
  refine aw_iload_n 0 dX9_row_6 rfl rfl ?_
  refine aw_if_eq 16 dX9_row_7 (by decide) (fun c7 => absurd c7 (by decide)) (fun c7 => ?_)
  refine aw_aload_n 1 dX9_row_10 rfl rfl ?_
  refine aw_iload_n 0 dX9_row_11 rfl rfl ?_
  refine aw_eV [.int (-6)] [] lX9_130 vX9_refuse mX9_refuse dX9_row_12 (X9_refuse6 hM) hM.1 rfl rfl rfl (Nat.le_of_ble_eq_true rfl) (by decide) (by decide) rfl (fun h24 q25 => ?_)
  exact aw_iret rfl dX9_row_15 (by decide) (by decide) ⟨rfl, trivial⟩
set_option maxHeartbeats 4000000 in
theorem B23z {l : Launch} {G : xG} {h : List va_E} {w : Int32} (hM : xF9 G h) (hw : w.toInt = 0) : CE l G yX9_quarrel cX9_quarrel 5 (some .int) 4 0 0 [.ref (G.1 + 88), .int w] h (some (.int (-1))) (fun _ => True) := by
  refine cm_of rfl (Nat.le_of_ble_eq_true rfl) [(0, .ref (G.1 + 88)), (1, .int w)] rfl ?_
  refine aw_aload_n 0 dX9_quarrel_0 rfl rfl ?_
  refine aw_iload_n 1 dX9_quarrel_1 rfl rfl ?_
  refine aw_dV [.int w] [] lX9_239 vX9_wrongShelf mX9_wrongShelf dX9_quarrel_2 (X9_wS_z hw) hM.1 rfl rfl rfl (Nat.le_of_ble_eq_true rfl) (by decide) (by decide) rfl ?_
  refine aw_istore_n [(2, .int (-1)), (0, .ref (G.1 + 88)), (1, .int w)] dX9_quarrel_5 rfl (by decide) rfl ?_
  refine aw_iload_n 0 dX9_quarrel_6 rfl rfl ?_
  refine aw_if_eq 16 dX9_quarrel_7 (by decide) (fun c7 => absurd c7 (by decide)) (fun c7 => ?_)
  refine aw_aload_n 1 dX9_quarrel_10 rfl rfl ?_
  refine aw_iload_n 0 dX9_quarrel_11 rfl rfl ?_
  refine aw_eV [.int (-1)] [] lX9_130 vX9_refuse mX9_refuse dX9_quarrel_12 (X9_refuse1 hM) hM.1 rfl rfl rfl (Nat.le_of_ble_eq_true rfl) (by decide) (by decide) rfl (fun h26 q27 => ?_)
  exact aw_iret rfl dX9_quarrel_15 (by decide) (by decide) ⟨rfl, trivial⟩
set_option maxHeartbeats 4000000 in
theorem B23f {l : Launch} {G : xG} {h : List va_E} {w : Int32} (hM : xF9 G h) (hw : ¬ (0 ≤ w.toInt ∧ w.toInt < 4096)) : CE l G yX9_quarrel cX9_quarrel 5 (some .int) 4 0 0 [.ref (G.1 + 88), .int w] h (some (.int (-1))) (fun _ => True) := by
  refine cm_of rfl (Nat.le_of_ble_eq_true rfl) [(0, .ref (G.1 + 88)), (1, .int w)] rfl ?_
  refine aw_aload_n 0 dX9_quarrel_0 rfl rfl ?_
  refine aw_iload_n 1 dX9_quarrel_1 rfl rfl ?_
  refine aw_dV [.int w] [] lX9_239 vX9_wrongShelf mX9_wrongShelf dX9_quarrel_2 (X9_wS_f hw) hM.1 rfl rfl rfl (Nat.le_of_ble_eq_true rfl) (by decide) (by decide) rfl ?_
  refine aw_istore_n [(2, .int (-1)), (0, .ref (G.1 + 88)), (1, .int w)] dX9_quarrel_5 rfl (by decide) rfl ?_
  refine aw_iload_n 0 dX9_quarrel_6 rfl rfl ?_
  refine aw_if_eq 16 dX9_quarrel_7 (by decide) (fun c7 => absurd c7 (by decide)) (fun c7 => ?_)
  refine aw_aload_n 1 dX9_quarrel_10 rfl rfl ?_
  refine aw_iload_n 0 dX9_quarrel_11 rfl rfl ?_
  refine aw_eV [.int (-1)] [] lX9_130 vX9_refuse mX9_refuse dX9_quarrel_12 (X9_refuse1 hM) hM.1 rfl rfl rfl (Nat.le_of_ble_eq_true rfl) (by decide) (by decide) rfl (fun h28 q29 => ?_)
  exact aw_iret rfl dX9_quarrel_15 (by decide) (by decide) ⟨rfl, trivial⟩
set_option maxHeartbeats 4000000 in
theorem B23b {l : Launch} {G : xG} {h : List va_E} {w : Int32} (hM : xF9 G h) (hw : 0 ≤ w.toInt ∧ w.toInt < 4096) (h0 : w.toInt ≠ 0) (hp : 8 < popN w.toInt.toNat) : CE l G yX9_quarrel cX9_quarrel 5 (some .int) 4 0 0 [.ref (G.1 + 88), .int w] h (some (.int (-6))) (fun _ => True) := by
  refine cm_of rfl (Nat.le_of_ble_eq_true rfl) [(0, .ref (G.1 + 88)), (1, .int w)] rfl ?_
  refine aw_aload_n 0 dX9_quarrel_0 rfl rfl ?_
  refine aw_iload_n 1 dX9_quarrel_1 rfl rfl ?_
  refine aw_dV [.int w] [] lX9_239 vX9_wrongShelf mX9_wrongShelf dX9_quarrel_2 (X9_wS_b hw h0 hp) hM.1 rfl rfl rfl (Nat.le_of_ble_eq_true rfl) (by decide) (by decide) rfl ?_
  refine aw_istore_n [(2, .int (-6)), (0, .ref (G.1 + 88)), (1, .int w)] dX9_quarrel_5 rfl (by decide) rfl ?_
  refine aw_iload_n 0 dX9_quarrel_6 rfl rfl ?_
  refine aw_if_eq 16 dX9_quarrel_7 (by decide) (fun c7 => absurd c7 (by decide)) (fun c7 => ?_)
  refine aw_aload_n 1 dX9_quarrel_10 rfl rfl ?_
  refine aw_iload_n 0 dX9_quarrel_11 rfl rfl ?_
  refine aw_eV [.int (-6)] [] lX9_130 vX9_refuse mX9_refuse dX9_quarrel_12 (X9_refuse6 hM) hM.1 rfl rfl rfl (Nat.le_of_ble_eq_true rfl) (by decide) (by decide) rfl (fun h30 q31 => ?_)
  exact aw_iret rfl dX9_quarrel_15 (by decide) (by decide) ⟨rfl, trivial⟩
set_option maxHeartbeats 4000000 in
theorem B23o {l : Launch} {G : xG} {h : List va_E} {w : Int32} (hM : xF9 G h) (hw : 0 ≤ w.toInt ∧ w.toInt < 4096) (h0 : w.toInt ≠ 0) (hp : popN w.toInt.toNat ≤ 8) : CE l G yX9_quarrel cX9_quarrel 5 (some .int) 4 0 0 [.ref (G.1 + 88), .int w] h (some (.int 0)) (fun _ => True) := by
  refine cm_of rfl (Nat.le_of_ble_eq_true rfl) [(0, .ref (G.1 + 88)), (1, .int w)] rfl ?_
  obtain ⟨w0, bw, ew⟩ := i_nat (N := 4096) hw.1 hw.2
  have tw : w.toInt = (w0 : Int) := i_toNat ew (by omega)
  have w00 : w.toInt.toNat = w0 := by omega
  have hp12 := popN_le w0
  have hp0 : popN w0 ≤ 8 := by rw [← w00]; exact hp
  refine aw_aload_n 0 dX9_quarrel_0 rfl rfl ?_
  refine aw_iload_n 1 dX9_quarrel_1 rfl rfl ?_
  refine aw_dV [.int w] [] lX9_239 vX9_wrongShelf mX9_wrongShelf dX9_quarrel_2 (X9_wS_o hw h0 hp) hM.1 rfl rfl rfl (Nat.le_of_ble_eq_true rfl) (by decide) (by decide) rfl ?_
  refine aw_istore_n [(2, .int 0), (0, .ref (G.1 + 88)), (1, .int w)] dX9_quarrel_5 rfl (by decide) rfl ?_
  refine aw_iload_n 0 dX9_quarrel_6 rfl rfl ?_
  refine aw_if_eq 16 dX9_quarrel_7 (by decide) (fun c7 => ?_) (fun c7 => absurd (by decide) c7)
  refine aw_iconst (0) dX9_quarrel_16 (by decide) ?_
  refine aw_istore_n [(3, .int 0), (2, .int 0), (0, .ref (G.1 + 88)), (1, .int w)] dX9_quarrel_17 rfl (by decide) rfl ?_
  refine aw_iconst (0) dX9_quarrel_18 (by decide) ?_
  refine aw_istore [(4, .int 0), (3, .int 0), (2, .int 0), (0, .ref (G.1 + 88)), (1, .int w)] dX9_quarrel_19 (by decide) rfl ?_
  refine aw_iload 0 dX9_quarrel_21 rfl ?_
  refine aw_aload_n 3 dX9_quarrel_23 rfl rfl ?_
  refine aw_get fX9_227 dX9_quarrel_24 hM.1 rfl ?_
  refine aw_icmp_ge 87 dX9_quarrel_27 (by decide) (fun c27 => ?_) (fun c27 => absurd (by decide) c27)
  refine aw_iload_n 1 dX9_quarrel_87 rfl rfl ?_
  refine aw_aload_n 3 dX9_quarrel_88 rfl rfl ?_
  refine aw_iload_n 4 dX9_quarrel_89 rfl rfl ?_
  refine aw_eV [.int w] [.int 0] lX9_242 vX9_shelves mX9_shelves dX9_quarrel_90 (X9_shelves_o hM ew bw hp0) hM.1 rfl rfl rfl (Nat.le_of_ble_eq_true rfl) (by decide) (by decide) rfl (fun h7 q7 => ?_)
  refine aw_isub dX9_quarrel_93 ?_
  refine aw_toe 0 (by decide) ?_
  exact aw_iret rfl dX9_quarrel_94 (by decide) (by decide) ⟨rfl, trivial⟩
set_option maxHeartbeats 4000000 in
theorem B22on {l : Launch} {G : xG} {h : List va_E} {w k : Int32} (hM : xF9 G h) (hw : 0 ≤ w.toInt ∧ w.toInt < 4096) (h0 : w.toInt ≠ 0) (hp : popN w.toInt.toNat ≤ 8)(hk : k.toInt < 0) : CE l G yX9_row cX9_row 5 (some .int) 4 0 0 [.ref (G.1 + 88), .int w, .int k] h (some (.int (-9))) (fun _ => True) := by
  refine cm_of rfl (Nat.le_of_ble_eq_true rfl) [(0, .ref (G.1 + 88)), (1, .int w), (2, .int k)] rfl ?_
  obtain ⟨w0, bw, ew⟩ := i_nat (N := 4096) hw.1 hw.2
  have tw : w.toInt = (w0 : Int) := i_toNat ew (by omega)
  have w00 : w.toInt.toNat = w0 := by omega
  have hp12 := popN_le w0
  have hp0 : popN w0 ≤ 8 := by rw [← w00]; exact hp
  refine aw_aload_n 0 dX9_row_0 rfl rfl ?_
  refine aw_iload_n 1 dX9_row_1 rfl rfl ?_
  refine aw_dV [.int w] [] lX9_239 vX9_wrongShelf mX9_wrongShelf dX9_row_2 (X9_wS_o hw h0 hp) hM.1 rfl rfl rfl (Nat.le_of_ble_eq_true rfl) (by decide) (by decide) rfl ?_
  refine aw_istore_n [(3, .int 0), (0, .ref (G.1 + 88)), (1, .int w), (2, .int k)] dX9_row_5 rfl (by decide) rfl ?_
  refine aw_iload_n 0 dX9_row_6 rfl rfl ?_
  refine aw_if_eq 16 dX9_row_7 (by decide) (fun c7 => ?_) (fun c7 => absurd (by decide) c7)
  refine aw_aload_n 1 dX9_row_16 rfl rfl ?_
  refine aw_iload_n 2 dX9_row_17 rfl rfl ?_
  refine aw_eV [.int w] [] lX9_242 vX9_shelves mX9_shelves dX9_row_18 (X9_shelves_o hM ew bw hp0) hM.1 rfl rfl rfl (Nat.le_of_ble_eq_true rfl) (by decide) (by decide) rfl (fun h7 q7 => ?_)
  refine aw_istore [(4, .int 0), (3, .int 0), (0, .ref (G.1 + 88)), (1, .int w), (2, .int k)] dX9_row_21 (by decide) rfl ?_
  refine aw_iload_n 4 dX9_row_23 rfl rfl ?_
  refine aw_aload_n 2 dX9_row_24 rfl rfl ?_
  refine aw_get fX9_233 dX9_row_25 q7.1 rfl ?_
  refine aw_dS [.int k, .int (nI (popN w0))] [] lX9_126 sX9_isIn mX9_isIn dX9_row_28 (X9_isInN_n hk) rfl (Nat.le_of_ble_eq_true rfl) (by decide) (by decide) rfl ?_
  refine aw_if_eq 43 dX9_row_31 (by decide) (fun c31 => ?_) (fun c31 => absurd (by decide) c31)
  refine aw_bipush (-9) dX9_row_43 (by decide) ?_
  exact aw_iret rfl dX9_row_45 (by decide) (by decide) ⟨rfl, trivial⟩
set_option maxHeartbeats 4000000 in
theorem B22op {l : Launch} {G : xG} {h : List va_E} {w k : Int32} (hM : xF9 G h) (hw : 0 ≤ w.toInt ∧ w.toInt < 4096) (h0 : w.toInt ≠ 0) (hp : popN w.toInt.toNat ≤ 8)(hk : (popN w.toInt.toNat : Int) ≤ k.toInt) : CE l G yX9_row cX9_row 5 (some .int) 4 0 0 [.ref (G.1 + 88), .int w, .int k] h (some (.int (-9))) (fun _ => True) := by
  refine cm_of rfl (Nat.le_of_ble_eq_true rfl) [(0, .ref (G.1 + 88)), (1, .int w), (2, .int k)] rfl ?_
  obtain ⟨w0, bw, ew⟩ := i_nat (N := 4096) hw.1 hw.2
  have tw : w.toInt = (w0 : Int) := i_toNat ew (by omega)
  have w00 : w.toInt.toNat = w0 := by omega
  have hp12 := popN_le w0
  have hp0 : popN w0 ≤ 8 := by rw [← w00]; exact hp
  rw [w00] at hk
  refine aw_aload_n 0 dX9_row_0 rfl rfl ?_
  refine aw_iload_n 1 dX9_row_1 rfl rfl ?_
  refine aw_dV [.int w] [] lX9_239 vX9_wrongShelf mX9_wrongShelf dX9_row_2 (X9_wS_o hw h0 hp) hM.1 rfl rfl rfl (Nat.le_of_ble_eq_true rfl) (by decide) (by decide) rfl ?_
  refine aw_istore_n [(3, .int 0), (0, .ref (G.1 + 88)), (1, .int w), (2, .int k)] dX9_row_5 rfl (by decide) rfl ?_
  refine aw_iload_n 0 dX9_row_6 rfl rfl ?_
  refine aw_if_eq 16 dX9_row_7 (by decide) (fun c7 => ?_) (fun c7 => absurd (by decide) c7)
  refine aw_aload_n 1 dX9_row_16 rfl rfl ?_
  refine aw_iload_n 2 dX9_row_17 rfl rfl ?_
  refine aw_eV [.int w] [] lX9_242 vX9_shelves mX9_shelves dX9_row_18 (X9_shelves_o hM ew bw hp0) hM.1 rfl rfl rfl (Nat.le_of_ble_eq_true rfl) (by decide) (by decide) rfl (fun h7 q7 => ?_)
  refine aw_istore [(4, .int 0), (3, .int 0), (0, .ref (G.1 + 88)), (1, .int w), (2, .int k)] dX9_row_21 (by decide) rfl ?_
  refine aw_iload_n 4 dX9_row_23 rfl rfl ?_
  refine aw_aload_n 2 dX9_row_24 rfl rfl ?_
  refine aw_get fX9_233 dX9_row_25 q7.1 rfl ?_
  refine aw_dS [.int k, .int (nI (popN w0))] [] lX9_126 sX9_isIn mX9_isIn dX9_row_28 (X9_isInN_p hk (by omega)) rfl (Nat.le_of_ble_eq_true rfl) (by decide) (by decide) rfl ?_
  refine aw_if_eq 43 dX9_row_31 (by decide) (fun c31 => ?_) (fun c31 => absurd (by decide) c31)
  refine aw_bipush (-9) dX9_row_43 (by decide) ?_
  exact aw_iret rfl dX9_row_45 (by decide) (by decide) ⟨rfl, trivial⟩
set_option maxHeartbeats 4000000 in
theorem B22oo {l : Launch} {G : xG} {h : List va_E} {w k : Int32} (hM : xF9 G h) (hw : 0 ≤ w.toInt ∧ w.toInt < 4096) (h0 : w.toInt ≠ 0) (hp : popN w.toInt.toNat ≤ 8)(hk : 0 ≤ k.toInt) (hk2 : k.toInt < (popN w.toInt.toNat : Int)) : CE l G yX9_row cX9_row 5 (some .int) 4 0 0 [.ref (G.1 + 88), .int w, .int k] h (some (.int (thF w.toInt.toNat 12 k.toInt.toNat))) (fun _ => True) := by
  refine cm_of rfl (Nat.le_of_ble_eq_true rfl) [(0, .ref (G.1 + 88)), (1, .int w), (2, .int k)] rfl ?_
  obtain ⟨w0, bw, ew⟩ := i_nat (N := 4096) hw.1 hw.2
  have tw : w.toInt = (w0 : Int) := i_toNat ew (by omega)
  have w00 : w.toInt.toNat = w0 := by omega
  have hp12 := popN_le w0
  have hp0 : popN w0 ≤ 8 := by rw [← w00]; exact hp
  rw [w00] at hk2
  obtain ⟨k0, bk, ek⟩ := i_nat (x := k) (N := 8) hk (by omega)
  have tk : k.toInt = (k0 : Int) := i_toNat ek (by omega)
  have k00 : k.toInt.toNat = k0 := by omega
  refine aw_aload_n 0 dX9_row_0 rfl rfl ?_
  refine aw_iload_n 1 dX9_row_1 rfl rfl ?_
  refine aw_dV [.int w] [] lX9_239 vX9_wrongShelf mX9_wrongShelf dX9_row_2 (X9_wS_o hw h0 hp) hM.1 rfl rfl rfl (Nat.le_of_ble_eq_true rfl) (by decide) (by decide) rfl ?_
  refine aw_istore_n [(3, .int 0), (0, .ref (G.1 + 88)), (1, .int w), (2, .int k)] dX9_row_5 rfl (by decide) rfl ?_
  refine aw_iload_n 0 dX9_row_6 rfl rfl ?_
  refine aw_if_eq 16 dX9_row_7 (by decide) (fun c7 => ?_) (fun c7 => absurd (by decide) c7)
  refine aw_aload_n 1 dX9_row_16 rfl rfl ?_
  refine aw_iload_n 2 dX9_row_17 rfl rfl ?_
  refine aw_eV [.int w] [] lX9_242 vX9_shelves mX9_shelves dX9_row_18 (X9_shelves_o hM ew bw hp0) hM.1 rfl rfl rfl (Nat.le_of_ble_eq_true rfl) (by decide) (by decide) rfl (fun h7 q7 => ?_)
  refine aw_istore [(4, .int 0), (3, .int 0), (0, .ref (G.1 + 88)), (1, .int w), (2, .int k)] dX9_row_21 (by decide) rfl ?_
  refine aw_iload_n 4 dX9_row_23 rfl rfl ?_
  refine aw_aload_n 2 dX9_row_24 rfl rfl ?_
  refine aw_get fX9_233 dX9_row_25 q7.1 rfl ?_
  refine aw_dS [.int k, .int (nI (popN w0))] [] lX9_126 sX9_isIn mX9_isIn dX9_row_28 (X9_isInN_o hk hk2 (by omega)) rfl (Nat.le_of_ble_eq_true rfl) (by decide) (by decide) rfl ?_
  refine aw_if_eq 43 dX9_row_31 (by decide) (fun c31 => absurd c31 (by decide)) (fun c31 => ?_)
  refine aw_aload_n 2 dX9_row_34 rfl rfl ?_
  refine aw_get fX9_116 dX9_row_35 q7.1 rfl ?_
  refine aw_iload_n 4 dX9_row_38 rfl rfl ?_
  refine aw_iald k0 (ek) (by omega) (by decide) dX9_row_39 q7.2.2.2 ?_
  refine aw_toe (thF w0 12 k0) (by simp [tkF, show k0 < popN w0 by omega]) ?_
  refine aw_goto 45 dX9_row_40 (by decide) ?_
  exact aw_iret rfl dX9_row_45 (by decide) (by decide) ⟨by rw [w00, k00], trivial⟩
