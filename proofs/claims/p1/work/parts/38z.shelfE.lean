set_option maxHeartbeats 4000000 in
theorem A21z {l : Launch} {G : xG} {h : List va_E} {w : Int32} (hF : xF8 G h) (hl : h.length = 125) (hw : w.toInt = 0) : CE l G yX8_shelf cX8_shelf 3 (some .int) 6 10 2242 [.ref (G.1 + 0), .int w] h (some (.int (-1))) (kp h) := by
  refine cm_of rfl (Nat.le_of_ble_eq_true rfl) [(0, .ref (G.1 + 0)), (1, .int w)] rfl ?_
  refine aw_iload_n 1 dX8_shelf_0 rfl rfl ?_
  refine aw_dS [.int w] [] lX8_208 sX8_shelfRefusal mX8_shelfRefusal dX8_shelf_1 (X8_sR_z hw) rfl (Nat.le_of_ble_eq_true rfl) (by decide) (by decide) rfl ?_
  refine aw_istore_n [(2, .int (-1)), (0, .ref (G.1 + 0)), (1, .int w)] dX8_shelf_4 rfl (by decide) rfl ?_
  refine aw_iload_n 0 dX8_shelf_5 rfl rfl ?_
  refine aw_if_eq 15 dX8_shelf_6 (by decide) (fun c6 => absurd c6 (by decide)) (fun c6 => ?_)
  refine aw_aload_n 1 dX8_shelf_9 rfl rfl ?_
  refine aw_iload_n 0 dX8_shelf_10 rfl rfl ?_
  refine aw_eV [.int (-1)] [] lX8_70 vX8_refuse mX8_refuse dX8_shelf_11 (X8_refuse1 hF) hF.1 rfl rfl rfl (Nat.le_of_ble_eq_true rfl) (by decide) (by decide) rfl (fun h29 q30 => ?_)
  exact aw_iret rfl dX8_shelf_14 (by decide) (by decide) ⟨rfl, (kp_tr (kp_rf h) q30)⟩
set_option maxHeartbeats 4000000 in
theorem A21f {l : Launch} {G : xG} {h : List va_E} {w : Int32} (hF : xF8 G h) (hl : h.length = 125) (hw : ¬ (0 ≤ w.toInt ∧ w.toInt < 4096)) : CE l G yX8_shelf cX8_shelf 3 (some .int) 6 10 2242 [.ref (G.1 + 0), .int w] h (some (.int (-1))) (kp h) := by
  refine cm_of rfl (Nat.le_of_ble_eq_true rfl) [(0, .ref (G.1 + 0)), (1, .int w)] rfl ?_
  refine aw_iload_n 1 dX8_shelf_0 rfl rfl ?_
  refine aw_dS [.int w] [] lX8_208 sX8_shelfRefusal mX8_shelfRefusal dX8_shelf_1 (X8_sR_f hw) rfl (Nat.le_of_ble_eq_true rfl) (by decide) (by decide) rfl ?_
  refine aw_istore_n [(2, .int (-1)), (0, .ref (G.1 + 0)), (1, .int w)] dX8_shelf_4 rfl (by decide) rfl ?_
  refine aw_iload_n 0 dX8_shelf_5 rfl rfl ?_
  refine aw_if_eq 15 dX8_shelf_6 (by decide) (fun c6 => absurd c6 (by decide)) (fun c6 => ?_)
  refine aw_aload_n 1 dX8_shelf_9 rfl rfl ?_
  refine aw_iload_n 0 dX8_shelf_10 rfl rfl ?_
  refine aw_eV [.int (-1)] [] lX8_70 vX8_refuse mX8_refuse dX8_shelf_11 (X8_refuse1 hF) hF.1 rfl rfl rfl (Nat.le_of_ble_eq_true rfl) (by decide) (by decide) rfl (fun h31 q32 => ?_)
  exact aw_iret rfl dX8_shelf_14 (by decide) (by decide) ⟨rfl, (kp_tr (kp_rf h) q32)⟩
set_option maxHeartbeats 4000000 in
theorem A21b {l : Launch} {G : xG} {h : List va_E} {w : Int32} (hF : xF8 G h) (hl : h.length = 125) (hw : 0 ≤ w.toInt ∧ w.toInt < 4096) (h0 : w.toInt ≠ 0) (hp : 8 < popN w.toInt.toNat) : CE l G yX8_shelf cX8_shelf 3 (some .int) 6 10 2242 [.ref (G.1 + 0), .int w] h (some (.int (-6))) (kp h) := by
  refine cm_of rfl (Nat.le_of_ble_eq_true rfl) [(0, .ref (G.1 + 0)), (1, .int w)] rfl ?_
  refine aw_iload_n 1 dX8_shelf_0 rfl rfl ?_
  refine aw_dS [.int w] [] lX8_208 sX8_shelfRefusal mX8_shelfRefusal dX8_shelf_1 (X8_sR_b hw h0 hp) rfl (Nat.le_of_ble_eq_true rfl) (by decide) (by decide) rfl ?_
  refine aw_istore_n [(2, .int (-6)), (0, .ref (G.1 + 0)), (1, .int w)] dX8_shelf_4 rfl (by decide) rfl ?_
  refine aw_iload_n 0 dX8_shelf_5 rfl rfl ?_
  refine aw_if_eq 15 dX8_shelf_6 (by decide) (fun c6 => absurd c6 (by decide)) (fun c6 => ?_)
  refine aw_aload_n 1 dX8_shelf_9 rfl rfl ?_
  refine aw_iload_n 0 dX8_shelf_10 rfl rfl ?_
  refine aw_eV [.int (-6)] [] lX8_70 vX8_refuse mX8_refuse dX8_shelf_11 (X8_refuse6 hF) hF.1 rfl rfl rfl (Nat.le_of_ble_eq_true rfl) (by decide) (by decide) rfl (fun h33 q34 => ?_)
  exact aw_iret rfl dX8_shelf_14 (by decide) (by decide) ⟨rfl, (kp_tr (kp_rf h) q34)⟩
set_option maxHeartbeats 4000000 in
theorem A21o {l : Launch} {G : xG} {h : List va_E} {w : Int32} (hF : xF8 G h) (hl : h.length = 125) (hw : 0 ≤ w.toInt ∧ w.toInt < 4096) (h0 : w.toInt ≠ 0) (hp : popN w.toInt.toNat ≤ 8) : CE l G yX8_shelf cX8_shelf 3 (some .int) 6 10 2242 [.ref (G.1 + 0), .int w] h (some (.int 0)) (kp h) := by
  refine cm_of rfl (Nat.le_of_ble_eq_true rfl) [(0, .ref (G.1 + 0)), (1, .int w)] rfl ?_
  obtain ⟨w0, bw, ew⟩ := i_nat (N := 4096) hw.1 hw.2
  have tw : w.toInt = (w0 : Int) := i_toNat ew (by omega)
  have w00 : w.toInt.toNat = w0 := by omega
  have hp12 := popN_le w0
  have hp0 : popN w0 ≤ 8 := by rw [← w00]; exact hp
  refine aw_iload_n 1 dX8_shelf_0 rfl rfl ?_
  refine aw_dS [.int w] [] lX8_208 sX8_shelfRefusal mX8_shelfRefusal dX8_shelf_1 (X8_sR_o hw h0 hp) rfl (Nat.le_of_ble_eq_true rfl) (by decide) (by decide) rfl ?_
  refine aw_istore_n [(2, .int 0), (0, .ref (G.1 + 0)), (1, .int w)] dX8_shelf_4 rfl (by decide) rfl ?_
  refine aw_iload_n 0 dX8_shelf_5 rfl rfl ?_
  refine aw_if_eq 15 dX8_shelf_6 (by decide) (fun c6 => ?_) (fun c6 => absurd (by decide) c6)
  refine aw_aload_n 1 dX8_shelf_15 rfl rfl ?_
  refine aw_iload_n 2 dX8_shelf_16 rfl rfl ?_
  refine aw_eV [.int w] [] lX8_211 vX8_bestRow mX8_bestRow dX8_shelf_17 (X8_bestRow_o hF hl ew bw hp0 (by omega)) hF.1 rfl rfl rfl (Nat.le_of_ble_eq_true rfl) (by decide) (by decide) rfl (fun h6 q6 => ?_)
  obtain ⟨hk6, pF, hQ⟩ := q6
  refine aw_get fX8_215 dX8_shelf_20 hQ.1 rfl ?_
  exact aw_iret rfl dX8_shelf_23 (by decide) (by decide) ⟨rfl, (kp_tr (kp_rf h) hk6)⟩
set_option maxHeartbeats 4000000 in
theorem A22z {l : Launch} {G : xG} {h : List va_E} {w k : Int32} (hF : xF8 G h) (hl : h.length = 125) (hw : w.toInt = 0) : CE l G yX8_row cX8_row 5 (some .int) 6 10 2242 [.ref (G.1 + 0), .int w, .int k] h (some (.int (-1))) (kp h) := by
  refine cm_of rfl (Nat.le_of_ble_eq_true rfl) [(0, .ref (G.1 + 0)), (1, .int w), (2, .int k)] rfl ?_
  refine aw_iload_n 1 dX8_row_0 rfl rfl ?_
  refine aw_dS [.int w] [] lX8_208 sX8_shelfRefusal mX8_shelfRefusal dX8_row_1 (X8_sR_z hw) rfl (Nat.le_of_ble_eq_true rfl) (by decide) (by decide) rfl ?_
  refine aw_istore_n [(3, .int (-1)), (0, .ref (G.1 + 0)), (1, .int w), (2, .int k)] dX8_row_4 rfl (by decide) rfl ?_
  refine aw_iload_n 0 dX8_row_5 rfl rfl ?_
  refine aw_if_eq 15 dX8_row_6 (by decide) (fun c6 => absurd c6 (by decide)) (fun c6 => ?_)
  refine aw_aload_n 1 dX8_row_9 rfl rfl ?_
  refine aw_iload_n 0 dX8_row_10 rfl rfl ?_
  refine aw_eV [.int (-1)] [] lX8_70 vX8_refuse mX8_refuse dX8_row_11 (X8_refuse1 hF) hF.1 rfl rfl rfl (Nat.le_of_ble_eq_true rfl) (by decide) (by decide) rfl (fun h35 q36 => ?_)
  exact aw_iret rfl dX8_row_14 (by decide) (by decide) ⟨rfl, (kp_tr (kp_rf h) q36)⟩
set_option maxHeartbeats 4000000 in
theorem A22f {l : Launch} {G : xG} {h : List va_E} {w k : Int32} (hF : xF8 G h) (hl : h.length = 125) (hw : ¬ (0 ≤ w.toInt ∧ w.toInt < 4096)) : CE l G yX8_row cX8_row 5 (some .int) 6 10 2242 [.ref (G.1 + 0), .int w, .int k] h (some (.int (-1))) (kp h) := by
  refine cm_of rfl (Nat.le_of_ble_eq_true rfl) [(0, .ref (G.1 + 0)), (1, .int w), (2, .int k)] rfl ?_
  refine aw_iload_n 1 dX8_row_0 rfl rfl ?_
  refine aw_dS [.int w] [] lX8_208 sX8_shelfRefusal mX8_shelfRefusal dX8_row_1 (X8_sR_f hw) rfl (Nat.le_of_ble_eq_true rfl) (by decide) (by decide) rfl ?_
  refine aw_istore_n [(3, .int (-1)), (0, .ref (G.1 + 0)), (1, .int w), (2, .int k)] dX8_row_4 rfl (by decide) rfl ?_
  refine aw_iload_n 0 dX8_row_5 rfl rfl ?_
  refine aw_if_eq 15 dX8_row_6 (by decide) (fun c6 => absurd c6 (by decide)) (fun c6 => ?_)
  refine aw_aload_n 1 dX8_row_9 rfl rfl ?_
  refine aw_iload_n 0 dX8_row_10 rfl rfl ?_
  refine aw_eV [.int (-1)] [] lX8_70 vX8_refuse mX8_refuse dX8_row_11 (X8_refuse1 hF) hF.1 rfl rfl rfl (Nat.le_of_ble_eq_true rfl) (by decide) (by decide) rfl (fun h37 q38 => ?_)
  exact aw_iret rfl dX8_row_14 (by decide) (by decide) ⟨rfl, (kp_tr (kp_rf h) q38)⟩
set_option maxHeartbeats 4000000 in
theorem A22b {l : Launch} {G : xG} {h : List va_E} {w k : Int32} (hF : xF8 G h) (hl : h.length = 125) (hw : 0 ≤ w.toInt ∧ w.toInt < 4096) (h0 : w.toInt ≠ 0) (hp : 8 < popN w.toInt.toNat) : CE l G yX8_row cX8_row 5 (some .int) 6 10 2242 [.ref (G.1 + 0), .int w, .int k] h (some (.int (-6))) (kp h) := by
  refine cm_of rfl (Nat.le_of_ble_eq_true rfl) [(0, .ref (G.1 + 0)), (1, .int w), (2, .int k)] rfl ?_
  refine aw_iload_n 1 dX8_row_0 rfl rfl ?_
  refine aw_dS [.int w] [] lX8_208 sX8_shelfRefusal mX8_shelfRefusal dX8_row_1 (X8_sR_b hw h0 hp) rfl (Nat.le_of_ble_eq_true rfl) (by decide) (by decide) rfl ?_
  refine aw_istore_n [(3, .int (-6)), (0, .ref (G.1 + 0)), (1, .int w), (2, .int k)] dX8_row_4 rfl (by decide) rfl ?_
  refine aw_iload_n 0 dX8_row_5 rfl rfl ?_
  refine aw_if_eq 15 dX8_row_6 (by decide) (fun c6 => absurd c6 (by decide)) (fun c6 => ?_)
  refine aw_aload_n 1 dX8_row_9 rfl rfl ?_
  refine aw_iload_n 0 dX8_row_10 rfl rfl ?_
  refine aw_eV [.int (-6)] [] lX8_70 vX8_refuse mX8_refuse dX8_row_11 (X8_refuse6 hF) hF.1 rfl rfl rfl (Nat.le_of_ble_eq_true rfl) (by decide) (by decide) rfl (fun h39 q40 => ?_)
  exact aw_iret rfl dX8_row_14 (by decide) (by decide) ⟨rfl, (kp_tr (kp_rf h) q40)⟩
set_option maxHeartbeats 4000000 in
theorem A23z {l : Launch} {G : xG} {h : List va_E} {w : Int32} (hF : xF8 G h) (hl : h.length = 125) (hw : w.toInt = 0) : CE l G yX8_quarrel cX8_quarrel 4 (some .int) 6 10 2242 [.ref (G.1 + 0), .int w] h (some (.int (-1))) (kp h) := by
  refine cm_of rfl (Nat.le_of_ble_eq_true rfl) [(0, .ref (G.1 + 0)), (1, .int w)] rfl ?_
  refine aw_iload_n 1 dX8_quarrel_0 rfl rfl ?_
  refine aw_dS [.int w] [] lX8_208 sX8_shelfRefusal mX8_shelfRefusal dX8_quarrel_1 (X8_sR_z hw) rfl (Nat.le_of_ble_eq_true rfl) (by decide) (by decide) rfl ?_
  refine aw_istore_n [(2, .int (-1)), (0, .ref (G.1 + 0)), (1, .int w)] dX8_quarrel_4 rfl (by decide) rfl ?_
  refine aw_iload_n 0 dX8_quarrel_5 rfl rfl ?_
  refine aw_if_eq 15 dX8_quarrel_6 (by decide) (fun c6 => absurd c6 (by decide)) (fun c6 => ?_)
  refine aw_aload_n 1 dX8_quarrel_9 rfl rfl ?_
  refine aw_iload_n 0 dX8_quarrel_10 rfl rfl ?_
  refine aw_eV [.int (-1)] [] lX8_70 vX8_refuse mX8_refuse dX8_quarrel_11 (X8_refuse1 hF) hF.1 rfl rfl rfl (Nat.le_of_ble_eq_true rfl) (by decide) (by decide) rfl (fun h41 q42 => ?_)
  exact aw_iret rfl dX8_quarrel_14 (by decide) (by decide) ⟨rfl, (kp_tr (kp_rf h) q42)⟩
set_option maxHeartbeats 4000000 in
theorem A23f {l : Launch} {G : xG} {h : List va_E} {w : Int32} (hF : xF8 G h) (hl : h.length = 125) (hw : ¬ (0 ≤ w.toInt ∧ w.toInt < 4096)) : CE l G yX8_quarrel cX8_quarrel 4 (some .int) 6 10 2242 [.ref (G.1 + 0), .int w] h (some (.int (-1))) (kp h) := by
  refine cm_of rfl (Nat.le_of_ble_eq_true rfl) [(0, .ref (G.1 + 0)), (1, .int w)] rfl ?_
  refine aw_iload_n 1 dX8_quarrel_0 rfl rfl ?_
  refine aw_dS [.int w] [] lX8_208 sX8_shelfRefusal mX8_shelfRefusal dX8_quarrel_1 (X8_sR_f hw) rfl (Nat.le_of_ble_eq_true rfl) (by decide) (by decide) rfl ?_
  refine aw_istore_n [(2, .int (-1)), (0, .ref (G.1 + 0)), (1, .int w)] dX8_quarrel_4 rfl (by decide) rfl ?_
  refine aw_iload_n 0 dX8_quarrel_5 rfl rfl ?_
  refine aw_if_eq 15 dX8_quarrel_6 (by decide) (fun c6 => absurd c6 (by decide)) (fun c6 => ?_)
  refine aw_aload_n 1 dX8_quarrel_9 rfl rfl ?_
  refine aw_iload_n 0 dX8_quarrel_10 rfl rfl ?_
  refine aw_eV [.int (-1)] [] lX8_70 vX8_refuse mX8_refuse dX8_quarrel_11 (X8_refuse1 hF) hF.1 rfl rfl rfl (Nat.le_of_ble_eq_true rfl) (by decide) (by decide) rfl (fun h43 q44 => ?_)
  exact aw_iret rfl dX8_quarrel_14 (by decide) (by decide) ⟨rfl, (kp_tr (kp_rf h) q44)⟩
set_option maxHeartbeats 4000000 in
theorem A23b {l : Launch} {G : xG} {h : List va_E} {w : Int32} (hF : xF8 G h) (hl : h.length = 125) (hw : 0 ≤ w.toInt ∧ w.toInt < 4096) (h0 : w.toInt ≠ 0) (hp : 8 < popN w.toInt.toNat) : CE l G yX8_quarrel cX8_quarrel 4 (some .int) 6 10 2242 [.ref (G.1 + 0), .int w] h (some (.int (-6))) (kp h) := by
  refine cm_of rfl (Nat.le_of_ble_eq_true rfl) [(0, .ref (G.1 + 0)), (1, .int w)] rfl ?_
  refine aw_iload_n 1 dX8_quarrel_0 rfl rfl ?_
  refine aw_dS [.int w] [] lX8_208 sX8_shelfRefusal mX8_shelfRefusal dX8_quarrel_1 (X8_sR_b hw h0 hp) rfl (Nat.le_of_ble_eq_true rfl) (by decide) (by decide) rfl ?_
  refine aw_istore_n [(2, .int (-6)), (0, .ref (G.1 + 0)), (1, .int w)] dX8_quarrel_4 rfl (by decide) rfl ?_
  refine aw_iload_n 0 dX8_quarrel_5 rfl rfl ?_
  refine aw_if_eq 15 dX8_quarrel_6 (by decide) (fun c6 => absurd c6 (by decide)) (fun c6 => ?_)
  refine aw_aload_n 1 dX8_quarrel_9 rfl rfl ?_
  refine aw_iload_n 0 dX8_quarrel_10 rfl rfl ?_
  refine aw_eV [.int (-6)] [] lX8_70 vX8_refuse mX8_refuse dX8_quarrel_11 (X8_refuse6 hF) hF.1 rfl rfl rfl (Nat.le_of_ble_eq_true rfl) (by decide) (by decide) rfl (fun h45 q46 => ?_)
  exact aw_iret rfl dX8_quarrel_14 (by decide) (by decide) ⟨rfl, (kp_tr (kp_rf h) q46)⟩
set_option maxHeartbeats 4000000 in
theorem A23o {l : Launch} {G : xG} {h : List va_E} {w : Int32} (hF : xF8 G h) (hl : h.length = 125) (hw : 0 ≤ w.toInt ∧ w.toInt < 4096) (h0 : w.toInt ≠ 0) (hp : popN w.toInt.toNat ≤ 8) : CE l G yX8_quarrel cX8_quarrel 4 (some .int) 6 10 2242 [.ref (G.1 + 0), .int w] h (some (.int 0)) (kp h) := by
  refine cm_of rfl (Nat.le_of_ble_eq_true rfl) [(0, .ref (G.1 + 0)), (1, .int w)] rfl ?_
  obtain ⟨w0, bw, ew⟩ := i_nat (N := 4096) hw.1 hw.2
  have tw : w.toInt = (w0 : Int) := i_toNat ew (by omega)
  have w00 : w.toInt.toNat = w0 := by omega
  have hp12 := popN_le w0
  have hp0 : popN w0 ≤ 8 := by rw [← w00]; exact hp
  refine aw_iload_n 1 dX8_quarrel_0 rfl rfl ?_
  refine aw_dS [.int w] [] lX8_208 sX8_shelfRefusal mX8_shelfRefusal dX8_quarrel_1 (X8_sR_o hw h0 hp) rfl (Nat.le_of_ble_eq_true rfl) (by decide) (by decide) rfl ?_
  refine aw_istore_n [(2, .int 0), (0, .ref (G.1 + 0)), (1, .int w)] dX8_quarrel_4 rfl (by decide) rfl ?_
  refine aw_iload_n 0 dX8_quarrel_5 rfl rfl ?_
  refine aw_if_eq 15 dX8_quarrel_6 (by decide) (fun c6 => ?_) (fun c6 => absurd (by decide) c6)
  refine aw_aload_n 1 dX8_quarrel_15 rfl rfl ?_
  refine aw_iload_n 2 dX8_quarrel_16 rfl rfl ?_
  refine aw_eV [.int w] [] lX8_211 vX8_bestRow mX8_bestRow dX8_quarrel_17 (X8_bestRow_o hF hl ew bw hp0 (by omega)) hF.1 rfl rfl rfl (Nat.le_of_ble_eq_true rfl) (by decide) (by decide) rfl (fun h6 q6 => ?_)
  obtain ⟨hk6, pF, hQ⟩ := q6
  refine aw_astore_n [(3, .ref (G.1 + 125)), (2, .int 0), (0, .ref (G.1 + 0)), (1, .int w)] dX8_quarrel_20 rfl (by decide) rfl ?_
  refine aw_aload_n 0 dX8_quarrel_21 rfl rfl ?_
  refine aw_get fX8_224 dX8_quarrel_22 hQ.1 rfl ?_
  refine aw_aload_n 0 dX8_quarrel_25 rfl rfl ?_
  refine aw_get fX8_215 dX8_quarrel_26 hQ.1 rfl ?_
  refine aw_isub dX8_quarrel_29 ?_
  refine aw_toe 0 (by decide) ?_
  exact aw_iret rfl dX8_quarrel_30 (by decide) (by decide) ⟨rfl, (kp_tr (kp_rf h) hk6)⟩
set_option maxHeartbeats 4000000 in
theorem A22on {l : Launch} {G : xG} {h : List va_E} {w k : Int32} (hF : xF8 G h) (hl : h.length = 125) (hw : 0 ≤ w.toInt ∧ w.toInt < 4096) (h0 : w.toInt ≠ 0) (hp : popN w.toInt.toNat ≤ 8)(hk : k.toInt < 0) : CE l G yX8_row cX8_row 5 (some .int) 6 10 2242 [.ref (G.1 + 0), .int w, .int k] h (some (.int (-9))) (kp h) := by
  refine cm_of rfl (Nat.le_of_ble_eq_true rfl) [(0, .ref (G.1 + 0)), (1, .int w), (2, .int k)] rfl ?_
  obtain ⟨w0, bw, ew⟩ := i_nat (N := 4096) hw.1 hw.2
  have tw : w.toInt = (w0 : Int) := i_toNat ew (by omega)
  have w00 : w.toInt.toNat = w0 := by omega
  have hp12 := popN_le w0
  have hp0 : popN w0 ≤ 8 := by rw [← w00]; exact hp
  refine aw_iload_n 1 dX8_row_0 rfl rfl ?_
  refine aw_dS [.int w] [] lX8_208 sX8_shelfRefusal mX8_shelfRefusal dX8_row_1 (X8_sR_o hw h0 hp) rfl (Nat.le_of_ble_eq_true rfl) (by decide) (by decide) rfl ?_
  refine aw_istore_n [(3, .int 0), (0, .ref (G.1 + 0)), (1, .int w), (2, .int k)] dX8_row_4 rfl (by decide) rfl ?_
  refine aw_iload_n 0 dX8_row_5 rfl rfl ?_
  refine aw_if_eq 15 dX8_row_6 (by decide) (fun c6 => ?_) (fun c6 => absurd (by decide) c6)
  refine aw_aload_n 1 dX8_row_15 rfl rfl ?_
  refine aw_iload_n 2 dX8_row_16 rfl rfl ?_
  refine aw_eV [.int w] [] lX8_211 vX8_bestRow mX8_bestRow dX8_row_17 (X8_bestRow_o hF hl ew bw hp0 (by omega)) hF.1 rfl rfl rfl (Nat.le_of_ble_eq_true rfl) (by decide) (by decide) rfl (fun h6 q6 => ?_)
  obtain ⟨hk6, pF, hQ⟩ := q6
  refine aw_astore [(4, .ref (G.1 + 125)), (3, .int 0), (0, .ref (G.1 + 0)), (1, .int w), (2, .int k)] dX8_row_20 (by decide) rfl ?_
  refine aw_iload_n 4 dX8_row_22 rfl rfl ?_
  refine aw_if_lt 35 dX8_row_23 (by decide) (fun c23 => ?_) (fun c23 => absurd (by simp only [i_lt, (show (0 : Int32).toInt = 0 from rfl)] <;> omega) c23)
  refine aw_bipush (-9) dX8_row_35 (by decide) ?_
  refine aw_goto 47 dX8_row_37 (by decide) ?_
  exact aw_iret rfl dX8_row_47 (by decide) (by decide) ⟨rfl, (kp_tr (kp_rf h) hk6)⟩
set_option maxHeartbeats 4000000 in
theorem A22op {l : Launch} {G : xG} {h : List va_E} {w k : Int32} (hF : xF8 G h) (hl : h.length = 125) (hw : 0 ≤ w.toInt ∧ w.toInt < 4096) (h0 : w.toInt ≠ 0) (hp : popN w.toInt.toNat ≤ 8)(hk : (popN w.toInt.toNat : Int) ≤ k.toInt) : CE l G yX8_row cX8_row 5 (some .int) 6 10 2242 [.ref (G.1 + 0), .int w, .int k] h (some (.int (-9))) (kp h) := by
  refine cm_of rfl (Nat.le_of_ble_eq_true rfl) [(0, .ref (G.1 + 0)), (1, .int w), (2, .int k)] rfl ?_
  obtain ⟨w0, bw, ew⟩ := i_nat (N := 4096) hw.1 hw.2
  have tw : w.toInt = (w0 : Int) := i_toNat ew (by omega)
  have w00 : w.toInt.toNat = w0 := by omega
  have hp12 := popN_le w0
  have hp0 : popN w0 ≤ 8 := by rw [← w00]; exact hp
  rw [w00] at hk
  refine aw_iload_n 1 dX8_row_0 rfl rfl ?_
  refine aw_dS [.int w] [] lX8_208 sX8_shelfRefusal mX8_shelfRefusal dX8_row_1 (X8_sR_o hw h0 hp) rfl (Nat.le_of_ble_eq_true rfl) (by decide) (by decide) rfl ?_
  refine aw_istore_n [(3, .int 0), (0, .ref (G.1 + 0)), (1, .int w), (2, .int k)] dX8_row_4 rfl (by decide) rfl ?_
  refine aw_iload_n 0 dX8_row_5 rfl rfl ?_
  refine aw_if_eq 15 dX8_row_6 (by decide) (fun c6 => ?_) (fun c6 => absurd (by decide) c6)
  refine aw_aload_n 1 dX8_row_15 rfl rfl ?_
  refine aw_iload_n 2 dX8_row_16 rfl rfl ?_
  refine aw_eV [.int w] [] lX8_211 vX8_bestRow mX8_bestRow dX8_row_17 (X8_bestRow_o hF hl ew bw hp0 (by omega)) hF.1 rfl rfl rfl (Nat.le_of_ble_eq_true rfl) (by decide) (by decide) rfl (fun h6 q6 => ?_)
  obtain ⟨hk6, pF, hQ⟩ := q6
  refine aw_astore [(4, .ref (G.1 + 125)), (3, .int 0), (0, .ref (G.1 + 0)), (1, .int w), (2, .int k)] dX8_row_20 (by decide) rfl ?_
  refine aw_iload_n 4 dX8_row_22 rfl rfl ?_
  refine aw_if_lt 35 dX8_row_23 (by decide) (fun c23 => absurd c23 (by simp only [i_lt, (show (0 : Int32).toInt = 0 from rfl)] <;> omega)) (fun c23 => ?_)
  refine aw_iload_n 4 dX8_row_26 rfl rfl ?_
  refine aw_aload 0 dX8_row_27 rfl ?_
  refine aw_get fX8_218 dX8_row_29 hQ.1 rfl ?_
  refine aw_icmp_lt 40 dX8_row_32 (by decide) (fun c32 => absurd c32 (by simp only [i_lt, (nI_toInt (n := popN w0) (by omega))] <;> omega)) (fun c32 => ?_)
  refine aw_bipush (-9) dX8_row_35 (by decide) ?_
  refine aw_goto 47 dX8_row_37 (by decide) ?_
  exact aw_iret rfl dX8_row_47 (by decide) (by decide) ⟨rfl, (kp_tr (kp_rf h) hk6)⟩
set_option maxHeartbeats 4000000 in
theorem A22oo {l : Launch} {G : xG} {h : List va_E} {w k : Int32} (hF : xF8 G h) (hl : h.length = 125) (hw : 0 ≤ w.toInt ∧ w.toInt < 4096) (h0 : w.toInt ≠ 0) (hp : popN w.toInt.toNat ≤ 8)(hk : 0 ≤ k.toInt) (hk2 : k.toInt < (popN w.toInt.toNat : Int)) : CE l G yX8_row cX8_row 5 (some .int) 6 10 2242 [.ref (G.1 + 0), .int w, .int k] h (some (.int (thF w.toInt.toNat 12 k.toInt.toNat))) (kp h) := by
  refine cm_of rfl (Nat.le_of_ble_eq_true rfl) [(0, .ref (G.1 + 0)), (1, .int w), (2, .int k)] rfl ?_
  obtain ⟨w0, bw, ew⟩ := i_nat (N := 4096) hw.1 hw.2
  have tw : w.toInt = (w0 : Int) := i_toNat ew (by omega)
  have w00 : w.toInt.toNat = w0 := by omega
  have hp12 := popN_le w0
  have hp0 : popN w0 ≤ 8 := by rw [← w00]; exact hp
  rw [w00] at hk2
  obtain ⟨k0, bk, ek⟩ := i_nat (x := k) (N := 8) hk (by omega)
  have tk : k.toInt = (k0 : Int) := i_toNat ek (by omega)
  have k00 : k.toInt.toNat = k0 := by omega
  refine aw_iload_n 1 dX8_row_0 rfl rfl ?_
  refine aw_dS [.int w] [] lX8_208 sX8_shelfRefusal mX8_shelfRefusal dX8_row_1 (X8_sR_o hw h0 hp) rfl (Nat.le_of_ble_eq_true rfl) (by decide) (by decide) rfl ?_
  refine aw_istore_n [(3, .int 0), (0, .ref (G.1 + 0)), (1, .int w), (2, .int k)] dX8_row_4 rfl (by decide) rfl ?_
  refine aw_iload_n 0 dX8_row_5 rfl rfl ?_
  refine aw_if_eq 15 dX8_row_6 (by decide) (fun c6 => ?_) (fun c6 => absurd (by decide) c6)
  refine aw_aload_n 1 dX8_row_15 rfl rfl ?_
  refine aw_iload_n 2 dX8_row_16 rfl rfl ?_
  refine aw_eV [.int w] [] lX8_211 vX8_bestRow mX8_bestRow dX8_row_17 (X8_bestRow_o hF hl ew bw hp0 (by omega)) hF.1 rfl rfl rfl (Nat.le_of_ble_eq_true rfl) (by decide) (by decide) rfl (fun h6 q6 => ?_)
  obtain ⟨hk6, pF, hQ⟩ := q6
  refine aw_astore [(4, .ref (G.1 + 125)), (3, .int 0), (0, .ref (G.1 + 0)), (1, .int w), (2, .int k)] dX8_row_20 (by decide) rfl ?_
  refine aw_iload_n 4 dX8_row_22 rfl rfl ?_
  refine aw_if_lt 35 dX8_row_23 (by decide) (fun c23 => absurd c23 (by simp only [i_lt, (show (0 : Int32).toInt = 0 from rfl)] <;> omega)) (fun c23 => ?_)
  refine aw_iload_n 4 dX8_row_26 rfl rfl ?_
  refine aw_aload 0 dX8_row_27 rfl ?_
  refine aw_get fX8_218 dX8_row_29 hQ.1 rfl ?_
  refine aw_icmp_lt 40 dX8_row_32 (by decide) (fun c32 => ?_) (fun c32 => absurd (by simp only [i_lt, (nI_toInt (n := popN w0) (by omega))] <;> omega) c32)
  refine aw_aload 0 dX8_row_40 rfl ?_
  refine aw_get fX8_221 dX8_row_42 hQ.1 rfl ?_
  refine aw_iload_n 4 dX8_row_45 rfl rfl ?_
  refine aw_iald k0 (ek) (by omega) (by decide) dX8_row_46 hQ.2.2.2.2.2.2.2.2.2 ?_
  refine aw_toe (thF w0 12 k0) (by simp [tkF, show k0 < popN w0 by omega]) ?_
  exact aw_iret rfl dX8_row_47 (by decide) (by decide) ⟨by rw [w00, k00], (kp_tr (kp_rf h) hk6)⟩
