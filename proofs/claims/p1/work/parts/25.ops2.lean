set_option maxHeartbeats 4000000 in
theorem A5t {l : Launch} {G : xG} {h : List va_E} {a i b k : Int32} (hF : xF8 G h) (ha : 0 ≤ a.toInt ∧ a.toInt < 4) (hb : 0 ≤ b.toInt ∧ b.toInt < 4) (hab : a.toInt ≠ b.toInt) : CE l G yX8_bar cX8_bar 7 (some .int) 2 0 0 [.ref (G.1 + 0), .int a, .int i, .int b, .int k] h (some (.int (-1))) (kp h) := by
  refine cm_of rfl (Nat.le_of_ble_eq_true rfl) [(0, .ref (G.1 + 0)), (1, .int a), (2, .int i), (3, .int b), (4, .int k)] rfl ?_
  refine aw_iload_n 1 dX8_bar_0 rfl rfl ?_
  refine aw_iload_n 3 dX8_bar_1 rfl rfl ?_
  refine aw_dS [.int a, .int b] [] lX8_104 sX8_areTwo mX8_areTwo dX8_bar_2 (X8_areTwo_t (by omega) (by omega) (by omega)) rfl (Nat.le_of_ble_eq_true rfl) (by decide) (by decide) rfl ?_
  refine aw_if_eq 27 dX8_bar_5 (by decide) (fun c5 => absurd c5 (by decide)) (fun c5 => ?_)
  refine aw_aload_n 0 dX8_bar_8 rfl rfl ?_
  refine aw_iload_n 1 dX8_bar_9 rfl rfl ?_
  refine aw_iload_n 2 dX8_bar_10 rfl rfl ?_
  refine aw_dV [.int a, .int i] [] lX8_107 vX8_isEntry mX8_isEntry dX8_bar_11 (X8_isEntry_f hF) hF.1 rfl rfl rfl (Nat.le_of_ble_eq_true rfl) (by decide) (by decide) rfl ?_
  refine aw_if_eq 27 dX8_bar_14 (by decide) (fun c14 => ?_) (fun c14 => absurd (by decide) c14)
  refine aw_aload_n 0 dX8_bar_27 rfl rfl ?_
  refine aw_iconst (-1) dX8_bar_28 (by decide) ?_
  refine aw_eV [.int (-1)] [] lX8_70 vX8_refuse mX8_refuse dX8_bar_29 (X8_refuse1 hF) hF.1 rfl rfl rfl (Nat.le_of_ble_eq_true rfl) (by decide) (by decide) rfl (fun h1 q2 => ?_)
  exact aw_iret rfl dX8_bar_32 (by decide) (by decide) ⟨rfl, (kp_tr (kp_rf h) q2)⟩
set_option maxHeartbeats 4000000 in
theorem A5f {l : Launch} {G : xG} {h : List va_E} {a i b k : Int32} (hF : xF8 G h) (hab : ¬ ((0 ≤ a.toInt ∧ a.toInt < 4) ∧ (0 ≤ b.toInt ∧ b.toInt < 4) ∧ a.toInt ≠ b.toInt)) : CE l G yX8_bar cX8_bar 7 (some .int) 2 0 0 [.ref (G.1 + 0), .int a, .int i, .int b, .int k] h (some (.int (-1))) (kp h) := by
  refine cm_of rfl (Nat.le_of_ble_eq_true rfl) [(0, .ref (G.1 + 0)), (1, .int a), (2, .int i), (3, .int b), (4, .int k)] rfl ?_
  refine aw_iload_n 1 dX8_bar_0 rfl rfl ?_
  refine aw_iload_n 3 dX8_bar_1 rfl rfl ?_
  refine aw_dS [.int a, .int b] [] lX8_104 sX8_areTwo mX8_areTwo dX8_bar_2 (X8_areTwo_f (by omega)) rfl (Nat.le_of_ble_eq_true rfl) (by decide) (by decide) rfl ?_
  refine aw_if_eq 27 dX8_bar_5 (by decide) (fun c5 => ?_) (fun c5 => absurd (by decide) c5)
  refine aw_aload_n 0 dX8_bar_27 rfl rfl ?_
  refine aw_iconst (-1) dX8_bar_28 (by decide) ?_
  refine aw_eV [.int (-1)] [] lX8_70 vX8_refuse mX8_refuse dX8_bar_29 (X8_refuse1 hF) hF.1 rfl rfl rfl (Nat.le_of_ble_eq_true rfl) (by decide) (by decide) rfl (fun h3 q4 => ?_)
  exact aw_iret rfl dX8_bar_32 (by decide) (by decide) ⟨rfl, (kp_tr (kp_rf h) q4)⟩
set_option maxHeartbeats 4000000 in
theorem B5 {l : Launch} {G : xG} {h : List va_E} {a i b k : Int32} (hM : xF9 G h)  : CE l G yX9_bar cX9_bar 5 (some .int) 2 0 0 [.ref (G.1 + 88), .int a, .int i, .int b, .int k] h (some (.int (-1))) (fun _ => True) := by
  refine cm_of rfl (Nat.le_of_ble_eq_true rfl) [(0, .ref (G.1 + 88)), (1, .int a), (2, .int i), (3, .int b), (4, .int k)] rfl ?_
  refine aw_aload_n 0 dX9_bar_0 rfl rfl ?_
  refine aw_iload_n 1 dX9_bar_1 rfl rfl ?_
  refine aw_iload_n 2 dX9_bar_2 rfl rfl ?_
  refine aw_dV [.int a, .int i] [] lX9_145 vX9_isEntry mX9_isEntry dX9_bar_3 (X9_isEntry_f hM) hM.1 rfl rfl rfl (Nat.le_of_ble_eq_true rfl) (by decide) (by decide) rfl ?_
  refine aw_if_eq 24 dX9_bar_6 (by decide) (fun c6 => ?_) (fun c6 => absurd (by decide) c6)
  refine aw_aload_n 0 dX9_bar_24 rfl rfl ?_
  refine aw_iconst (-1) dX9_bar_25 (by decide) ?_
  refine aw_eV [.int (-1)] [] lX9_130 vX9_refuse mX9_refuse dX9_bar_26 (X9_refuse1 hM) hM.1 rfl rfl rfl (Nat.le_of_ble_eq_true rfl) (by decide) (by decide) rfl (fun h5 q6 => ?_)
  exact aw_iret rfl dX9_bar_29 (by decide) (by decide) ⟨rfl, trivial⟩
theorem A5 {l : Launch} {G : xG} {h : List va_E} {a i b k : Int32} (hF : xF8 G h) : CE l G yX8_bar cX8_bar 7 (some .int) 2 0 0 [.ref (G.1 + 0), .int a, .int i, .int b, .int k] h (some (.int (-1))) (kp h) := by
  by_cases hq : (0 ≤ a.toInt ∧ a.toInt < 4) ∧ (0 ≤ b.toInt ∧ b.toInt < 4) ∧ a.toInt ≠ b.toInt
  · exact A5t hF hq.1 hq.2.1 hq.2.2
  · exact A5f hF hq
set_option maxHeartbeats 4000000 in
theorem A6t {l : Launch} {G : xG} {h : List va_E} {a i b k : Int32} (hF : xF8 G h) (ha : 0 ≤ a.toInt ∧ a.toInt < 4) (hb : 0 ≤ b.toInt ∧ b.toInt < 4) (hab : a.toInt ≠ b.toInt) : CE l G yX8_like cX8_like 5 (some .int) 2 0 0 [.ref (G.1 + 0), .int a, .int i, .int b, .int k] h (some (.int (-1))) (kp h) := by
  refine cm_of rfl (Nat.le_of_ble_eq_true rfl) [(0, .ref (G.1 + 0)), (1, .int a), (2, .int i), (3, .int b), (4, .int k)] rfl ?_
  refine aw_iload_n 1 dX8_like_0 rfl rfl ?_
  refine aw_iload_n 3 dX8_like_1 rfl rfl ?_
  refine aw_dS [.int a, .int b] [] lX8_104 sX8_areTwo mX8_areTwo dX8_like_2 (X8_areTwo_t (by omega) (by omega) (by omega)) rfl (Nat.le_of_ble_eq_true rfl) (by decide) (by decide) rfl ?_
  refine aw_if_eq 27 dX8_like_5 (by decide) (fun c5 => absurd c5 (by decide)) (fun c5 => ?_)
  refine aw_aload_n 0 dX8_like_8 rfl rfl ?_
  refine aw_iload_n 1 dX8_like_9 rfl rfl ?_
  refine aw_iload_n 2 dX8_like_10 rfl rfl ?_
  refine aw_dV [.int a, .int i] [] lX8_107 vX8_isEntry mX8_isEntry dX8_like_11 (X8_isEntry_f hF) hF.1 rfl rfl rfl (Nat.le_of_ble_eq_true rfl) (by decide) (by decide) rfl ?_
  refine aw_if_eq 27 dX8_like_14 (by decide) (fun c14 => ?_) (fun c14 => absurd (by decide) c14)
  refine aw_aload_n 0 dX8_like_27 rfl rfl ?_
  refine aw_iconst (-1) dX8_like_28 (by decide) ?_
  refine aw_eV [.int (-1)] [] lX8_70 vX8_refuse mX8_refuse dX8_like_29 (X8_refuse1 hF) hF.1 rfl rfl rfl (Nat.le_of_ble_eq_true rfl) (by decide) (by decide) rfl (fun h7 q8 => ?_)
  exact aw_iret rfl dX8_like_32 (by decide) (by decide) ⟨rfl, (kp_tr (kp_rf h) q8)⟩
set_option maxHeartbeats 4000000 in
theorem A6f {l : Launch} {G : xG} {h : List va_E} {a i b k : Int32} (hF : xF8 G h) (hab : ¬ ((0 ≤ a.toInt ∧ a.toInt < 4) ∧ (0 ≤ b.toInt ∧ b.toInt < 4) ∧ a.toInt ≠ b.toInt)) : CE l G yX8_like cX8_like 5 (some .int) 2 0 0 [.ref (G.1 + 0), .int a, .int i, .int b, .int k] h (some (.int (-1))) (kp h) := by
  refine cm_of rfl (Nat.le_of_ble_eq_true rfl) [(0, .ref (G.1 + 0)), (1, .int a), (2, .int i), (3, .int b), (4, .int k)] rfl ?_
  refine aw_iload_n 1 dX8_like_0 rfl rfl ?_
  refine aw_iload_n 3 dX8_like_1 rfl rfl ?_
  refine aw_dS [.int a, .int b] [] lX8_104 sX8_areTwo mX8_areTwo dX8_like_2 (X8_areTwo_f (by omega)) rfl (Nat.le_of_ble_eq_true rfl) (by decide) (by decide) rfl ?_
  refine aw_if_eq 27 dX8_like_5 (by decide) (fun c5 => ?_) (fun c5 => absurd (by decide) c5)
  refine aw_aload_n 0 dX8_like_27 rfl rfl ?_
  refine aw_iconst (-1) dX8_like_28 (by decide) ?_
  refine aw_eV [.int (-1)] [] lX8_70 vX8_refuse mX8_refuse dX8_like_29 (X8_refuse1 hF) hF.1 rfl rfl rfl (Nat.le_of_ble_eq_true rfl) (by decide) (by decide) rfl (fun h9 q10 => ?_)
  exact aw_iret rfl dX8_like_32 (by decide) (by decide) ⟨rfl, (kp_tr (kp_rf h) q10)⟩
set_option maxHeartbeats 4000000 in
theorem B6 {l : Launch} {G : xG} {h : List va_E} {a i b k : Int32} (hM : xF9 G h)  : CE l G yX9_like cX9_like 5 (some .int) 2 0 0 [.ref (G.1 + 88), .int a, .int i, .int b, .int k] h (some (.int (-1))) (fun _ => True) := by
  refine cm_of rfl (Nat.le_of_ble_eq_true rfl) [(0, .ref (G.1 + 88)), (1, .int a), (2, .int i), (3, .int b), (4, .int k)] rfl ?_
  refine aw_aload_n 0 dX9_like_0 rfl rfl ?_
  refine aw_iload_n 1 dX9_like_1 rfl rfl ?_
  refine aw_iload_n 2 dX9_like_2 rfl rfl ?_
  refine aw_dV [.int a, .int i] [] lX9_145 vX9_isEntry mX9_isEntry dX9_like_3 (X9_isEntry_f hM) hM.1 rfl rfl rfl (Nat.le_of_ble_eq_true rfl) (by decide) (by decide) rfl ?_
  refine aw_if_eq 36 dX9_like_6 (by decide) (fun c6 => ?_) (fun c6 => absurd (by decide) c6)
  refine aw_aload_n 0 dX9_like_36 rfl rfl ?_
  refine aw_iconst (-1) dX9_like_37 (by decide) ?_
  refine aw_eV [.int (-1)] [] lX9_130 vX9_refuse mX9_refuse dX9_like_38 (X9_refuse1 hM) hM.1 rfl rfl rfl (Nat.le_of_ble_eq_true rfl) (by decide) (by decide) rfl (fun h11 q12 => ?_)
  exact aw_iret rfl dX9_like_41 (by decide) (by decide) ⟨rfl, trivial⟩
theorem A6 {l : Launch} {G : xG} {h : List va_E} {a i b k : Int32} (hF : xF8 G h) : CE l G yX8_like cX8_like 5 (some .int) 2 0 0 [.ref (G.1 + 0), .int a, .int i, .int b, .int k] h (some (.int (-1))) (kp h) := by
  by_cases hq : (0 ≤ a.toInt ∧ a.toInt < 4) ∧ (0 ≤ b.toInt ∧ b.toInt < 4) ∧ a.toInt ≠ b.toInt
  · exact A6t hF hq.1 hq.2.1 hq.2.2
  · exact A6f hF hq
set_option maxHeartbeats 4000000 in
theorem A8t {l : Launch} {G : xG} {h : List va_E} {a i b : Int32} (hF : xF8 G h) (ha : 0 ≤ a.toInt ∧ a.toInt < 4) (hb : 0 ≤ b.toInt ∧ b.toInt < 4) (hab : a.toInt ≠ b.toInt) : CE l G yX8_joined cX8_joined 4 (some .int) 2 0 0 [.ref (G.1 + 0), .int a, .int i, .int b] h (some (.int (-1))) (kp h) := by
  refine cm_of rfl (Nat.le_of_ble_eq_true rfl) [(0, .ref (G.1 + 0)), (1, .int a), (2, .int i), (3, .int b)] rfl ?_
  refine aw_iload_n 1 dX8_joined_0 rfl rfl ?_
  refine aw_iload_n 3 dX8_joined_1 rfl rfl ?_
  refine aw_dS [.int a, .int b] [] lX8_104 sX8_areTwo mX8_areTwo dX8_joined_2 (X8_areTwo_t (by omega) (by omega) (by omega)) rfl (Nat.le_of_ble_eq_true rfl) (by decide) (by decide) rfl ?_
  refine aw_if_eq 17 dX8_joined_5 (by decide) (fun c5 => absurd c5 (by decide)) (fun c5 => ?_)
  refine aw_aload_n 0 dX8_joined_8 rfl rfl ?_
  refine aw_iload_n 1 dX8_joined_9 rfl rfl ?_
  refine aw_iload_n 2 dX8_joined_10 rfl rfl ?_
  refine aw_dV [.int a, .int i] [] lX8_107 vX8_isEntry mX8_isEntry dX8_joined_11 (X8_isEntry_f hF) hF.1 rfl rfl rfl (Nat.le_of_ble_eq_true rfl) (by decide) (by decide) rfl ?_
  refine aw_if_ne 23 dX8_joined_14 (by decide) (fun c14 => absurd (by decide) c14) (fun c14 => ?_)
  refine aw_aload_n 0 dX8_joined_17 rfl rfl ?_
  refine aw_iconst (-1) dX8_joined_18 (by decide) ?_
  refine aw_eV [.int (-1)] [] lX8_70 vX8_refuse mX8_refuse dX8_joined_19 (X8_refuse1 hF) hF.1 rfl rfl rfl (Nat.le_of_ble_eq_true rfl) (by decide) (by decide) rfl (fun h13 q14 => ?_)
  exact aw_iret rfl dX8_joined_22 (by decide) (by decide) ⟨rfl, (kp_tr (kp_rf h) q14)⟩
set_option maxHeartbeats 4000000 in
theorem A8f {l : Launch} {G : xG} {h : List va_E} {a i b : Int32} (hF : xF8 G h) (hab : ¬ ((0 ≤ a.toInt ∧ a.toInt < 4) ∧ (0 ≤ b.toInt ∧ b.toInt < 4) ∧ a.toInt ≠ b.toInt)) : CE l G yX8_joined cX8_joined 4 (some .int) 2 0 0 [.ref (G.1 + 0), .int a, .int i, .int b] h (some (.int (-1))) (kp h) := by
  refine cm_of rfl (Nat.le_of_ble_eq_true rfl) [(0, .ref (G.1 + 0)), (1, .int a), (2, .int i), (3, .int b)] rfl ?_
  refine aw_iload_n 1 dX8_joined_0 rfl rfl ?_
  refine aw_iload_n 3 dX8_joined_1 rfl rfl ?_
  refine aw_dS [.int a, .int b] [] lX8_104 sX8_areTwo mX8_areTwo dX8_joined_2 (X8_areTwo_f (by omega)) rfl (Nat.le_of_ble_eq_true rfl) (by decide) (by decide) rfl ?_
  refine aw_if_eq 17 dX8_joined_5 (by decide) (fun c5 => ?_) (fun c5 => absurd (by decide) c5)
  refine aw_aload_n 0 dX8_joined_17 rfl rfl ?_
  refine aw_iconst (-1) dX8_joined_18 (by decide) ?_
  refine aw_eV [.int (-1)] [] lX8_70 vX8_refuse mX8_refuse dX8_joined_19 (X8_refuse1 hF) hF.1 rfl rfl rfl (Nat.le_of_ble_eq_true rfl) (by decide) (by decide) rfl (fun h15 q16 => ?_)
  exact aw_iret rfl dX8_joined_22 (by decide) (by decide) ⟨rfl, (kp_tr (kp_rf h) q16)⟩
set_option maxHeartbeats 4000000 in
theorem B8t {l : Launch} {G : xG} {h : List va_E} {a i b : Int32} (hM : xF9 G h) (ha : 0 ≤ a.toInt ∧ a.toInt < 4) (hb : 0 ≤ b.toInt ∧ b.toInt < 4) (hab : a.toInt ≠ b.toInt) : CE l G yX9_joined cX9_joined 5 (some .int) 2 0 0 [.ref (G.1 + 88), .int a, .int i, .int b] h (some (.int (-1))) (fun _ => True) := by
  refine cm_of rfl (Nat.le_of_ble_eq_true rfl) [(0, .ref (G.1 + 88)), (1, .int a), (2, .int i), (3, .int b)] rfl ?_
  obtain ⟨a0, ba, ea⟩ := i_nat (N := 4) ha.1 ha.2
  refine aw_aload_n 0 dX9_joined_0 rfl rfl ?_
  refine aw_iload_n 1 dX9_joined_1 rfl rfl ?_
  refine aw_iload_n 3 dX9_joined_2 rfl rfl ?_
  refine aw_dV [.int a, .int b] [] lX9_184 vX9_areBooks mX9_areBooks dX9_joined_3 (X9_areBooks_t (by omega) (by omega) (by omega)) hM.1 rfl rfl rfl (Nat.le_of_ble_eq_true rfl) (by decide) (by decide) rfl ?_
  refine aw_if_eq 22 dX9_joined_6 (by decide) (fun c6 => absurd c6 (by decide)) (fun c6 => ?_)
  refine aw_iload_n 2 dX9_joined_9 rfl rfl ?_
  refine aw_aload_n 0 dX9_joined_10 rfl rfl ?_
  refine aw_get fX9_19 dX9_joined_11 hM.1 rfl ?_
  refine aw_iload_n 1 dX9_joined_14 rfl rfl ?_
  refine aw_iald a0 (ea) (by omega) (by decide) dX9_joined_15 hM.2.2.2.2.1 ?_
  refine aw_toe 0 (rfl) ?_
  refine aw_dS [.int i, .int 0] [] lX9_126 sX9_isIn mX9_isIn dX9_joined_16 (X9_isIn0_f) rfl (Nat.le_of_ble_eq_true rfl) (by decide) (by decide) rfl ?_
  refine aw_if_ne 28 dX9_joined_19 (by decide) (fun c19 => absurd (by decide) c19) (fun c19 => ?_)
  refine aw_aload_n 0 dX9_joined_22 rfl rfl ?_
  refine aw_iconst (-1) dX9_joined_23 (by decide) ?_
  refine aw_eV [.int (-1)] [] lX9_130 vX9_refuse mX9_refuse dX9_joined_24 (X9_refuse1 hM) hM.1 rfl rfl rfl (Nat.le_of_ble_eq_true rfl) (by decide) (by decide) rfl (fun h17 q18 => ?_)
  exact aw_iret rfl dX9_joined_27 (by decide) (by decide) ⟨rfl, trivial⟩
set_option maxHeartbeats 4000000 in
theorem B8f {l : Launch} {G : xG} {h : List va_E} {a i b : Int32} (hM : xF9 G h) (hab : ¬ ((0 ≤ a.toInt ∧ a.toInt < 4) ∧ (0 ≤ b.toInt ∧ b.toInt < 4) ∧ a.toInt ≠ b.toInt)) : CE l G yX9_joined cX9_joined 5 (some .int) 2 0 0 [.ref (G.1 + 88), .int a, .int i, .int b] h (some (.int (-1))) (fun _ => True) := by
  refine cm_of rfl (Nat.le_of_ble_eq_true rfl) [(0, .ref (G.1 + 88)), (1, .int a), (2, .int i), (3, .int b)] rfl ?_
  refine aw_aload_n 0 dX9_joined_0 rfl rfl ?_
  refine aw_iload_n 1 dX9_joined_1 rfl rfl ?_
  refine aw_iload_n 3 dX9_joined_2 rfl rfl ?_
  refine aw_dV [.int a, .int b] [] lX9_184 vX9_areBooks mX9_areBooks dX9_joined_3 (X9_areBooks_f (by omega)) hM.1 rfl rfl rfl (Nat.le_of_ble_eq_true rfl) (by decide) (by decide) rfl ?_
  refine aw_if_eq 22 dX9_joined_6 (by decide) (fun c6 => ?_) (fun c6 => absurd (by decide) c6)
  refine aw_aload_n 0 dX9_joined_22 rfl rfl ?_
  refine aw_iconst (-1) dX9_joined_23 (by decide) ?_
  refine aw_eV [.int (-1)] [] lX9_130 vX9_refuse mX9_refuse dX9_joined_24 (X9_refuse1 hM) hM.1 rfl rfl rfl (Nat.le_of_ble_eq_true rfl) (by decide) (by decide) rfl (fun h19 q20 => ?_)
  exact aw_iret rfl dX9_joined_27 (by decide) (by decide) ⟨rfl, trivial⟩
theorem A8 {l : Launch} {G : xG} {h : List va_E} {a i b : Int32} (hF : xF8 G h) : CE l G yX8_joined cX8_joined 4 (some .int) 2 0 0 [.ref (G.1 + 0), .int a, .int i, .int b] h (some (.int (-1))) (kp h) := by
  by_cases hq : (0 ≤ a.toInt ∧ a.toInt < 4) ∧ (0 ≤ b.toInt ∧ b.toInt < 4) ∧ a.toInt ≠ b.toInt
  · exact A8t hF hq.1 hq.2.1 hq.2.2
  · exact A8f hF hq
theorem B8 {l : Launch} {G : xG} {h : List va_E} {a i b : Int32} (hM : xF9 G h) : CE l G yX9_joined cX9_joined 5 (some .int) 2 0 0 [.ref (G.1 + 88), .int a, .int i, .int b] h (some (.int (-1))) (fun _ => True) := by
  by_cases hq : (0 ≤ a.toInt ∧ a.toInt < 4) ∧ (0 ≤ b.toInt ∧ b.toInt < 4) ∧ a.toInt ≠ b.toInt
  · exact B8t hM hq.1 hq.2.1 hq.2.2
  · exact B8f hM hq
set_option maxHeartbeats 4000000 in
theorem A10t {l : Launch} {G : xG} {h : List va_E} {a i b : Int32} (hF : xF8 G h) (ha : 0 ≤ a.toInt ∧ a.toInt < 4) (hb : 0 ≤ b.toInt ∧ b.toInt < 4) (hab : a.toInt ≠ b.toInt) : CE l G yX8_sure cX8_sure 4 (some .int) 2 0 0 [.ref (G.1 + 0), .int a, .int i, .int b] h (some (.int (-1))) (kp h) := by
  refine cm_of rfl (Nat.le_of_ble_eq_true rfl) [(0, .ref (G.1 + 0)), (1, .int a), (2, .int i), (3, .int b)] rfl ?_
  refine aw_iload_n 1 dX8_sure_0 rfl rfl ?_
  refine aw_iload_n 3 dX8_sure_1 rfl rfl ?_
  refine aw_dS [.int a, .int b] [] lX8_104 sX8_areTwo mX8_areTwo dX8_sure_2 (X8_areTwo_t (by omega) (by omega) (by omega)) rfl (Nat.le_of_ble_eq_true rfl) (by decide) (by decide) rfl ?_
  refine aw_if_eq 17 dX8_sure_5 (by decide) (fun c5 => absurd c5 (by decide)) (fun c5 => ?_)
  refine aw_aload_n 0 dX8_sure_8 rfl rfl ?_
  refine aw_iload_n 1 dX8_sure_9 rfl rfl ?_
  refine aw_iload_n 2 dX8_sure_10 rfl rfl ?_
  refine aw_dV [.int a, .int i] [] lX8_107 vX8_isEntry mX8_isEntry dX8_sure_11 (X8_isEntry_f hF) hF.1 rfl rfl rfl (Nat.le_of_ble_eq_true rfl) (by decide) (by decide) rfl ?_
  refine aw_if_ne 23 dX8_sure_14 (by decide) (fun c14 => absurd (by decide) c14) (fun c14 => ?_)
  refine aw_aload_n 0 dX8_sure_17 rfl rfl ?_
  refine aw_iconst (-1) dX8_sure_18 (by decide) ?_
  refine aw_eV [.int (-1)] [] lX8_70 vX8_refuse mX8_refuse dX8_sure_19 (X8_refuse1 hF) hF.1 rfl rfl rfl (Nat.le_of_ble_eq_true rfl) (by decide) (by decide) rfl (fun h21 q22 => ?_)
  exact aw_iret rfl dX8_sure_22 (by decide) (by decide) ⟨rfl, (kp_tr (kp_rf h) q22)⟩
set_option maxHeartbeats 4000000 in
theorem A10f {l : Launch} {G : xG} {h : List va_E} {a i b : Int32} (hF : xF8 G h) (hab : ¬ ((0 ≤ a.toInt ∧ a.toInt < 4) ∧ (0 ≤ b.toInt ∧ b.toInt < 4) ∧ a.toInt ≠ b.toInt)) : CE l G yX8_sure cX8_sure 4 (some .int) 2 0 0 [.ref (G.1 + 0), .int a, .int i, .int b] h (some (.int (-1))) (kp h) := by
  refine cm_of rfl (Nat.le_of_ble_eq_true rfl) [(0, .ref (G.1 + 0)), (1, .int a), (2, .int i), (3, .int b)] rfl ?_
  refine aw_iload_n 1 dX8_sure_0 rfl rfl ?_
  refine aw_iload_n 3 dX8_sure_1 rfl rfl ?_
  refine aw_dS [.int a, .int b] [] lX8_104 sX8_areTwo mX8_areTwo dX8_sure_2 (X8_areTwo_f (by omega)) rfl (Nat.le_of_ble_eq_true rfl) (by decide) (by decide) rfl ?_
  refine aw_if_eq 17 dX8_sure_5 (by decide) (fun c5 => ?_) (fun c5 => absurd (by decide) c5)
  refine aw_aload_n 0 dX8_sure_17 rfl rfl ?_
  refine aw_iconst (-1) dX8_sure_18 (by decide) ?_
  refine aw_eV [.int (-1)] [] lX8_70 vX8_refuse mX8_refuse dX8_sure_19 (X8_refuse1 hF) hF.1 rfl rfl rfl (Nat.le_of_ble_eq_true rfl) (by decide) (by decide) rfl (fun h23 q24 => ?_)
  exact aw_iret rfl dX8_sure_22 (by decide) (by decide) ⟨rfl, (kp_tr (kp_rf h) q24)⟩
set_option maxHeartbeats 4000000 in
theorem B10t {l : Launch} {G : xG} {h : List va_E} {a i b : Int32} (hM : xF9 G h) (ha : 0 ≤ a.toInt ∧ a.toInt < 4) (hb : 0 ≤ b.toInt ∧ b.toInt < 4) (hab : a.toInt ≠ b.toInt) : CE l G yX9_sure cX9_sure 4 (some .int) 2 0 0 [.ref (G.1 + 88), .int a, .int i, .int b] h (some (.int (-1))) (fun _ => True) := by
  refine cm_of rfl (Nat.le_of_ble_eq_true rfl) [(0, .ref (G.1 + 88)), (1, .int a), (2, .int i), (3, .int b)] rfl ?_
  obtain ⟨a0, ba, ea⟩ := i_nat (N := 4) ha.1 ha.2
  refine aw_aload_n 0 dX9_sure_0 rfl rfl ?_
  refine aw_iload_n 1 dX9_sure_1 rfl rfl ?_
  refine aw_iload_n 3 dX9_sure_2 rfl rfl ?_
  refine aw_dV [.int a, .int b] [] lX9_184 vX9_areBooks mX9_areBooks dX9_sure_3 (X9_areBooks_t (by omega) (by omega) (by omega)) hM.1 rfl rfl rfl (Nat.le_of_ble_eq_true rfl) (by decide) (by decide) rfl ?_
  refine aw_if_eq 22 dX9_sure_6 (by decide) (fun c6 => absurd c6 (by decide)) (fun c6 => ?_)
  refine aw_iload_n 2 dX9_sure_9 rfl rfl ?_
  refine aw_aload_n 0 dX9_sure_10 rfl rfl ?_
  refine aw_get fX9_19 dX9_sure_11 hM.1 rfl ?_
  refine aw_iload_n 1 dX9_sure_14 rfl rfl ?_
  refine aw_iald a0 (ea) (by omega) (by decide) dX9_sure_15 hM.2.2.2.2.1 ?_
  refine aw_toe 0 (rfl) ?_
  refine aw_dS [.int i, .int 0] [] lX9_126 sX9_isIn mX9_isIn dX9_sure_16 (X9_isIn0_f) rfl (Nat.le_of_ble_eq_true rfl) (by decide) (by decide) rfl ?_
  refine aw_if_ne 28 dX9_sure_19 (by decide) (fun c19 => absurd (by decide) c19) (fun c19 => ?_)
  refine aw_aload_n 0 dX9_sure_22 rfl rfl ?_
  refine aw_iconst (-1) dX9_sure_23 (by decide) ?_
  refine aw_eV [.int (-1)] [] lX9_130 vX9_refuse mX9_refuse dX9_sure_24 (X9_refuse1 hM) hM.1 rfl rfl rfl (Nat.le_of_ble_eq_true rfl) (by decide) (by decide) rfl (fun h25 q26 => ?_)
  exact aw_iret rfl dX9_sure_27 (by decide) (by decide) ⟨rfl, trivial⟩
set_option maxHeartbeats 4000000 in
theorem B10f {l : Launch} {G : xG} {h : List va_E} {a i b : Int32} (hM : xF9 G h) (hab : ¬ ((0 ≤ a.toInt ∧ a.toInt < 4) ∧ (0 ≤ b.toInt ∧ b.toInt < 4) ∧ a.toInt ≠ b.toInt)) : CE l G yX9_sure cX9_sure 4 (some .int) 2 0 0 [.ref (G.1 + 88), .int a, .int i, .int b] h (some (.int (-1))) (fun _ => True) := by
  refine cm_of rfl (Nat.le_of_ble_eq_true rfl) [(0, .ref (G.1 + 88)), (1, .int a), (2, .int i), (3, .int b)] rfl ?_
  refine aw_aload_n 0 dX9_sure_0 rfl rfl ?_
  refine aw_iload_n 1 dX9_sure_1 rfl rfl ?_
  refine aw_iload_n 3 dX9_sure_2 rfl rfl ?_
  refine aw_dV [.int a, .int b] [] lX9_184 vX9_areBooks mX9_areBooks dX9_sure_3 (X9_areBooks_f (by omega)) hM.1 rfl rfl rfl (Nat.le_of_ble_eq_true rfl) (by decide) (by decide) rfl ?_
  refine aw_if_eq 22 dX9_sure_6 (by decide) (fun c6 => ?_) (fun c6 => absurd (by decide) c6)
  refine aw_aload_n 0 dX9_sure_22 rfl rfl ?_
  refine aw_iconst (-1) dX9_sure_23 (by decide) ?_
  refine aw_eV [.int (-1)] [] lX9_130 vX9_refuse mX9_refuse dX9_sure_24 (X9_refuse1 hM) hM.1 rfl rfl rfl (Nat.le_of_ble_eq_true rfl) (by decide) (by decide) rfl (fun h27 q28 => ?_)
  exact aw_iret rfl dX9_sure_27 (by decide) (by decide) ⟨rfl, trivial⟩
theorem A10 {l : Launch} {G : xG} {h : List va_E} {a i b : Int32} (hF : xF8 G h) : CE l G yX8_sure cX8_sure 4 (some .int) 2 0 0 [.ref (G.1 + 0), .int a, .int i, .int b] h (some (.int (-1))) (kp h) := by
  by_cases hq : (0 ≤ a.toInt ∧ a.toInt < 4) ∧ (0 ≤ b.toInt ∧ b.toInt < 4) ∧ a.toInt ≠ b.toInt
  · exact A10t hF hq.1 hq.2.1 hq.2.2
  · exact A10f hF hq
theorem B10 {l : Launch} {G : xG} {h : List va_E} {a i b : Int32} (hM : xF9 G h) : CE l G yX9_sure cX9_sure 4 (some .int) 2 0 0 [.ref (G.1 + 88), .int a, .int i, .int b] h (some (.int (-1))) (fun _ => True) := by
  by_cases hq : (0 ≤ a.toInt ∧ a.toInt < 4) ∧ (0 ≤ b.toInt ∧ b.toInt < 4) ∧ a.toInt ≠ b.toInt
  · exact B10t hM hq.1 hq.2.1 hq.2.2
  · exact B10f hM hq
set_option maxHeartbeats 4000000 in
theorem A11 {l : Launch} {G : xG} {h : List va_E} {a i w z : Int32} (hF : xF8 G h)  : CE l G yX8_chain cX8_chain 5 (some .int) 2 0 0 [.ref (G.1 + 0), .int a, .int i, .int w, .int z] h (some (.int (-1))) (kp h) := by
  refine cm_of rfl (Nat.le_of_ble_eq_true rfl) [(0, .ref (G.1 + 0)), (1, .int a), (2, .int i), (3, .int w), (4, .int z)] rfl ?_
  refine aw_aload_n 0 dX8_chain_0 rfl rfl ?_
  refine aw_iload_n 1 dX8_chain_1 rfl rfl ?_
  refine aw_iload_n 2 dX8_chain_2 rfl rfl ?_
  refine aw_dV [.int a, .int i] [] lX8_107 vX8_isEntry mX8_isEntry dX8_chain_3 (X8_isEntry_f hF) hF.1 rfl rfl rfl (Nat.le_of_ble_eq_true rfl) (by decide) (by decide) rfl ?_
  refine aw_if_eq 17 dX8_chain_6 (by decide) (fun c6 => ?_) (fun c6 => absurd (by decide) c6)
  refine aw_aload_n 0 dX8_chain_17 rfl rfl ?_
  refine aw_iconst (-1) dX8_chain_18 (by decide) ?_
  refine aw_eV [.int (-1)] [] lX8_70 vX8_refuse mX8_refuse dX8_chain_19 (X8_refuse1 hF) hF.1 rfl rfl rfl (Nat.le_of_ble_eq_true rfl) (by decide) (by decide) rfl (fun h29 q30 => ?_)
  exact aw_iret rfl dX8_chain_22 (by decide) (by decide) ⟨rfl, (kp_tr (kp_rf h) q30)⟩
set_option maxHeartbeats 4000000 in
theorem B11 {l : Launch} {G : xG} {h : List va_E} {a i w z : Int32} (hM : xF9 G h)  : CE l G yX9_chain cX9_chain 15 (some .int) 2 0 0 [.ref (G.1 + 88), .int a, .int i, .int w, .int z] h (some (.int (-1))) (fun _ => True) := by
  refine cm_of rfl (Nat.le_of_ble_eq_true rfl) [(0, .ref (G.1 + 88)), (1, .int a), (2, .int i), (3, .int w), (4, .int z)] rfl ?_
  refine aw_aload_n 0 dX9_chain_0 rfl rfl ?_
  refine aw_iload_n 1 dX9_chain_1 rfl rfl ?_
  refine aw_iload_n 2 dX9_chain_2 rfl rfl ?_
  refine aw_dV [.int a, .int i] [] lX9_145 vX9_isEntry mX9_isEntry dX9_chain_3 (X9_isEntry_f hM) hM.1 rfl rfl rfl (Nat.le_of_ble_eq_true rfl) (by decide) (by decide) rfl ?_
  refine aw_if_eq 21 dX9_chain_6 (by decide) (fun c6 => ?_) (fun c6 => absurd (by decide) c6)
  refine aw_aload_n 0 dX9_chain_21 rfl rfl ?_
  refine aw_iconst (-1) dX9_chain_22 (by decide) ?_
  refine aw_eV [.int (-1)] [] lX9_130 vX9_refuse mX9_refuse dX9_chain_23 (X9_refuse1 hM) hM.1 rfl rfl rfl (Nat.le_of_ble_eq_true rfl) (by decide) (by decide) rfl (fun h31 q32 => ?_)
  exact aw_iret rfl dX9_chain_26 (by decide) (by decide) ⟨rfl, trivial⟩
set_option maxHeartbeats 4000000 in
theorem A12t {l : Launch} {G : xG} {h : List va_E} {a b k : Int32} (hF : xF8 G h) (ha : 0 ≤ a.toInt ∧ a.toInt < 4) : CE l G yX8_copied cX8_copied 6 (some .int) 2 0 0 [.ref (G.1 + 0), .int a, .int b, .int k] h (some (.int (-1))) (kp h) := by
  refine cm_of rfl (Nat.le_of_ble_eq_true rfl) [(0, .ref (G.1 + 0)), (1, .int a), (2, .int b), (3, .int k)] rfl ?_
  refine aw_iload_n 1 dX8_copied_0 rfl rfl ?_
  refine aw_dS [.int a] [] lX8_81 sX8_isCatalogue mX8_isCatalogue dX8_copied_1 (X8_isCatalogue_t (by omega)) rfl (Nat.le_of_ble_eq_true rfl) (by decide) (by decide) rfl ?_
  refine aw_if_eq 16 dX8_copied_4 (by decide) (fun c4 => absurd c4 (by decide)) (fun c4 => ?_)
  refine aw_aload_n 0 dX8_copied_7 rfl rfl ?_
  refine aw_iload_n 2 dX8_copied_8 rfl rfl ?_
  refine aw_iload_n 3 dX8_copied_9 rfl rfl ?_
  refine aw_dV [.int b, .int k] [] lX8_107 vX8_isEntry mX8_isEntry dX8_copied_10 (X8_isEntry_f hF) hF.1 rfl rfl rfl (Nat.le_of_ble_eq_true rfl) (by decide) (by decide) rfl ?_
  refine aw_if_ne 22 dX8_copied_13 (by decide) (fun c13 => absurd (by decide) c13) (fun c13 => ?_)
  refine aw_aload_n 0 dX8_copied_16 rfl rfl ?_
  refine aw_iconst (-1) dX8_copied_17 (by decide) ?_
  refine aw_eV [.int (-1)] [] lX8_70 vX8_refuse mX8_refuse dX8_copied_18 (X8_refuse1 hF) hF.1 rfl rfl rfl (Nat.le_of_ble_eq_true rfl) (by decide) (by decide) rfl (fun h33 q34 => ?_)
  exact aw_iret rfl dX8_copied_21 (by decide) (by decide) ⟨rfl, (kp_tr (kp_rf h) q34)⟩
set_option maxHeartbeats 4000000 in
theorem A12f {l : Launch} {G : xG} {h : List va_E} {a b k : Int32} (hF : xF8 G h) (ha : ¬ (0 ≤ a.toInt ∧ a.toInt < 4)) : CE l G yX8_copied cX8_copied 6 (some .int) 2 0 0 [.ref (G.1 + 0), .int a, .int b, .int k] h (some (.int (-1))) (kp h) := by
  refine cm_of rfl (Nat.le_of_ble_eq_true rfl) [(0, .ref (G.1 + 0)), (1, .int a), (2, .int b), (3, .int k)] rfl ?_
  refine aw_iload_n 1 dX8_copied_0 rfl rfl ?_
  refine aw_dS [.int a] [] lX8_81 sX8_isCatalogue mX8_isCatalogue dX8_copied_1 (X8_isCatalogue_f (by omega)) rfl (Nat.le_of_ble_eq_true rfl) (by decide) (by decide) rfl ?_
  refine aw_if_eq 16 dX8_copied_4 (by decide) (fun c4 => ?_) (fun c4 => absurd (by decide) c4)
  refine aw_aload_n 0 dX8_copied_16 rfl rfl ?_
  refine aw_iconst (-1) dX8_copied_17 (by decide) ?_
  refine aw_eV [.int (-1)] [] lX8_70 vX8_refuse mX8_refuse dX8_copied_18 (X8_refuse1 hF) hF.1 rfl rfl rfl (Nat.le_of_ble_eq_true rfl) (by decide) (by decide) rfl (fun h35 q36 => ?_)
  exact aw_iret rfl dX8_copied_21 (by decide) (by decide) ⟨rfl, (kp_tr (kp_rf h) q36)⟩
set_option maxHeartbeats 4000000 in
theorem B12t {l : Launch} {G : xG} {h : List va_E} {a b k : Int32} (hM : xF9 G h) (ha : 0 ≤ a.toInt ∧ a.toInt < 4) (hb : 0 ≤ b.toInt ∧ b.toInt < 4) (hab : a.toInt ≠ b.toInt) : CE l G yX9_copied cX9_copied 6 (some .int) 2 0 0 [.ref (G.1 + 88), .int a, .int b, .int k] h (some (.int (-1))) (fun _ => True) := by
  refine cm_of rfl (Nat.le_of_ble_eq_true rfl) [(0, .ref (G.1 + 88)), (1, .int a), (2, .int b), (3, .int k)] rfl ?_
  obtain ⟨b0, bb, eb⟩ := i_nat (N := 4) hb.1 hb.2
  refine aw_aload_n 0 dX9_copied_0 rfl rfl ?_
  refine aw_iload_n 1 dX9_copied_1 rfl rfl ?_
  refine aw_iload_n 2 dX9_copied_2 rfl rfl ?_
  refine aw_dV [.int a, .int b] [] lX9_184 vX9_areBooks mX9_areBooks dX9_copied_3 (X9_areBooks_t (by omega) (by omega) (by omega)) hM.1 rfl rfl rfl (Nat.le_of_ble_eq_true rfl) (by decide) (by decide) rfl ?_
  refine aw_if_eq 22 dX9_copied_6 (by decide) (fun c6 => absurd c6 (by decide)) (fun c6 => ?_)
  refine aw_iload_n 3 dX9_copied_9 rfl rfl ?_
  refine aw_aload_n 0 dX9_copied_10 rfl rfl ?_
  refine aw_get fX9_19 dX9_copied_11 hM.1 rfl ?_
  refine aw_iload_n 2 dX9_copied_14 rfl rfl ?_
  refine aw_iald b0 (eb) (by omega) (by decide) dX9_copied_15 hM.2.2.2.2.1 ?_
  refine aw_toe 0 (rfl) ?_
  refine aw_dS [.int k, .int 0] [] lX9_126 sX9_isIn mX9_isIn dX9_copied_16 (X9_isIn0_f) rfl (Nat.le_of_ble_eq_true rfl) (by decide) (by decide) rfl ?_
  refine aw_if_ne 28 dX9_copied_19 (by decide) (fun c19 => absurd (by decide) c19) (fun c19 => ?_)
  refine aw_aload_n 0 dX9_copied_22 rfl rfl ?_
  refine aw_iconst (-1) dX9_copied_23 (by decide) ?_
  refine aw_eV [.int (-1)] [] lX9_130 vX9_refuse mX9_refuse dX9_copied_24 (X9_refuse1 hM) hM.1 rfl rfl rfl (Nat.le_of_ble_eq_true rfl) (by decide) (by decide) rfl (fun h37 q38 => ?_)
  exact aw_iret rfl dX9_copied_27 (by decide) (by decide) ⟨rfl, trivial⟩
set_option maxHeartbeats 4000000 in
theorem B12f {l : Launch} {G : xG} {h : List va_E} {a b k : Int32} (hM : xF9 G h) (hab : ¬ ((0 ≤ a.toInt ∧ a.toInt < 4) ∧ (0 ≤ b.toInt ∧ b.toInt < 4) ∧ a.toInt ≠ b.toInt)) : CE l G yX9_copied cX9_copied 6 (some .int) 2 0 0 [.ref (G.1 + 88), .int a, .int b, .int k] h (some (.int (-1))) (fun _ => True) := by
  refine cm_of rfl (Nat.le_of_ble_eq_true rfl) [(0, .ref (G.1 + 88)), (1, .int a), (2, .int b), (3, .int k)] rfl ?_
  refine aw_aload_n 0 dX9_copied_0 rfl rfl ?_
  refine aw_iload_n 1 dX9_copied_1 rfl rfl ?_
  refine aw_iload_n 2 dX9_copied_2 rfl rfl ?_
  refine aw_dV [.int a, .int b] [] lX9_184 vX9_areBooks mX9_areBooks dX9_copied_3 (X9_areBooks_f (by omega)) hM.1 rfl rfl rfl (Nat.le_of_ble_eq_true rfl) (by decide) (by decide) rfl ?_
  refine aw_if_eq 22 dX9_copied_6 (by decide) (fun c6 => ?_) (fun c6 => absurd (by decide) c6)
  refine aw_aload_n 0 dX9_copied_22 rfl rfl ?_
  refine aw_iconst (-1) dX9_copied_23 (by decide) ?_
  refine aw_eV [.int (-1)] [] lX9_130 vX9_refuse mX9_refuse dX9_copied_24 (X9_refuse1 hM) hM.1 rfl rfl rfl (Nat.le_of_ble_eq_true rfl) (by decide) (by decide) rfl (fun h39 q40 => ?_)
  exact aw_iret rfl dX9_copied_27 (by decide) (by decide) ⟨rfl, trivial⟩
theorem A12 {l : Launch} {G : xG} {h : List va_E} {a b k : Int32} (hF : xF8 G h) : CE l G yX8_copied cX8_copied 6 (some .int) 2 0 0 [.ref (G.1 + 0), .int a, .int b, .int k] h (some (.int (-1))) (kp h) := by
  by_cases hq : 0 ≤ a.toInt ∧ a.toInt < 4
  · exact A12t hF hq
  · exact A12f hF hq
theorem B12 {l : Launch} {G : xG} {h : List va_E} {a b k : Int32} (hM : xF9 G h) : CE l G yX9_copied cX9_copied 6 (some .int) 2 0 0 [.ref (G.1 + 88), .int a, .int b, .int k] h (some (.int (-1))) (fun _ => True) := by
  by_cases hq : (0 ≤ a.toInt ∧ a.toInt < 4) ∧ (0 ≤ b.toInt ∧ b.toInt < 4) ∧ a.toInt ≠ b.toInt
  · exact B12t hM hq.1 hq.2.1 hq.2.2
  · exact B12f hM hq
set_option maxHeartbeats 4000000 in
theorem X5_addS {l : Launch} {G : xG} {h : List va_E} {t p d k : Int32} (hF : xF8 G h) : CE l G yX5_addRecord cX5_addRecord 8 (some .int) 0 0 0 [.ref (G.1 + 61), .int t, .int p, .int d, .int 0, .int k] h (some (.int 0)) (kp h) := by
  refine cm_of rfl (Nat.le_of_ble_eq_true rfl) [(0, .ref (G.1 + 61)), (1, .int t), (2, .int p), (3, .int d), (4, .int 0), (5, .int k)] rfl ?_
  refine aw_aload_n 0 dX5_addRecord_0 rfl rfl ?_
  refine aw_get fX5_33 dX5_addRecord_1 hF.2.2.2.2.2.2.2.2.2.2.2.2.2.1 rfl ?_
  refine aw_istore [(6, .int 0), (0, .ref (G.1 + 61)), (1, .int t), (2, .int p), (3, .int d), (4, .int 0), (5, .int k)] dX5_addRecord_4 (by decide) rfl ?_
  refine aw_aload_n 1 dX5_addRecord_6 rfl rfl ?_
  refine aw_get fX5_9 dX5_addRecord_7 hF.2.2.2.2.2.2.2.2.2.2.2.2.2.1 rfl ?_
  refine aw_iload 0 dX5_addRecord_10 rfl ?_
  refine aw_iload_n 2 dX5_addRecord_12 rfl rfl ?_
  refine aw_iast 0 (rfl) (by decide) (by decide) dX5_addRecord_13 hF.2.2.2.2.2.2.2.2.2.2.2.2.2.2.1 ?_
  refine aw_aload_n 1 dX5_addRecord_14 rfl rfl ?_
  refine aw_get fX5_15 dX5_addRecord_15 (gn (by decide) (hF.2.2.2.2.2.2.2.2.2.2.2.2.2.1)) rfl ?_
  refine aw_iload 0 dX5_addRecord_18 rfl ?_
  refine aw_iload_n 3 dX5_addRecord_20 rfl rfl ?_
  refine aw_iast 0 (rfl) (by decide) (by decide) dX5_addRecord_21 (gn (by decide) (hF.2.2.2.2.2.2.2.2.2.2.2.2.2.2.2.1)) ?_
  refine aw_aload_n 1 dX5_addRecord_22 rfl rfl ?_
  refine aw_get fX5_18 dX5_addRecord_23 (gn (by decide) (gn (by decide) (hF.2.2.2.2.2.2.2.2.2.2.2.2.2.1))) rfl ?_
  refine aw_iload 0 dX5_addRecord_26 rfl ?_
  refine aw_iload_n 4 dX5_addRecord_28 rfl rfl ?_
  refine aw_iast 0 (rfl) (by decide) (by decide) dX5_addRecord_29 (gn (by decide) (gn (by decide) (hF.2.2.2.2.2.2.2.2.2.2.2.2.2.2.2.2.1))) ?_
  refine aw_aload_n 1 dX5_addRecord_30 rfl rfl ?_
  refine aw_get fX5_21 dX5_addRecord_31 (gn (by decide) (gn (by decide) (gn (by decide) (hF.2.2.2.2.2.2.2.2.2.2.2.2.2.1)))) rfl ?_
  refine aw_iload 0 dX5_addRecord_34 rfl ?_
  refine aw_iload 5 dX5_addRecord_36 rfl ?_
  refine aw_iast 0 (rfl) (by decide) (by decide) dX5_addRecord_38 (gn (by decide) (gn (by decide) (gn (by decide) (hF.2.2.2.2.2.2.2.2.2.2.2.2.2.2.2.2.2.1)))) ?_
  refine aw_aload_n 1 dX5_addRecord_39 rfl rfl ?_
  refine aw_get fX5_24 dX5_addRecord_40 (gn (by decide) (gn (by decide) (gn (by decide) (gn (by decide) (hF.2.2.2.2.2.2.2.2.2.2.2.2.2.1))))) rfl ?_
  refine aw_iload 0 dX5_addRecord_43 rfl ?_
  refine aw_iload 6 dX5_addRecord_45 rfl ?_
  refine aw_iast 0 (rfl) (by decide) (by decide) dX5_addRecord_47 (gn (by decide) (gn (by decide) (gn (by decide) (gn (by decide) (hF.2.2.2.2.2.2.2.2.2.2.2.2.2.2.2.2.2.2.1))))) ?_
  refine aw_aload_n 1 dX5_addRecord_48 rfl rfl ?_
  refine aw_get fX5_27 dX5_addRecord_49 (gn (by decide) (gn (by decide) (gn (by decide) (gn (by decide) (gn (by decide) (hF.2.2.2.2.2.2.2.2.2.2.2.2.2.1)))))) rfl ?_
  refine aw_iload 0 dX5_addRecord_52 rfl ?_
  refine aw_ldc (80001) kX5_40 dX5_addRecord_54 ?_
  refine aw_iast 0 (rfl) (by decide) (by decide) dX5_addRecord_56 (gn (by decide) (gn (by decide) (gn (by decide) (gn (by decide) (gn (by decide) (hF.2.2.2.2.2.2.2.2.2.2.2.2.2.2.2.2.2.2.2.1)))))) ?_
  refine aw_iload 0 dX5_addRecord_57 rfl ?_
  refine aw_istore [(7, .int 0), (6, .int 0), (0, .ref (G.1 + 61)), (1, .int t), (2, .int p), (3, .int d), (4, .int 0), (5, .int k)] dX5_addRecord_59 (by decide) rfl ?_
  refine aw_iload 0 dX5_addRecord_61 rfl ?_
  refine aw_if_le 106 dX5_addRecord_63 (by decide) (fun c63 => ?_) (fun c63 => absurd (by decide) c63)
  refine aw_aload_n 2 dX5_addRecord_106 rfl rfl ?_
  refine aw_get fX5_30 dX5_addRecord_107 (gn (by decide) (gn (by decide) (gn (by decide) (gn (by decide) (gn (by decide) (gn (by decide) (hF.2.2.2.2.2.2.2.2.2.2.2.2.2.1))))))) rfl ?_
  refine aw_iload 0 dX5_addRecord_110 rfl ?_
  refine aw_iload 1 dX5_addRecord_112 rfl ?_
  refine aw_iast 0 (rfl) (by decide) (by decide) dX5_addRecord_114 (gn (by decide) (gn (by decide) (gn (by decide) (gn (by decide) (gn (by decide) (gn (by decide) (hF.2.2.2.2.2.2.2.2.2.2.2.2.2.2.2.2.2.2.2.2.1))))))) ?_
  refine aw_aload_n 2 dX5_addRecord_115 rfl rfl ?_
  refine aw_iload 1 dX5_addRecord_116 rfl ?_
  refine aw_iconst (1) dX5_addRecord_118 (by decide) ?_
  refine aw_iadd dX5_addRecord_119 ?_
  refine aw_toe 1 (by decide) ?_
  refine aw_putQ fX5_33 dX5_addRecord_120 [.ref (G.1 + 62), .ref (G.1 + 63), .ref (G.1 + 64), .ref (G.1 + 65), .ref (G.1 + 66), .ref (G.1 + 67), .ref (G.1 + 68), .int 1, .int 0] (gn (by decide) (gn (by decide) (gn (by decide) (gn (by decide) (gn (by decide) (gn (by decide) (gn (by decide) (hF.2.2.2.2.2.2.2.2.2.2.2.2.2.1)))))))) rfl rfl rfl (Nat.le_of_ble_eq_true rfl) rfl ?_
  refine aw_iload 1 dX5_addRecord_123 rfl ?_
  exact aw_iret rfl dX5_addRecord_125 (by decide) (by decide) ⟨rfl, kp_set (kp_set (kp_set (kp_set (kp_set (kp_set (kp_set (kp_set (kp_rf h) (by decide)) (by decide)) (by decide)) (by decide)) (by decide)) (by decide)) (by decide)) (by decide)⟩
set_option maxHeartbeats 4000000 in
theorem X5_addM {l : Launch} {G : xG} {h : List va_E} {t p d s k : Int32} (hF : xF8 G h) : CE l G yX5_addRecord cX5_addRecord 8 (some .int) 0 0 0 [.ref (G.1 + 69), .int t, .int p, .int d, .int s, .int k] h (some (.int 0)) (kp h) := by
  refine cm_of rfl (Nat.le_of_ble_eq_true rfl) [(0, .ref (G.1 + 69)), (1, .int t), (2, .int p), (3, .int d), (4, .int s), (5, .int k)] rfl ?_
  refine aw_aload_n 0 dX5_addRecord_0 rfl rfl ?_
  refine aw_get fX5_33 dX5_addRecord_1 hF.2.2.2.2.2.2.2.2.2.2.2.2.2.2.2.2.2.2.2.2.2.1 rfl ?_
  refine aw_istore [(6, .int 0), (0, .ref (G.1 + 69)), (1, .int t), (2, .int p), (3, .int d), (4, .int s), (5, .int k)] dX5_addRecord_4 (by decide) rfl ?_
  refine aw_aload_n 1 dX5_addRecord_6 rfl rfl ?_
  refine aw_get fX5_9 dX5_addRecord_7 hF.2.2.2.2.2.2.2.2.2.2.2.2.2.2.2.2.2.2.2.2.2.1 rfl ?_
  refine aw_iload 0 dX5_addRecord_10 rfl ?_
  refine aw_iload_n 2 dX5_addRecord_12 rfl rfl ?_
  refine aw_iast 0 (rfl) (by decide) (by decide) dX5_addRecord_13 hF.2.2.2.2.2.2.2.2.2.2.2.2.2.2.2.2.2.2.2.2.2.2.1 ?_
  refine aw_aload_n 1 dX5_addRecord_14 rfl rfl ?_
  refine aw_get fX5_15 dX5_addRecord_15 (gn (by decide) (hF.2.2.2.2.2.2.2.2.2.2.2.2.2.2.2.2.2.2.2.2.2.1)) rfl ?_
  refine aw_iload 0 dX5_addRecord_18 rfl ?_
  refine aw_iload_n 3 dX5_addRecord_20 rfl rfl ?_
  refine aw_iast 0 (rfl) (by decide) (by decide) dX5_addRecord_21 (gn (by decide) (hF.2.2.2.2.2.2.2.2.2.2.2.2.2.2.2.2.2.2.2.2.2.2.2.1)) ?_
  refine aw_aload_n 1 dX5_addRecord_22 rfl rfl ?_
  refine aw_get fX5_18 dX5_addRecord_23 (gn (by decide) (gn (by decide) (hF.2.2.2.2.2.2.2.2.2.2.2.2.2.2.2.2.2.2.2.2.2.1))) rfl ?_
  refine aw_iload 0 dX5_addRecord_26 rfl ?_
  refine aw_iload_n 4 dX5_addRecord_28 rfl rfl ?_
  refine aw_iast 0 (rfl) (by decide) (by decide) dX5_addRecord_29 (gn (by decide) (gn (by decide) (hF.2.2.2.2.2.2.2.2.2.2.2.2.2.2.2.2.2.2.2.2.2.2.2.2.1))) ?_
  refine aw_aload_n 1 dX5_addRecord_30 rfl rfl ?_
  refine aw_get fX5_21 dX5_addRecord_31 (gn (by decide) (gn (by decide) (gn (by decide) (hF.2.2.2.2.2.2.2.2.2.2.2.2.2.2.2.2.2.2.2.2.2.1)))) rfl ?_
  refine aw_iload 0 dX5_addRecord_34 rfl ?_
  refine aw_iload 5 dX5_addRecord_36 rfl ?_
  refine aw_iast 0 (rfl) (by decide) (by decide) dX5_addRecord_38 (gn (by decide) (gn (by decide) (gn (by decide) (hF.2.2.2.2.2.2.2.2.2.2.2.2.2.2.2.2.2.2.2.2.2.2.2.2.2.1)))) ?_
  refine aw_aload_n 1 dX5_addRecord_39 rfl rfl ?_
  refine aw_get fX5_24 dX5_addRecord_40 (gn (by decide) (gn (by decide) (gn (by decide) (gn (by decide) (hF.2.2.2.2.2.2.2.2.2.2.2.2.2.2.2.2.2.2.2.2.2.1))))) rfl ?_
  refine aw_iload 0 dX5_addRecord_43 rfl ?_
  refine aw_iload 6 dX5_addRecord_45 rfl ?_
  refine aw_iast 0 (rfl) (by decide) (by decide) dX5_addRecord_47 (gn (by decide) (gn (by decide) (gn (by decide) (gn (by decide) (hF.2.2.2.2.2.2.2.2.2.2.2.2.2.2.2.2.2.2.2.2.2.2.2.2.2.2.1))))) ?_
  refine aw_aload_n 1 dX5_addRecord_48 rfl rfl ?_
  refine aw_get fX5_27 dX5_addRecord_49 (gn (by decide) (gn (by decide) (gn (by decide) (gn (by decide) (gn (by decide) (hF.2.2.2.2.2.2.2.2.2.2.2.2.2.2.2.2.2.2.2.2.2.1)))))) rfl ?_
  refine aw_iload 0 dX5_addRecord_52 rfl ?_
  refine aw_ldc (80001) kX5_40 dX5_addRecord_54 ?_
  refine aw_iast 0 (rfl) (by decide) (by decide) dX5_addRecord_56 (gn (by decide) (gn (by decide) (gn (by decide) (gn (by decide) (gn (by decide) (hF.2.2.2.2.2.2.2.2.2.2.2.2.2.2.2.2.2.2.2.2.2.2.2.2.2.2.2.1)))))) ?_
  refine aw_iload 0 dX5_addRecord_57 rfl ?_
  refine aw_istore [(7, .int 0), (6, .int 0), (0, .ref (G.1 + 69)), (1, .int t), (2, .int p), (3, .int d), (4, .int s), (5, .int k)] dX5_addRecord_59 (by decide) rfl ?_
  refine aw_iload 0 dX5_addRecord_61 rfl ?_
  refine aw_if_le 106 dX5_addRecord_63 (by decide) (fun c63 => ?_) (fun c63 => absurd (by decide) c63)
  refine aw_aload_n 2 dX5_addRecord_106 rfl rfl ?_
  refine aw_get fX5_30 dX5_addRecord_107 (gn (by decide) (gn (by decide) (gn (by decide) (gn (by decide) (gn (by decide) (gn (by decide) (hF.2.2.2.2.2.2.2.2.2.2.2.2.2.2.2.2.2.2.2.2.2.1))))))) rfl ?_
  refine aw_iload 0 dX5_addRecord_110 rfl ?_
  refine aw_iload 1 dX5_addRecord_112 rfl ?_
  refine aw_iast 0 (rfl) (by decide) (by decide) dX5_addRecord_114 (gn (by decide) (gn (by decide) (gn (by decide) (gn (by decide) (gn (by decide) (gn (by decide) (hF.2.2.2.2.2.2.2.2.2.2.2.2.2.2.2.2.2.2.2.2.2.2.2.2.2.2.2.2.1))))))) ?_
  refine aw_aload_n 2 dX5_addRecord_115 rfl rfl ?_
  refine aw_iload 1 dX5_addRecord_116 rfl ?_
  refine aw_iconst (1) dX5_addRecord_118 (by decide) ?_
  refine aw_iadd dX5_addRecord_119 ?_
  refine aw_toe 1 (by decide) ?_
  refine aw_putQ fX5_33 dX5_addRecord_120 [.ref (G.1 + 70), .ref (G.1 + 71), .ref (G.1 + 72), .ref (G.1 + 73), .ref (G.1 + 74), .ref (G.1 + 75), .ref (G.1 + 76), .int 1, .int 0] (gn (by decide) (gn (by decide) (gn (by decide) (gn (by decide) (gn (by decide) (gn (by decide) (gn (by decide) (hF.2.2.2.2.2.2.2.2.2.2.2.2.2.2.2.2.2.2.2.2.2.1)))))))) rfl rfl rfl (Nat.le_of_ble_eq_true rfl) rfl ?_
  refine aw_iload 1 dX5_addRecord_123 rfl ?_
  exact aw_iret rfl dX5_addRecord_125 (by decide) (by decide) ⟨rfl, kp_set (kp_set (kp_set (kp_set (kp_set (kp_set (kp_set (kp_set (kp_rf h) (by decide)) (by decide)) (by decide)) (by decide)) (by decide)) (by decide)) (by decide)) (by decide)⟩
set_option maxHeartbeats 4000000 in
theorem A13t {l : Launch} {G : xG} {h : List va_E} {t p d k : Int32} (hF : xF8 G h) (ht : ¬ (0 ≤ t.toInt ∧ t.toInt < 12)) : CE l G yX8_sight cX8_sight 6 (some .int) 2 0 0 [.ref (G.1 + 0), .int t, .int p, .int d, .int k] h (some (.int (-1))) (kp h) := by
  refine cm_of rfl (Nat.le_of_ble_eq_true rfl) [(0, .ref (G.1 + 0)), (1, .int t), (2, .int p), (3, .int d), (4, .int k)] rfl ?_
  refine aw_iload_n 1 dX8_sight_0 rfl rfl ?_
  refine aw_dS [.int t] [] lX8_154 sX8_isThing mX8_isThing dX8_sight_1 (X8_isThing_f (by omega)) rfl (Nat.le_of_ble_eq_true rfl) (by decide) (by decide) rfl ?_
  refine aw_if_eq 17 dX8_sight_4 (by decide) (fun c4 => ?_) (fun c4 => absurd (by decide) c4)
  refine aw_aload_n 0 dX8_sight_17 rfl rfl ?_
  refine aw_iconst (-1) dX8_sight_18 (by decide) ?_
  refine aw_eV [.int (-1)] [] lX8_70 vX8_refuse mX8_refuse dX8_sight_19 (X8_refuse1 hF) hF.1 rfl rfl rfl (Nat.le_of_ble_eq_true rfl) (by decide) (by decide) rfl (fun h41 q42 => ?_)
  exact aw_iret rfl dX8_sight_22 (by decide) (by decide) ⟨rfl, (kp_tr (kp_rf h) q42)⟩
set_option maxHeartbeats 4000000 in
theorem B13t {l : Launch} {G : xG} {h : List va_E} {t p d k : Int32} (hM : xF9 G h) (ht : ¬ (0 ≤ t.toInt ∧ t.toInt < 12)) : CE l G yX9_sight cX9_sight 6 (some .int) 2 0 0 [.ref (G.1 + 88), .int t, .int p, .int d, .int k] h (some (.int (-1))) (fun _ => True) := by
  refine cm_of rfl (Nat.le_of_ble_eq_true rfl) [(0, .ref (G.1 + 88)), (1, .int t), (2, .int p), (3, .int d), (4, .int k)] rfl ?_
  refine aw_iload_n 1 dX9_sight_0 rfl rfl ?_
  refine aw_bipush (12) dX9_sight_1 (by decide) ?_
  refine aw_dS [.int t, .int 12] [] lX9_126 sX9_isIn mX9_isIn dX9_sight_3 (X9_isIn12_f (by omega)) rfl (Nat.le_of_ble_eq_true rfl) (by decide) (by decide) rfl ?_
  refine aw_if_eq 27 dX9_sight_6 (by decide) (fun c6 => ?_) (fun c6 => absurd (by decide) c6)
  refine aw_iconst (-1) dX9_sight_27 (by decide) ?_
  refine aw_istore [(5, .int (-1)), (0, .ref (G.1 + 88)), (1, .int t), (2, .int p), (3, .int d), (4, .int k)] dX9_sight_28 (by decide) rfl ?_
  refine aw_iload 0 dX9_sight_30 rfl ?_
  refine aw_if_ne 48 dX9_sight_32 (by decide) (fun c32 => ?_) (fun c32 => absurd c32 (by decide))
  refine aw_iload 0 dX9_sight_48 rfl ?_
  refine aw_if_eq 60 dX9_sight_50 (by decide) (fun c50 => absurd c50 (by decide)) (fun c50 => ?_)
  refine aw_aload_n 1 dX9_sight_53 rfl rfl ?_
  refine aw_iload 0 dX9_sight_54 rfl ?_
  refine aw_eV [.int (-1)] [] lX9_130 vX9_refuse mX9_refuse dX9_sight_56 (X9_refuse1 hM) hM.1 rfl rfl rfl (Nat.le_of_ble_eq_true rfl) (by decide) (by decide) rfl (fun h43 q44 => ?_)
  exact aw_iret rfl dX9_sight_59 (by decide) (by decide) ⟨rfl, trivial⟩
set_option maxHeartbeats 4000000 in
theorem A13p {l : Launch} {G : xG} {h : List va_E} {t p d k : Int32} (hF : xF8 G h) (ht : 0 ≤ t.toInt ∧ t.toInt < 12)(hp : p.toInt < 0) : CE l G yX8_sight cX8_sight 6 (some .int) 2 0 0 [.ref (G.1 + 0), .int t, .int p, .int d, .int k] h (some (.int (-1))) (kp h) := by
  refine cm_of rfl (Nat.le_of_ble_eq_true rfl) [(0, .ref (G.1 + 0)), (1, .int t), (2, .int p), (3, .int d), (4, .int k)] rfl ?_
  refine aw_iload_n 1 dX8_sight_0 rfl rfl ?_
  refine aw_dS [.int t] [] lX8_154 sX8_isThing mX8_isThing dX8_sight_1 (X8_isThing_t (by omega)) rfl (Nat.le_of_ble_eq_true rfl) (by decide) (by decide) rfl ?_
  refine aw_if_eq 17 dX8_sight_4 (by decide) (fun c4 => absurd c4 (by decide)) (fun c4 => ?_)
  refine aw_iload_n 2 dX8_sight_7 rfl rfl ?_
  refine aw_if_lt 17 dX8_sight_8 (by decide) (fun c8 => ?_) (fun c8 => absurd (by simp only [i_lt, (show (0 : Int32).toInt = 0 from rfl)] <;> omega) c8)
  refine aw_aload_n 0 dX8_sight_17 rfl rfl ?_
  refine aw_iconst (-1) dX8_sight_18 (by decide) ?_
  refine aw_eV [.int (-1)] [] lX8_70 vX8_refuse mX8_refuse dX8_sight_19 (X8_refuse1 hF) hF.1 rfl rfl rfl (Nat.le_of_ble_eq_true rfl) (by decide) (by decide) rfl (fun h45 q46 => ?_)
  exact aw_iret rfl dX8_sight_22 (by decide) (by decide) ⟨rfl, (kp_tr (kp_rf h) q46)⟩
set_option maxHeartbeats 4000000 in
theorem B13p {l : Launch} {G : xG} {h : List va_E} {t p d k : Int32} (hM : xF9 G h) (ht : 0 ≤ t.toInt ∧ t.toInt < 12)(hp : p.toInt < 0) : CE l G yX9_sight cX9_sight 6 (some .int) 2 0 0 [.ref (G.1 + 88), .int t, .int p, .int d, .int k] h (some (.int (-1))) (fun _ => True) := by
  refine cm_of rfl (Nat.le_of_ble_eq_true rfl) [(0, .ref (G.1 + 88)), (1, .int t), (2, .int p), (3, .int d), (4, .int k)] rfl ?_
  refine aw_iload_n 1 dX9_sight_0 rfl rfl ?_
  refine aw_bipush (12) dX9_sight_1 (by decide) ?_
  refine aw_dS [.int t, .int 12] [] lX9_126 sX9_isIn mX9_isIn dX9_sight_3 (X9_isIn12_t (by omega)) rfl (Nat.le_of_ble_eq_true rfl) (by decide) (by decide) rfl ?_
  refine aw_if_eq 27 dX9_sight_6 (by decide) (fun c6 => absurd c6 (by decide)) (fun c6 => ?_)
  refine aw_iload_n 2 dX9_sight_9 rfl rfl ?_
  refine aw_bipush (8) dX9_sight_10 (by decide) ?_
  refine aw_dS [.int p, .int 8] [] lX9_126 sX9_isIn mX9_isIn dX9_sight_12 (X9_isIn8_f (by omega)) rfl (Nat.le_of_ble_eq_true rfl) (by decide) (by decide) rfl ?_
  refine aw_if_eq 27 dX9_sight_15 (by decide) (fun c15 => ?_) (fun c15 => absurd (by decide) c15)
  refine aw_iconst (-1) dX9_sight_27 (by decide) ?_
  refine aw_istore [(5, .int (-1)), (0, .ref (G.1 + 88)), (1, .int t), (2, .int p), (3, .int d), (4, .int k)] dX9_sight_28 (by decide) rfl ?_
  refine aw_iload 0 dX9_sight_30 rfl ?_
  refine aw_if_ne 48 dX9_sight_32 (by decide) (fun c32 => ?_) (fun c32 => absurd c32 (by decide))
  refine aw_iload 0 dX9_sight_48 rfl ?_
  refine aw_if_eq 60 dX9_sight_50 (by decide) (fun c50 => absurd c50 (by decide)) (fun c50 => ?_)
  refine aw_aload_n 1 dX9_sight_53 rfl rfl ?_
  refine aw_iload 0 dX9_sight_54 rfl ?_
  refine aw_eV [.int (-1)] [] lX9_130 vX9_refuse mX9_refuse dX9_sight_56 (X9_refuse1 hM) hM.1 rfl rfl rfl (Nat.le_of_ble_eq_true rfl) (by decide) (by decide) rfl (fun h47 q48 => ?_)
  exact aw_iret rfl dX9_sight_59 (by decide) (by decide) ⟨rfl, trivial⟩
set_option maxHeartbeats 4000000 in
theorem A13q {l : Launch} {G : xG} {h : List va_E} {t p d k : Int32} (hF : xF8 G h) (ht : 0 ≤ t.toInt ∧ t.toInt < 12)(hp : 8 ≤ p.toInt) : CE l G yX8_sight cX8_sight 6 (some .int) 2 0 0 [.ref (G.1 + 0), .int t, .int p, .int d, .int k] h (some (.int (-1))) (kp h) := by
  refine cm_of rfl (Nat.le_of_ble_eq_true rfl) [(0, .ref (G.1 + 0)), (1, .int t), (2, .int p), (3, .int d), (4, .int k)] rfl ?_
  refine aw_iload_n 1 dX8_sight_0 rfl rfl ?_
  refine aw_dS [.int t] [] lX8_154 sX8_isThing mX8_isThing dX8_sight_1 (X8_isThing_t (by omega)) rfl (Nat.le_of_ble_eq_true rfl) (by decide) (by decide) rfl ?_
  refine aw_if_eq 17 dX8_sight_4 (by decide) (fun c4 => absurd c4 (by decide)) (fun c4 => ?_)
  refine aw_iload_n 2 dX8_sight_7 rfl rfl ?_
  refine aw_if_lt 17 dX8_sight_8 (by decide) (fun c8 => absurd c8 (by simp only [i_lt, (show (0 : Int32).toInt = 0 from rfl)] <;> omega)) (fun c8 => ?_)
  refine aw_iload_n 2 dX8_sight_11 rfl rfl ?_
  refine aw_bipush (8) dX8_sight_12 (by decide) ?_
  refine aw_icmp_lt 23 dX8_sight_14 (by decide) (fun c14 => absurd c14 (by simp only [i_lt, (show (8 : Int32).toInt = 8 from rfl)] <;> omega)) (fun c14 => ?_)
  refine aw_aload_n 0 dX8_sight_17 rfl rfl ?_
  refine aw_iconst (-1) dX8_sight_18 (by decide) ?_
  refine aw_eV [.int (-1)] [] lX8_70 vX8_refuse mX8_refuse dX8_sight_19 (X8_refuse1 hF) hF.1 rfl rfl rfl (Nat.le_of_ble_eq_true rfl) (by decide) (by decide) rfl (fun h49 q50 => ?_)
  exact aw_iret rfl dX8_sight_22 (by decide) (by decide) ⟨rfl, (kp_tr (kp_rf h) q50)⟩
set_option maxHeartbeats 4000000 in
theorem B13q {l : Launch} {G : xG} {h : List va_E} {t p d k : Int32} (hM : xF9 G h) (ht : 0 ≤ t.toInt ∧ t.toInt < 12)(hp : 8 ≤ p.toInt) : CE l G yX9_sight cX9_sight 6 (some .int) 2 0 0 [.ref (G.1 + 88), .int t, .int p, .int d, .int k] h (some (.int (-1))) (fun _ => True) := by
  refine cm_of rfl (Nat.le_of_ble_eq_true rfl) [(0, .ref (G.1 + 88)), (1, .int t), (2, .int p), (3, .int d), (4, .int k)] rfl ?_
  refine aw_iload_n 1 dX9_sight_0 rfl rfl ?_
  refine aw_bipush (12) dX9_sight_1 (by decide) ?_
  refine aw_dS [.int t, .int 12] [] lX9_126 sX9_isIn mX9_isIn dX9_sight_3 (X9_isIn12_t (by omega)) rfl (Nat.le_of_ble_eq_true rfl) (by decide) (by decide) rfl ?_
  refine aw_if_eq 27 dX9_sight_6 (by decide) (fun c6 => absurd c6 (by decide)) (fun c6 => ?_)
  refine aw_iload_n 2 dX9_sight_9 rfl rfl ?_
  refine aw_bipush (8) dX9_sight_10 (by decide) ?_
  refine aw_dS [.int p, .int 8] [] lX9_126 sX9_isIn mX9_isIn dX9_sight_12 (X9_isIn8_f (by omega)) rfl (Nat.le_of_ble_eq_true rfl) (by decide) (by decide) rfl ?_
  refine aw_if_eq 27 dX9_sight_15 (by decide) (fun c15 => ?_) (fun c15 => absurd (by decide) c15)
  refine aw_iconst (-1) dX9_sight_27 (by decide) ?_
  refine aw_istore [(5, .int (-1)), (0, .ref (G.1 + 88)), (1, .int t), (2, .int p), (3, .int d), (4, .int k)] dX9_sight_28 (by decide) rfl ?_
  refine aw_iload 0 dX9_sight_30 rfl ?_
  refine aw_if_ne 48 dX9_sight_32 (by decide) (fun c32 => ?_) (fun c32 => absurd c32 (by decide))
  refine aw_iload 0 dX9_sight_48 rfl ?_
  refine aw_if_eq 60 dX9_sight_50 (by decide) (fun c50 => absurd c50 (by decide)) (fun c50 => ?_)
  refine aw_aload_n 1 dX9_sight_53 rfl rfl ?_
  refine aw_iload 0 dX9_sight_54 rfl ?_
  refine aw_eV [.int (-1)] [] lX9_130 vX9_refuse mX9_refuse dX9_sight_56 (X9_refuse1 hM) hM.1 rfl rfl rfl (Nat.le_of_ble_eq_true rfl) (by decide) (by decide) rfl (fun h51 q52 => ?_)
  exact aw_iret rfl dX9_sight_59 (by decide) (by decide) ⟨rfl, trivial⟩
set_option maxHeartbeats 4000000 in
theorem A13a {l : Launch} {G : xG} {h : List va_E} {t p d k : Int32} (hF : xF8 G h) (ht : 0 ≤ t.toInt ∧ t.toInt < 12)(hp : 0 ≤ p.toInt ∧ p.toInt < 8)(h0 : d.toInt < 0) : CE l G yX8_sight cX8_sight 6 (some .int) 2 0 0 [.ref (G.1 + 0), .int t, .int p, .int d, .int k] h (some (.int (-4))) (kp h) := by
  refine cm_of rfl (Nat.le_of_ble_eq_true rfl) [(0, .ref (G.1 + 0)), (1, .int t), (2, .int p), (3, .int d), (4, .int k)] rfl ?_
  refine aw_iload_n 1 dX8_sight_0 rfl rfl ?_
  refine aw_dS [.int t] [] lX8_154 sX8_isThing mX8_isThing dX8_sight_1 (X8_isThing_t (by omega)) rfl (Nat.le_of_ble_eq_true rfl) (by decide) (by decide) rfl ?_
  refine aw_if_eq 17 dX8_sight_4 (by decide) (fun c4 => absurd c4 (by decide)) (fun c4 => ?_)
  refine aw_iload_n 2 dX8_sight_7 rfl rfl ?_
  refine aw_if_lt 17 dX8_sight_8 (by decide) (fun c8 => absurd c8 (by simp only [i_lt, (show (0 : Int32).toInt = 0 from rfl)] <;> omega)) (fun c8 => ?_)
  refine aw_iload_n 2 dX8_sight_11 rfl rfl ?_
  refine aw_bipush (8) dX8_sight_12 (by decide) ?_
  refine aw_icmp_lt 23 dX8_sight_14 (by decide) (fun c14 => ?_) (fun c14 => absurd (by simp only [i_lt, (show (8 : Int32).toInt = 8 from rfl)] <;> omega) c14)
  refine aw_iload_n 3 dX8_sight_23 rfl rfl ?_
  refine aw_iload 4 dX8_sight_24 rfl ?_
  refine aw_dS [.int d, .int k] [] lX8_157 sX8_daysRefusal mX8_daysRefusal dX8_sight_26 (X8_daysRefusal_a (by omega)) rfl (Nat.le_of_ble_eq_true rfl) (by decide) (by decide) rfl ?_
  refine aw_istore [(5, .int (-4)), (0, .ref (G.1 + 0)), (1, .int t), (2, .int p), (3, .int d), (4, .int k)] dX8_sight_29 (by decide) rfl ?_
  refine aw_iload 0 dX8_sight_31 rfl ?_
  refine aw_if_eq 43 dX8_sight_33 (by decide) (fun c33 => absurd c33 (by decide)) (fun c33 => ?_)
  refine aw_aload_n 1 dX8_sight_36 rfl rfl ?_
  refine aw_iload 0 dX8_sight_37 rfl ?_
  refine aw_eV [.int (-4)] [] lX8_70 vX8_refuse mX8_refuse dX8_sight_39 (X8_refuse4 hF) hF.1 rfl rfl rfl (Nat.le_of_ble_eq_true rfl) (by decide) (by decide) rfl (fun h53 q54 => ?_)
  exact aw_iret rfl dX8_sight_42 (by decide) (by decide) ⟨rfl, (kp_tr (kp_rf h) q54)⟩
set_option maxHeartbeats 4000000 in
theorem B13a {l : Launch} {G : xG} {h : List va_E} {t p d k : Int32} (hM : xF9 G h) (ht : 0 ≤ t.toInt ∧ t.toInt < 12)(hp : 0 ≤ p.toInt ∧ p.toInt < 8)(h0 : d.toInt < 0) : CE l G yX9_sight cX9_sight 6 (some .int) 2 0 0 [.ref (G.1 + 88), .int t, .int p, .int d, .int k] h (some (.int (-4))) (fun _ => True) := by
  refine cm_of rfl (Nat.le_of_ble_eq_true rfl) [(0, .ref (G.1 + 88)), (1, .int t), (2, .int p), (3, .int d), (4, .int k)] rfl ?_
  refine aw_iload_n 1 dX9_sight_0 rfl rfl ?_
  refine aw_bipush (12) dX9_sight_1 (by decide) ?_
  refine aw_dS [.int t, .int 12] [] lX9_126 sX9_isIn mX9_isIn dX9_sight_3 (X9_isIn12_t (by omega)) rfl (Nat.le_of_ble_eq_true rfl) (by decide) (by decide) rfl ?_
  refine aw_if_eq 27 dX9_sight_6 (by decide) (fun c6 => absurd c6 (by decide)) (fun c6 => ?_)
  refine aw_iload_n 2 dX9_sight_9 rfl rfl ?_
  refine aw_bipush (8) dX9_sight_10 (by decide) ?_
  refine aw_dS [.int p, .int 8] [] lX9_126 sX9_isIn mX9_isIn dX9_sight_12 (X9_isIn8_t (by omega)) rfl (Nat.le_of_ble_eq_true rfl) (by decide) (by decide) rfl ?_
  refine aw_if_eq 27 dX9_sight_15 (by decide) (fun c15 => absurd c15 (by decide)) (fun c15 => ?_)
  refine aw_iload_n 3 dX9_sight_18 rfl rfl ?_
  refine aw_iload 4 dX9_sight_19 rfl ?_
  refine aw_dS [.int d, .int k] [] lX9_195 sX9_wrongDays mX9_wrongDays dX9_sight_21 (X9_wrongDays_a (by omega)) rfl (Nat.le_of_ble_eq_true rfl) (by decide) (by decide) rfl ?_
  refine aw_goto 28 dX9_sight_24 (by decide) ?_
  refine aw_istore [(5, .int (-4)), (0, .ref (G.1 + 88)), (1, .int t), (2, .int p), (3, .int d), (4, .int k)] dX9_sight_28 (by decide) rfl ?_
  refine aw_iload 0 dX9_sight_30 rfl ?_
  refine aw_if_ne 48 dX9_sight_32 (by decide) (fun c32 => ?_) (fun c32 => absurd c32 (by decide))
  refine aw_iload 0 dX9_sight_48 rfl ?_
  refine aw_if_eq 60 dX9_sight_50 (by decide) (fun c50 => absurd c50 (by decide)) (fun c50 => ?_)
  refine aw_aload_n 1 dX9_sight_53 rfl rfl ?_
  refine aw_iload 0 dX9_sight_54 rfl ?_
  refine aw_eV [.int (-4)] [] lX9_130 vX9_refuse mX9_refuse dX9_sight_56 (X9_refuse4 hM) hM.1 rfl rfl rfl (Nat.le_of_ble_eq_true rfl) (by decide) (by decide) rfl (fun h55 q56 => ?_)
  exact aw_iret rfl dX9_sight_59 (by decide) (by decide) ⟨rfl, trivial⟩
set_option maxHeartbeats 4000000 in
theorem A13b {l : Launch} {G : xG} {h : List va_E} {t p d k : Int32} (hF : xF8 G h) (ht : 0 ≤ t.toInt ∧ t.toInt < 12)(hp : 0 ≤ p.toInt ∧ p.toInt < 8)(h0 : 0 ≤ d.toInt) (h1 : k.toInt < 0) : CE l G yX8_sight cX8_sight 6 (some .int) 2 0 0 [.ref (G.1 + 0), .int t, .int p, .int d, .int k] h (some (.int (-4))) (kp h) := by
  refine cm_of rfl (Nat.le_of_ble_eq_true rfl) [(0, .ref (G.1 + 0)), (1, .int t), (2, .int p), (3, .int d), (4, .int k)] rfl ?_
  refine aw_iload_n 1 dX8_sight_0 rfl rfl ?_
  refine aw_dS [.int t] [] lX8_154 sX8_isThing mX8_isThing dX8_sight_1 (X8_isThing_t (by omega)) rfl (Nat.le_of_ble_eq_true rfl) (by decide) (by decide) rfl ?_
  refine aw_if_eq 17 dX8_sight_4 (by decide) (fun c4 => absurd c4 (by decide)) (fun c4 => ?_)
  refine aw_iload_n 2 dX8_sight_7 rfl rfl ?_
  refine aw_if_lt 17 dX8_sight_8 (by decide) (fun c8 => absurd c8 (by simp only [i_lt, (show (0 : Int32).toInt = 0 from rfl)] <;> omega)) (fun c8 => ?_)
  refine aw_iload_n 2 dX8_sight_11 rfl rfl ?_
  refine aw_bipush (8) dX8_sight_12 (by decide) ?_
  refine aw_icmp_lt 23 dX8_sight_14 (by decide) (fun c14 => ?_) (fun c14 => absurd (by simp only [i_lt, (show (8 : Int32).toInt = 8 from rfl)] <;> omega) c14)
  refine aw_iload_n 3 dX8_sight_23 rfl rfl ?_
  refine aw_iload 4 dX8_sight_24 rfl ?_
  refine aw_dS [.int d, .int k] [] lX8_157 sX8_daysRefusal mX8_daysRefusal dX8_sight_26 (X8_daysRefusal_b (by omega) (by omega)) rfl (Nat.le_of_ble_eq_true rfl) (by decide) (by decide) rfl ?_
  refine aw_istore [(5, .int (-4)), (0, .ref (G.1 + 0)), (1, .int t), (2, .int p), (3, .int d), (4, .int k)] dX8_sight_29 (by decide) rfl ?_
  refine aw_iload 0 dX8_sight_31 rfl ?_
  refine aw_if_eq 43 dX8_sight_33 (by decide) (fun c33 => absurd c33 (by decide)) (fun c33 => ?_)
  refine aw_aload_n 1 dX8_sight_36 rfl rfl ?_
  refine aw_iload 0 dX8_sight_37 rfl ?_
  refine aw_eV [.int (-4)] [] lX8_70 vX8_refuse mX8_refuse dX8_sight_39 (X8_refuse4 hF) hF.1 rfl rfl rfl (Nat.le_of_ble_eq_true rfl) (by decide) (by decide) rfl (fun h57 q58 => ?_)
  exact aw_iret rfl dX8_sight_42 (by decide) (by decide) ⟨rfl, (kp_tr (kp_rf h) q58)⟩
set_option maxHeartbeats 4000000 in
theorem B13b {l : Launch} {G : xG} {h : List va_E} {t p d k : Int32} (hM : xF9 G h) (ht : 0 ≤ t.toInt ∧ t.toInt < 12)(hp : 0 ≤ p.toInt ∧ p.toInt < 8)(h0 : 0 ≤ d.toInt) (h1 : k.toInt < 0) : CE l G yX9_sight cX9_sight 6 (some .int) 2 0 0 [.ref (G.1 + 88), .int t, .int p, .int d, .int k] h (some (.int (-4))) (fun _ => True) := by
  refine cm_of rfl (Nat.le_of_ble_eq_true rfl) [(0, .ref (G.1 + 88)), (1, .int t), (2, .int p), (3, .int d), (4, .int k)] rfl ?_
  refine aw_iload_n 1 dX9_sight_0 rfl rfl ?_
  refine aw_bipush (12) dX9_sight_1 (by decide) ?_
  refine aw_dS [.int t, .int 12] [] lX9_126 sX9_isIn mX9_isIn dX9_sight_3 (X9_isIn12_t (by omega)) rfl (Nat.le_of_ble_eq_true rfl) (by decide) (by decide) rfl ?_
  refine aw_if_eq 27 dX9_sight_6 (by decide) (fun c6 => absurd c6 (by decide)) (fun c6 => ?_)
  refine aw_iload_n 2 dX9_sight_9 rfl rfl ?_
  refine aw_bipush (8) dX9_sight_10 (by decide) ?_
  refine aw_dS [.int p, .int 8] [] lX9_126 sX9_isIn mX9_isIn dX9_sight_12 (X9_isIn8_t (by omega)) rfl (Nat.le_of_ble_eq_true rfl) (by decide) (by decide) rfl ?_
  refine aw_if_eq 27 dX9_sight_15 (by decide) (fun c15 => absurd c15 (by decide)) (fun c15 => ?_)
  refine aw_iload_n 3 dX9_sight_18 rfl rfl ?_
  refine aw_iload 4 dX9_sight_19 rfl ?_
  refine aw_dS [.int d, .int k] [] lX9_195 sX9_wrongDays mX9_wrongDays dX9_sight_21 (X9_wrongDays_b (by omega) (by omega)) rfl (Nat.le_of_ble_eq_true rfl) (by decide) (by decide) rfl ?_
  refine aw_goto 28 dX9_sight_24 (by decide) ?_
  refine aw_istore [(5, .int (-4)), (0, .ref (G.1 + 88)), (1, .int t), (2, .int p), (3, .int d), (4, .int k)] dX9_sight_28 (by decide) rfl ?_
  refine aw_iload 0 dX9_sight_30 rfl ?_
  refine aw_if_ne 48 dX9_sight_32 (by decide) (fun c32 => ?_) (fun c32 => absurd c32 (by decide))
  refine aw_iload 0 dX9_sight_48 rfl ?_
  refine aw_if_eq 60 dX9_sight_50 (by decide) (fun c50 => absurd c50 (by decide)) (fun c50 => ?_)
  refine aw_aload_n 1 dX9_sight_53 rfl rfl ?_
  refine aw_iload 0 dX9_sight_54 rfl ?_
  refine aw_eV [.int (-4)] [] lX9_130 vX9_refuse mX9_refuse dX9_sight_56 (X9_refuse4 hM) hM.1 rfl rfl rfl (Nat.le_of_ble_eq_true rfl) (by decide) (by decide) rfl (fun h59 q60 => ?_)
  exact aw_iret rfl dX9_sight_59 (by decide) (by decide) ⟨rfl, trivial⟩
set_option maxHeartbeats 4000000 in
theorem A13c {l : Launch} {G : xG} {h : List va_E} {t p d k : Int32} (hF : xF8 G h) (ht : 0 ≤ t.toInt ∧ t.toInt < 12)(hp : 0 ≤ p.toInt ∧ p.toInt < 8)(h0 : 80000 < d.toInt) (h1 : 0 ≤ k.toInt) : CE l G yX8_sight cX8_sight 6 (some .int) 2 0 0 [.ref (G.1 + 0), .int t, .int p, .int d, .int k] h (some (.int (-6))) (kp h) := by
  refine cm_of rfl (Nat.le_of_ble_eq_true rfl) [(0, .ref (G.1 + 0)), (1, .int t), (2, .int p), (3, .int d), (4, .int k)] rfl ?_
  refine aw_iload_n 1 dX8_sight_0 rfl rfl ?_
  refine aw_dS [.int t] [] lX8_154 sX8_isThing mX8_isThing dX8_sight_1 (X8_isThing_t (by omega)) rfl (Nat.le_of_ble_eq_true rfl) (by decide) (by decide) rfl ?_
  refine aw_if_eq 17 dX8_sight_4 (by decide) (fun c4 => absurd c4 (by decide)) (fun c4 => ?_)
  refine aw_iload_n 2 dX8_sight_7 rfl rfl ?_
  refine aw_if_lt 17 dX8_sight_8 (by decide) (fun c8 => absurd c8 (by simp only [i_lt, (show (0 : Int32).toInt = 0 from rfl)] <;> omega)) (fun c8 => ?_)
  refine aw_iload_n 2 dX8_sight_11 rfl rfl ?_
  refine aw_bipush (8) dX8_sight_12 (by decide) ?_
  refine aw_icmp_lt 23 dX8_sight_14 (by decide) (fun c14 => ?_) (fun c14 => absurd (by simp only [i_lt, (show (8 : Int32).toInt = 8 from rfl)] <;> omega) c14)
  refine aw_iload_n 3 dX8_sight_23 rfl rfl ?_
  refine aw_iload 4 dX8_sight_24 rfl ?_
  refine aw_dS [.int d, .int k] [] lX8_157 sX8_daysRefusal mX8_daysRefusal dX8_sight_26 (X8_daysRefusal_c (by omega) (by omega)) rfl (Nat.le_of_ble_eq_true rfl) (by decide) (by decide) rfl ?_
  refine aw_istore [(5, .int (-6)), (0, .ref (G.1 + 0)), (1, .int t), (2, .int p), (3, .int d), (4, .int k)] dX8_sight_29 (by decide) rfl ?_
  refine aw_iload 0 dX8_sight_31 rfl ?_
  refine aw_if_eq 43 dX8_sight_33 (by decide) (fun c33 => absurd c33 (by decide)) (fun c33 => ?_)
  refine aw_aload_n 1 dX8_sight_36 rfl rfl ?_
  refine aw_iload 0 dX8_sight_37 rfl ?_
  refine aw_eV [.int (-6)] [] lX8_70 vX8_refuse mX8_refuse dX8_sight_39 (X8_refuse6 hF) hF.1 rfl rfl rfl (Nat.le_of_ble_eq_true rfl) (by decide) (by decide) rfl (fun h61 q62 => ?_)
  exact aw_iret rfl dX8_sight_42 (by decide) (by decide) ⟨rfl, (kp_tr (kp_rf h) q62)⟩
set_option maxHeartbeats 4000000 in
theorem B13c {l : Launch} {G : xG} {h : List va_E} {t p d k : Int32} (hM : xF9 G h) (ht : 0 ≤ t.toInt ∧ t.toInt < 12)(hp : 0 ≤ p.toInt ∧ p.toInt < 8)(h0 : 80000 < d.toInt) (h1 : 0 ≤ k.toInt) : CE l G yX9_sight cX9_sight 6 (some .int) 2 0 0 [.ref (G.1 + 88), .int t, .int p, .int d, .int k] h (some (.int (-6))) (fun _ => True) := by
  refine cm_of rfl (Nat.le_of_ble_eq_true rfl) [(0, .ref (G.1 + 88)), (1, .int t), (2, .int p), (3, .int d), (4, .int k)] rfl ?_
  refine aw_iload_n 1 dX9_sight_0 rfl rfl ?_
  refine aw_bipush (12) dX9_sight_1 (by decide) ?_
  refine aw_dS [.int t, .int 12] [] lX9_126 sX9_isIn mX9_isIn dX9_sight_3 (X9_isIn12_t (by omega)) rfl (Nat.le_of_ble_eq_true rfl) (by decide) (by decide) rfl ?_
  refine aw_if_eq 27 dX9_sight_6 (by decide) (fun c6 => absurd c6 (by decide)) (fun c6 => ?_)
  refine aw_iload_n 2 dX9_sight_9 rfl rfl ?_
  refine aw_bipush (8) dX9_sight_10 (by decide) ?_
  refine aw_dS [.int p, .int 8] [] lX9_126 sX9_isIn mX9_isIn dX9_sight_12 (X9_isIn8_t (by omega)) rfl (Nat.le_of_ble_eq_true rfl) (by decide) (by decide) rfl ?_
  refine aw_if_eq 27 dX9_sight_15 (by decide) (fun c15 => absurd c15 (by decide)) (fun c15 => ?_)
  refine aw_iload_n 3 dX9_sight_18 rfl rfl ?_
  refine aw_iload 4 dX9_sight_19 rfl ?_
  refine aw_dS [.int d, .int k] [] lX9_195 sX9_wrongDays mX9_wrongDays dX9_sight_21 (X9_wrongDays_c (by omega) (by omega)) rfl (Nat.le_of_ble_eq_true rfl) (by decide) (by decide) rfl ?_
  refine aw_goto 28 dX9_sight_24 (by decide) ?_
  refine aw_istore [(5, .int (-6)), (0, .ref (G.1 + 88)), (1, .int t), (2, .int p), (3, .int d), (4, .int k)] dX9_sight_28 (by decide) rfl ?_
  refine aw_iload 0 dX9_sight_30 rfl ?_
  refine aw_if_ne 48 dX9_sight_32 (by decide) (fun c32 => ?_) (fun c32 => absurd c32 (by decide))
  refine aw_iload 0 dX9_sight_48 rfl ?_
  refine aw_if_eq 60 dX9_sight_50 (by decide) (fun c50 => absurd c50 (by decide)) (fun c50 => ?_)
  refine aw_aload_n 1 dX9_sight_53 rfl rfl ?_
  refine aw_iload 0 dX9_sight_54 rfl ?_
  refine aw_eV [.int (-6)] [] lX9_130 vX9_refuse mX9_refuse dX9_sight_56 (X9_refuse6 hM) hM.1 rfl rfl rfl (Nat.le_of_ble_eq_true rfl) (by decide) (by decide) rfl (fun h63 q64 => ?_)
  exact aw_iret rfl dX9_sight_59 (by decide) (by decide) ⟨rfl, trivial⟩
set_option maxHeartbeats 4000000 in
theorem A13e {l : Launch} {G : xG} {h : List va_E} {t p d k : Int32} (hF : xF8 G h) (ht : 0 ≤ t.toInt ∧ t.toInt < 12)(hp : 0 ≤ p.toInt ∧ p.toInt < 8)(h0 : 0 ≤ d.toInt ∧ d.toInt < 80001) (h1 : 80000 < k.toInt) : CE l G yX8_sight cX8_sight 6 (some .int) 2 0 0 [.ref (G.1 + 0), .int t, .int p, .int d, .int k] h (some (.int (-6))) (kp h) := by
  refine cm_of rfl (Nat.le_of_ble_eq_true rfl) [(0, .ref (G.1 + 0)), (1, .int t), (2, .int p), (3, .int d), (4, .int k)] rfl ?_
  refine aw_iload_n 1 dX8_sight_0 rfl rfl ?_
  refine aw_dS [.int t] [] lX8_154 sX8_isThing mX8_isThing dX8_sight_1 (X8_isThing_t (by omega)) rfl (Nat.le_of_ble_eq_true rfl) (by decide) (by decide) rfl ?_
  refine aw_if_eq 17 dX8_sight_4 (by decide) (fun c4 => absurd c4 (by decide)) (fun c4 => ?_)
  refine aw_iload_n 2 dX8_sight_7 rfl rfl ?_
  refine aw_if_lt 17 dX8_sight_8 (by decide) (fun c8 => absurd c8 (by simp only [i_lt, (show (0 : Int32).toInt = 0 from rfl)] <;> omega)) (fun c8 => ?_)
  refine aw_iload_n 2 dX8_sight_11 rfl rfl ?_
  refine aw_bipush (8) dX8_sight_12 (by decide) ?_
  refine aw_icmp_lt 23 dX8_sight_14 (by decide) (fun c14 => ?_) (fun c14 => absurd (by simp only [i_lt, (show (8 : Int32).toInt = 8 from rfl)] <;> omega) c14)
  refine aw_iload_n 3 dX8_sight_23 rfl rfl ?_
  refine aw_iload 4 dX8_sight_24 rfl ?_
  refine aw_dS [.int d, .int k] [] lX8_157 sX8_daysRefusal mX8_daysRefusal dX8_sight_26 (X8_daysRefusal_e (by omega) (by omega)) rfl (Nat.le_of_ble_eq_true rfl) (by decide) (by decide) rfl ?_
  refine aw_istore [(5, .int (-6)), (0, .ref (G.1 + 0)), (1, .int t), (2, .int p), (3, .int d), (4, .int k)] dX8_sight_29 (by decide) rfl ?_
  refine aw_iload 0 dX8_sight_31 rfl ?_
  refine aw_if_eq 43 dX8_sight_33 (by decide) (fun c33 => absurd c33 (by decide)) (fun c33 => ?_)
  refine aw_aload_n 1 dX8_sight_36 rfl rfl ?_
  refine aw_iload 0 dX8_sight_37 rfl ?_
  refine aw_eV [.int (-6)] [] lX8_70 vX8_refuse mX8_refuse dX8_sight_39 (X8_refuse6 hF) hF.1 rfl rfl rfl (Nat.le_of_ble_eq_true rfl) (by decide) (by decide) rfl (fun h65 q66 => ?_)
  exact aw_iret rfl dX8_sight_42 (by decide) (by decide) ⟨rfl, (kp_tr (kp_rf h) q66)⟩
set_option maxHeartbeats 4000000 in
theorem B13e {l : Launch} {G : xG} {h : List va_E} {t p d k : Int32} (hM : xF9 G h) (ht : 0 ≤ t.toInt ∧ t.toInt < 12)(hp : 0 ≤ p.toInt ∧ p.toInt < 8)(h0 : 0 ≤ d.toInt ∧ d.toInt < 80001) (h1 : 80000 < k.toInt) : CE l G yX9_sight cX9_sight 6 (some .int) 2 0 0 [.ref (G.1 + 88), .int t, .int p, .int d, .int k] h (some (.int (-6))) (fun _ => True) := by
  refine cm_of rfl (Nat.le_of_ble_eq_true rfl) [(0, .ref (G.1 + 88)), (1, .int t), (2, .int p), (3, .int d), (4, .int k)] rfl ?_
  refine aw_iload_n 1 dX9_sight_0 rfl rfl ?_
  refine aw_bipush (12) dX9_sight_1 (by decide) ?_
  refine aw_dS [.int t, .int 12] [] lX9_126 sX9_isIn mX9_isIn dX9_sight_3 (X9_isIn12_t (by omega)) rfl (Nat.le_of_ble_eq_true rfl) (by decide) (by decide) rfl ?_
  refine aw_if_eq 27 dX9_sight_6 (by decide) (fun c6 => absurd c6 (by decide)) (fun c6 => ?_)
  refine aw_iload_n 2 dX9_sight_9 rfl rfl ?_
  refine aw_bipush (8) dX9_sight_10 (by decide) ?_
  refine aw_dS [.int p, .int 8] [] lX9_126 sX9_isIn mX9_isIn dX9_sight_12 (X9_isIn8_t (by omega)) rfl (Nat.le_of_ble_eq_true rfl) (by decide) (by decide) rfl ?_
  refine aw_if_eq 27 dX9_sight_15 (by decide) (fun c15 => absurd c15 (by decide)) (fun c15 => ?_)
  refine aw_iload_n 3 dX9_sight_18 rfl rfl ?_
  refine aw_iload 4 dX9_sight_19 rfl ?_
  refine aw_dS [.int d, .int k] [] lX9_195 sX9_wrongDays mX9_wrongDays dX9_sight_21 (X9_wrongDays_e (by omega) (by omega)) rfl (Nat.le_of_ble_eq_true rfl) (by decide) (by decide) rfl ?_
  refine aw_goto 28 dX9_sight_24 (by decide) ?_
  refine aw_istore [(5, .int (-6)), (0, .ref (G.1 + 88)), (1, .int t), (2, .int p), (3, .int d), (4, .int k)] dX9_sight_28 (by decide) rfl ?_
  refine aw_iload 0 dX9_sight_30 rfl ?_
  refine aw_if_ne 48 dX9_sight_32 (by decide) (fun c32 => ?_) (fun c32 => absurd c32 (by decide))
  refine aw_iload 0 dX9_sight_48 rfl ?_
  refine aw_if_eq 60 dX9_sight_50 (by decide) (fun c50 => absurd c50 (by decide)) (fun c50 => ?_)
  refine aw_aload_n 1 dX9_sight_53 rfl rfl ?_
  refine aw_iload 0 dX9_sight_54 rfl ?_
  refine aw_eV [.int (-6)] [] lX9_130 vX9_refuse mX9_refuse dX9_sight_56 (X9_refuse6 hM) hM.1 rfl rfl rfl (Nat.le_of_ble_eq_true rfl) (by decide) (by decide) rfl (fun h67 q68 => ?_)
  exact aw_iret rfl dX9_sight_59 (by decide) (by decide) ⟨rfl, trivial⟩
set_option maxHeartbeats 4000000 in
theorem A13o {l : Launch} {G : xG} {h : List va_E} {t p d k : Int32} (hF : xF8 G h) (ht : 0 ≤ t.toInt ∧ t.toInt < 12)(hp : 0 ≤ p.toInt ∧ p.toInt < 8)(h0 : 0 ≤ d.toInt ∧ d.toInt < 80001) (h1 : 0 ≤ k.toInt ∧ k.toInt < 80001) : CE l G yX8_sight cX8_sight 6 (some .int) 2 0 0 [.ref (G.1 + 0), .int t, .int p, .int d, .int k] h (some (.int 0)) (kp h) := by
  refine cm_of rfl (Nat.le_of_ble_eq_true rfl) [(0, .ref (G.1 + 0)), (1, .int t), (2, .int p), (3, .int d), (4, .int k)] rfl ?_
  refine aw_iload_n 1 dX8_sight_0 rfl rfl ?_
  refine aw_dS [.int t] [] lX8_154 sX8_isThing mX8_isThing dX8_sight_1 (X8_isThing_t (by omega)) rfl (Nat.le_of_ble_eq_true rfl) (by decide) (by decide) rfl ?_
  refine aw_if_eq 17 dX8_sight_4 (by decide) (fun c4 => absurd c4 (by decide)) (fun c4 => ?_)
  refine aw_iload_n 2 dX8_sight_7 rfl rfl ?_
  refine aw_if_lt 17 dX8_sight_8 (by decide) (fun c8 => absurd c8 (by simp only [i_lt, (show (0 : Int32).toInt = 0 from rfl)] <;> omega)) (fun c8 => ?_)
  refine aw_iload_n 2 dX8_sight_11 rfl rfl ?_
  refine aw_bipush (8) dX8_sight_12 (by decide) ?_
  refine aw_icmp_lt 23 dX8_sight_14 (by decide) (fun c14 => ?_) (fun c14 => absurd (by simp only [i_lt, (show (8 : Int32).toInt = 8 from rfl)] <;> omega) c14)
  refine aw_iload_n 3 dX8_sight_23 rfl rfl ?_
  refine aw_iload 4 dX8_sight_24 rfl ?_
  refine aw_dS [.int d, .int k] [] lX8_157 sX8_daysRefusal mX8_daysRefusal dX8_sight_26 (X8_daysRefusal_o (by omega) (by omega)) rfl (Nat.le_of_ble_eq_true rfl) (by decide) (by decide) rfl ?_
  refine aw_istore [(5, .int 0), (0, .ref (G.1 + 0)), (1, .int t), (2, .int p), (3, .int d), (4, .int k)] dX8_sight_29 (by decide) rfl ?_
  refine aw_iload 0 dX8_sight_31 rfl ?_
  refine aw_if_eq 43 dX8_sight_33 (by decide) (fun c33 => ?_) (fun c33 => absurd (by decide) c33)
  refine aw_aload_n 1 dX8_sight_43 rfl rfl ?_
  refine aw_get fX8_34 dX8_sight_44 hF.1 rfl ?_
  refine aw_get fX8_160 dX8_sight_47 hF.2.2.2.2.2.2.2.2.2.2.2.2.2.1 rfl ?_
  refine aw_bipush (60) dX8_sight_50 (by decide) ?_
  refine aw_icmp_lt 62 dX8_sight_52 (by decide) (fun c52 => ?_) (fun c52 => absurd (by decide) c52)
  refine aw_aload_n 1 dX8_sight_62 rfl rfl ?_
  refine aw_get fX8_34 dX8_sight_63 hF.1 rfl ?_
  refine aw_iload_n 2 dX8_sight_66 rfl rfl ?_
  refine aw_iload_n 3 dX8_sight_67 rfl rfl ?_
  refine aw_iload_n 4 dX8_sight_68 rfl rfl ?_
  refine aw_iconst (0) dX8_sight_69 (by decide) ?_
  refine aw_iload 5 dX8_sight_70 rfl ?_
  refine aw_eV [.int t, .int p, .int d, .int 0, .int k] [] lX8_162 vX5_addRecord mX5_addRecord dX8_sight_72 (X5_addS hF) hF.2.2.2.2.2.2.2.2.2.2.2.2.2.1 rfl rfl rfl (Nat.le_of_ble_eq_true rfl) (by decide) (by decide) rfl (fun h69 q70 => ?_)
  exact aw_iret rfl dX8_sight_75 (by decide) (by decide) ⟨rfl, (kp_tr (kp_rf h) q70)⟩
set_option maxHeartbeats 4000000 in
theorem B13o {l : Launch} {G : xG} {h : List va_E} {t p d k : Int32} (hM : xF9 G h) (ht : 0 ≤ t.toInt ∧ t.toInt < 12)(hp : 0 ≤ p.toInt ∧ p.toInt < 8)(h0 : 0 ≤ d.toInt ∧ d.toInt < 80001) (h1 : 0 ≤ k.toInt ∧ k.toInt < 80001) : CE l G yX9_sight cX9_sight 6 (some .int) 2 0 0 [.ref (G.1 + 88), .int t, .int p, .int d, .int k] h (some (.int 0)) (fun _ => True) := by
  refine cm_of rfl (Nat.le_of_ble_eq_true rfl) [(0, .ref (G.1 + 88)), (1, .int t), (2, .int p), (3, .int d), (4, .int k)] rfl ?_
  refine aw_iload_n 1 dX9_sight_0 rfl rfl ?_
  refine aw_bipush (12) dX9_sight_1 (by decide) ?_
  refine aw_dS [.int t, .int 12] [] lX9_126 sX9_isIn mX9_isIn dX9_sight_3 (X9_isIn12_t (by omega)) rfl (Nat.le_of_ble_eq_true rfl) (by decide) (by decide) rfl ?_
  refine aw_if_eq 27 dX9_sight_6 (by decide) (fun c6 => absurd c6 (by decide)) (fun c6 => ?_)
  refine aw_iload_n 2 dX9_sight_9 rfl rfl ?_
  refine aw_bipush (8) dX9_sight_10 (by decide) ?_
  refine aw_dS [.int p, .int 8] [] lX9_126 sX9_isIn mX9_isIn dX9_sight_12 (X9_isIn8_t (by omega)) rfl (Nat.le_of_ble_eq_true rfl) (by decide) (by decide) rfl ?_
  refine aw_if_eq 27 dX9_sight_15 (by decide) (fun c15 => absurd c15 (by decide)) (fun c15 => ?_)
  refine aw_iload_n 3 dX9_sight_18 rfl rfl ?_
  refine aw_iload 4 dX9_sight_19 rfl ?_
  refine aw_dS [.int d, .int k] [] lX9_195 sX9_wrongDays mX9_wrongDays dX9_sight_21 (X9_wrongDays_o (by omega) (by omega)) rfl (Nat.le_of_ble_eq_true rfl) (by decide) (by decide) rfl ?_
  refine aw_goto 28 dX9_sight_24 (by decide) ?_
  refine aw_istore [(5, .int 0), (0, .ref (G.1 + 88)), (1, .int t), (2, .int p), (3, .int d), (4, .int k)] dX9_sight_28 (by decide) rfl ?_
  refine aw_iload 0 dX9_sight_30 rfl ?_
  refine aw_if_ne 48 dX9_sight_32 (by decide) (fun c32 => absurd (by decide) c32) (fun c32 => ?_)
  refine aw_aload_n 1 dX9_sight_35 rfl rfl ?_
  refine aw_get fX9_198 dX9_sight_36 hM.1 rfl ?_
  refine aw_bipush (60) dX9_sight_39 (by decide) ?_
  refine aw_icmp_ne 48 dX9_sight_41 (by decide) (fun c41 => ?_) (fun c41 => absurd c41 (by decide))
  refine aw_iload 0 dX9_sight_48 rfl ?_
  refine aw_if_eq 60 dX9_sight_50 (by decide) (fun c50 => ?_) (fun c50 => absurd (by decide) c50)
  refine aw_aload_n 1 dX9_sight_60 rfl rfl ?_
  refine aw_get fX9_59 dX9_sight_61 hM.1 rfl ?_
  refine aw_aload_n 1 dX9_sight_64 rfl rfl ?_
  refine aw_get fX9_198 dX9_sight_65 hM.1 rfl ?_
  refine aw_iload_n 2 dX9_sight_68 rfl rfl ?_
  refine aw_iast 0 (rfl) (by decide) (by decide) dX9_sight_69 hM.2.2.2.2.2.2.2.2.2.2.2.2.2.2.2.1 ?_
  refine aw_aload_n 1 dX9_sight_70 rfl rfl ?_
  refine aw_get fX9_62 dX9_sight_71 (gn (by decide) (hM.1)) rfl ?_
  refine aw_aload_n 1 dX9_sight_74 rfl rfl ?_
  refine aw_get fX9_198 dX9_sight_75 (gn (by decide) (hM.1)) rfl ?_
  refine aw_iload_n 3 dX9_sight_78 rfl rfl ?_
  refine aw_iast 0 (rfl) (by decide) (by decide) dX9_sight_79 (gn (by decide) (hM.2.2.2.2.2.2.2.2.2.2.2.2.2.2.2.2.1)) ?_
  refine aw_aload_n 1 dX9_sight_80 rfl rfl ?_
  refine aw_get fX9_65 dX9_sight_81 (gn (by decide) (gn (by decide) (hM.1))) rfl ?_
  refine aw_aload_n 1 dX9_sight_84 rfl rfl ?_
  refine aw_get fX9_198 dX9_sight_85 (gn (by decide) (gn (by decide) (hM.1))) rfl ?_
  refine aw_iload_n 4 dX9_sight_88 rfl rfl ?_
  refine aw_iast 0 (rfl) (by decide) (by decide) dX9_sight_89 (gn (by decide) (gn (by decide) (hM.2.2.2.2.2.2.2.2.2.2.2.2.2.2.2.2.2.1))) ?_
  refine aw_aload_n 1 dX9_sight_90 rfl rfl ?_
  refine aw_get fX9_68 dX9_sight_91 (gn (by decide) (gn (by decide) (gn (by decide) (hM.1)))) rfl ?_
  refine aw_aload_n 1 dX9_sight_94 rfl rfl ?_
  refine aw_get fX9_198 dX9_sight_95 (gn (by decide) (gn (by decide) (gn (by decide) (hM.1)))) rfl ?_
  refine aw_iload 5 dX9_sight_98 rfl ?_
  refine aw_iast 0 (rfl) (by decide) (by decide) dX9_sight_100 (gn (by decide) (gn (by decide) (gn (by decide) (hM.2.2.2.2.2.2.2.2.2.2.2.2.2.2.2.2.2.2.1)))) ?_
  refine aw_aload_n 1 dX9_sight_101 rfl rfl ?_
  refine aw_get fX9_71 dX9_sight_102 (gn (by decide) (gn (by decide) (gn (by decide) (gn (by decide) (hM.1))))) rfl ?_
  refine aw_aload_n 1 dX9_sight_105 rfl rfl ?_
  refine aw_get fX9_198 dX9_sight_106 (gn (by decide) (gn (by decide) (gn (by decide) (gn (by decide) (hM.1))))) rfl ?_
  refine aw_ldc (1000000000) kX9_201 dX9_sight_109 ?_
  refine aw_iast 0 (rfl) (by decide) (by decide) dX9_sight_111 (gn (by decide) (gn (by decide) (gn (by decide) (gn (by decide) (hM.2.2.2.2.2.2.2.2.2.2.2.2.2.2.2.2.2.2.2.1))))) ?_
  refine aw_aload_n 1 dX9_sight_112 rfl rfl ?_
  refine aw_dup dX9_sight_113 rfl ?_
  refine aw_get fX9_198 dX9_sight_114 (gn (by decide) (gn (by decide) (gn (by decide) (gn (by decide) (gn (by decide) (hM.1)))))) rfl ?_
  refine aw_iconst (1) dX9_sight_117 (by decide) ?_
  refine aw_iadd dX9_sight_118 ?_
  refine aw_toe 1 (by decide) ?_
  refine aw_putQ fX9_198 dX9_sight_119 [.ref (G.1 + 89), .ref (G.1 + 90), .ref (G.1 + 91), .ref (G.1 + 92), .ref (G.1 + 93), .ref (G.1 + 94), .ref (G.1 + 95), .ref (G.1 + 96), .ref (G.1 + 97), .ref (G.1 + 98), .int 5, .int 1, .int 0, .ref (G.1 + 99), .ref (G.1 + 100), .ref (G.1 + 101), .ref (G.1 + 102), .int 1, .int 0, .ref (G.1 + 103), .ref (G.1 + 104), .ref (G.1 + 105), .ref (G.1 + 106), .ref (G.1 + 107), .ref (G.1 + 108), .ref (G.1 + 109), .ref (G.1 + 110), .ref (G.1 + 111), .ref (G.1 + 112), .ref (G.1 + 113), .ref (G.1 + 114), .ref (G.1 + 115), .int 0, .int 0, .int 0, .int 0, .ref (G.1 + 116), .ref (G.1 + 117), .ref (G.1 + 118), .ref (G.1 + 119), .ref (G.1 + 120), .ref (G.1 + 121), .ref (G.1 + 122), .int 0, .ref (G.1 + 123), .ref (G.1 + 124)] (gn (by decide) (gn (by decide) (gn (by decide) (gn (by decide) (gn (by decide) (hM.1)))))) rfl rfl rfl (Nat.le_of_ble_eq_true rfl) rfl ?_
  refine aw_aload_n 1 dX9_sight_122 rfl rfl ?_
  refine aw_get fX9_198 dX9_sight_123 (gs (gn (by decide) (gn (by decide) (gn (by decide) (gn (by decide) (gn (by decide) (hM.1))))))) rfl ?_
  refine aw_iconst (1) dX9_sight_126 (by decide) ?_
  refine aw_isub dX9_sight_127 ?_
  refine aw_toe 0 (by decide) ?_
  exact aw_iret rfl dX9_sight_128 (by decide) (by decide) ⟨rfl, trivial⟩
set_option maxHeartbeats 4000000 in
theorem A14t {l : Launch} {G : xG} {h : List va_E} {t p d s k : Int32} (hF : xF8 G h) (ht : ¬ (0 ≤ t.toInt ∧ t.toInt < 12)) : CE l G yX8_move cX8_move 7 (some .int) 2 0 0 [.ref (G.1 + 0), .int t, .int p, .int d, .int s, .int k] h (some (.int (-1))) (kp h) := by
  refine cm_of rfl (Nat.le_of_ble_eq_true rfl) [(0, .ref (G.1 + 0)), (1, .int t), (2, .int p), (3, .int d), (4, .int s), (5, .int k)] rfl ?_
  refine aw_iload_n 1 dX8_move_0 rfl rfl ?_
  refine aw_dS [.int t] [] lX8_154 sX8_isThing mX8_isThing dX8_move_1 (X8_isThing_f (by omega)) rfl (Nat.le_of_ble_eq_true rfl) (by decide) (by decide) rfl ?_
  refine aw_if_eq 17 dX8_move_4 (by decide) (fun c4 => ?_) (fun c4 => absurd (by decide) c4)
  refine aw_aload_n 0 dX8_move_17 rfl rfl ?_
  refine aw_iconst (-1) dX8_move_18 (by decide) ?_
  refine aw_eV [.int (-1)] [] lX8_70 vX8_refuse mX8_refuse dX8_move_19 (X8_refuse1 hF) hF.1 rfl rfl rfl (Nat.le_of_ble_eq_true rfl) (by decide) (by decide) rfl (fun h71 q72 => ?_)
  exact aw_iret rfl dX8_move_22 (by decide) (by decide) ⟨rfl, (kp_tr (kp_rf h) q72)⟩
set_option maxHeartbeats 4000000 in
theorem B14t {l : Launch} {G : xG} {h : List va_E} {t p d s k : Int32} (hM : xF9 G h) (ht : ¬ (0 ≤ t.toInt ∧ t.toInt < 12)) : CE l G yX9_move cX9_move 7 (some .int) 2 0 0 [.ref (G.1 + 88), .int t, .int p, .int d, .int s, .int k] h (some (.int (-1))) (fun _ => True) := by
  refine cm_of rfl (Nat.le_of_ble_eq_true rfl) [(0, .ref (G.1 + 88)), (1, .int t), (2, .int p), (3, .int d), (4, .int s), (5, .int k)] rfl ?_
  refine aw_iload_n 1 dX9_move_0 rfl rfl ?_
  refine aw_bipush (12) dX9_move_1 (by decide) ?_
  refine aw_dS [.int t, .int 12] [] lX9_126 sX9_isIn mX9_isIn dX9_move_3 (X9_isIn12_f (by omega)) rfl (Nat.le_of_ble_eq_true rfl) (by decide) (by decide) rfl ?_
  refine aw_if_eq 18 dX9_move_6 (by decide) (fun c6 => ?_) (fun c6 => absurd (by decide) c6)
  refine aw_iconst (-1) dX9_move_18 (by decide) ?_
  refine aw_goto 42 dX9_move_19 (by decide) ?_
  refine aw_istore [(6, .int (-1)), (0, .ref (G.1 + 88)), (1, .int t), (2, .int p), (3, .int d), (4, .int s), (5, .int k)] dX9_move_42 (by decide) rfl ?_
  refine aw_iload 0 dX9_move_44 rfl ?_
  refine aw_if_ne 62 dX9_move_46 (by decide) (fun c46 => ?_) (fun c46 => absurd c46 (by decide))
  refine aw_iload 0 dX9_move_62 rfl ?_
  refine aw_if_eq 74 dX9_move_64 (by decide) (fun c64 => absurd c64 (by decide)) (fun c64 => ?_)
  refine aw_aload_n 1 dX9_move_67 rfl rfl ?_
  refine aw_iload 0 dX9_move_68 rfl ?_
  refine aw_eV [.int (-1)] [] lX9_130 vX9_refuse mX9_refuse dX9_move_70 (X9_refuse1 hM) hM.1 rfl rfl rfl (Nat.le_of_ble_eq_true rfl) (by decide) (by decide) rfl (fun h73 q74 => ?_)
  exact aw_iret rfl dX9_move_73 (by decide) (by decide) ⟨rfl, trivial⟩
set_option maxHeartbeats 4000000 in
theorem A14p {l : Launch} {G : xG} {h : List va_E} {t p d s k : Int32} (hF : xF8 G h) (ht : 0 ≤ t.toInt ∧ t.toInt < 12)(hp : p.toInt < 0) : CE l G yX8_move cX8_move 7 (some .int) 2 0 0 [.ref (G.1 + 0), .int t, .int p, .int d, .int s, .int k] h (some (.int (-1))) (kp h) := by
  refine cm_of rfl (Nat.le_of_ble_eq_true rfl) [(0, .ref (G.1 + 0)), (1, .int t), (2, .int p), (3, .int d), (4, .int s), (5, .int k)] rfl ?_
  refine aw_iload_n 1 dX8_move_0 rfl rfl ?_
  refine aw_dS [.int t] [] lX8_154 sX8_isThing mX8_isThing dX8_move_1 (X8_isThing_t (by omega)) rfl (Nat.le_of_ble_eq_true rfl) (by decide) (by decide) rfl ?_
  refine aw_if_eq 17 dX8_move_4 (by decide) (fun c4 => absurd c4 (by decide)) (fun c4 => ?_)
  refine aw_iload_n 2 dX8_move_7 rfl rfl ?_
  refine aw_if_lt 17 dX8_move_8 (by decide) (fun c8 => ?_) (fun c8 => absurd (by simp only [i_lt, (show (0 : Int32).toInt = 0 from rfl)] <;> omega) c8)
  refine aw_aload_n 0 dX8_move_17 rfl rfl ?_
  refine aw_iconst (-1) dX8_move_18 (by decide) ?_
  refine aw_eV [.int (-1)] [] lX8_70 vX8_refuse mX8_refuse dX8_move_19 (X8_refuse1 hF) hF.1 rfl rfl rfl (Nat.le_of_ble_eq_true rfl) (by decide) (by decide) rfl (fun h75 q76 => ?_)
  exact aw_iret rfl dX8_move_22 (by decide) (by decide) ⟨rfl, (kp_tr (kp_rf h) q76)⟩
set_option maxHeartbeats 4000000 in
theorem B14p {l : Launch} {G : xG} {h : List va_E} {t p d s k : Int32} (hM : xF9 G h) (ht : 0 ≤ t.toInt ∧ t.toInt < 12)(hp : p.toInt < 0) : CE l G yX9_move cX9_move 7 (some .int) 2 0 0 [.ref (G.1 + 88), .int t, .int p, .int d, .int s, .int k] h (some (.int (-1))) (fun _ => True) := by
  refine cm_of rfl (Nat.le_of_ble_eq_true rfl) [(0, .ref (G.1 + 88)), (1, .int t), (2, .int p), (3, .int d), (4, .int s), (5, .int k)] rfl ?_
  refine aw_iload_n 1 dX9_move_0 rfl rfl ?_
  refine aw_bipush (12) dX9_move_1 (by decide) ?_
  refine aw_dS [.int t, .int 12] [] lX9_126 sX9_isIn mX9_isIn dX9_move_3 (X9_isIn12_t (by omega)) rfl (Nat.le_of_ble_eq_true rfl) (by decide) (by decide) rfl ?_
  refine aw_if_eq 18 dX9_move_6 (by decide) (fun c6 => absurd c6 (by decide)) (fun c6 => ?_)
  refine aw_iload_n 2 dX9_move_9 rfl rfl ?_
  refine aw_bipush (8) dX9_move_10 (by decide) ?_
  refine aw_dS [.int p, .int 8] [] lX9_126 sX9_isIn mX9_isIn dX9_move_12 (X9_isIn8_f (by omega)) rfl (Nat.le_of_ble_eq_true rfl) (by decide) (by decide) rfl ?_
  refine aw_if_ne 22 dX9_move_15 (by decide) (fun c15 => absurd (by decide) c15) (fun c15 => ?_)
  refine aw_iconst (-1) dX9_move_18 (by decide) ?_
  refine aw_goto 42 dX9_move_19 (by decide) ?_
  refine aw_istore [(6, .int (-1)), (0, .ref (G.1 + 88)), (1, .int t), (2, .int p), (3, .int d), (4, .int s), (5, .int k)] dX9_move_42 (by decide) rfl ?_
  refine aw_iload 0 dX9_move_44 rfl ?_
  refine aw_if_ne 62 dX9_move_46 (by decide) (fun c46 => ?_) (fun c46 => absurd c46 (by decide))
  refine aw_iload 0 dX9_move_62 rfl ?_
  refine aw_if_eq 74 dX9_move_64 (by decide) (fun c64 => absurd c64 (by decide)) (fun c64 => ?_)
  refine aw_aload_n 1 dX9_move_67 rfl rfl ?_
  refine aw_iload 0 dX9_move_68 rfl ?_
  refine aw_eV [.int (-1)] [] lX9_130 vX9_refuse mX9_refuse dX9_move_70 (X9_refuse1 hM) hM.1 rfl rfl rfl (Nat.le_of_ble_eq_true rfl) (by decide) (by decide) rfl (fun h77 q78 => ?_)
  exact aw_iret rfl dX9_move_73 (by decide) (by decide) ⟨rfl, trivial⟩
set_option maxHeartbeats 4000000 in
theorem A14q {l : Launch} {G : xG} {h : List va_E} {t p d s k : Int32} (hF : xF8 G h) (ht : 0 ≤ t.toInt ∧ t.toInt < 12)(hp : 8 ≤ p.toInt) : CE l G yX8_move cX8_move 7 (some .int) 2 0 0 [.ref (G.1 + 0), .int t, .int p, .int d, .int s, .int k] h (some (.int (-1))) (kp h) := by
  refine cm_of rfl (Nat.le_of_ble_eq_true rfl) [(0, .ref (G.1 + 0)), (1, .int t), (2, .int p), (3, .int d), (4, .int s), (5, .int k)] rfl ?_
  refine aw_iload_n 1 dX8_move_0 rfl rfl ?_
  refine aw_dS [.int t] [] lX8_154 sX8_isThing mX8_isThing dX8_move_1 (X8_isThing_t (by omega)) rfl (Nat.le_of_ble_eq_true rfl) (by decide) (by decide) rfl ?_
  refine aw_if_eq 17 dX8_move_4 (by decide) (fun c4 => absurd c4 (by decide)) (fun c4 => ?_)
  refine aw_iload_n 2 dX8_move_7 rfl rfl ?_
  refine aw_if_lt 17 dX8_move_8 (by decide) (fun c8 => absurd c8 (by simp only [i_lt, (show (0 : Int32).toInt = 0 from rfl)] <;> omega)) (fun c8 => ?_)
  refine aw_iload_n 2 dX8_move_11 rfl rfl ?_
  refine aw_bipush (8) dX8_move_12 (by decide) ?_
  refine aw_icmp_lt 23 dX8_move_14 (by decide) (fun c14 => absurd c14 (by simp only [i_lt, (show (8 : Int32).toInt = 8 from rfl)] <;> omega)) (fun c14 => ?_)
  refine aw_aload_n 0 dX8_move_17 rfl rfl ?_
  refine aw_iconst (-1) dX8_move_18 (by decide) ?_
  refine aw_eV [.int (-1)] [] lX8_70 vX8_refuse mX8_refuse dX8_move_19 (X8_refuse1 hF) hF.1 rfl rfl rfl (Nat.le_of_ble_eq_true rfl) (by decide) (by decide) rfl (fun h79 q80 => ?_)
  exact aw_iret rfl dX8_move_22 (by decide) (by decide) ⟨rfl, (kp_tr (kp_rf h) q80)⟩
set_option maxHeartbeats 4000000 in
theorem B14q {l : Launch} {G : xG} {h : List va_E} {t p d s k : Int32} (hM : xF9 G h) (ht : 0 ≤ t.toInt ∧ t.toInt < 12)(hp : 8 ≤ p.toInt) : CE l G yX9_move cX9_move 7 (some .int) 2 0 0 [.ref (G.1 + 88), .int t, .int p, .int d, .int s, .int k] h (some (.int (-1))) (fun _ => True) := by
  refine cm_of rfl (Nat.le_of_ble_eq_true rfl) [(0, .ref (G.1 + 88)), (1, .int t), (2, .int p), (3, .int d), (4, .int s), (5, .int k)] rfl ?_
  refine aw_iload_n 1 dX9_move_0 rfl rfl ?_
  refine aw_bipush (12) dX9_move_1 (by decide) ?_
  refine aw_dS [.int t, .int 12] [] lX9_126 sX9_isIn mX9_isIn dX9_move_3 (X9_isIn12_t (by omega)) rfl (Nat.le_of_ble_eq_true rfl) (by decide) (by decide) rfl ?_
  refine aw_if_eq 18 dX9_move_6 (by decide) (fun c6 => absurd c6 (by decide)) (fun c6 => ?_)
  refine aw_iload_n 2 dX9_move_9 rfl rfl ?_
  refine aw_bipush (8) dX9_move_10 (by decide) ?_
  refine aw_dS [.int p, .int 8] [] lX9_126 sX9_isIn mX9_isIn dX9_move_12 (X9_isIn8_f (by omega)) rfl (Nat.le_of_ble_eq_true rfl) (by decide) (by decide) rfl ?_
  refine aw_if_ne 22 dX9_move_15 (by decide) (fun c15 => absurd (by decide) c15) (fun c15 => ?_)
  refine aw_iconst (-1) dX9_move_18 (by decide) ?_
  refine aw_goto 42 dX9_move_19 (by decide) ?_
  refine aw_istore [(6, .int (-1)), (0, .ref (G.1 + 88)), (1, .int t), (2, .int p), (3, .int d), (4, .int s), (5, .int k)] dX9_move_42 (by decide) rfl ?_
  refine aw_iload 0 dX9_move_44 rfl ?_
  refine aw_if_ne 62 dX9_move_46 (by decide) (fun c46 => ?_) (fun c46 => absurd c46 (by decide))
  refine aw_iload 0 dX9_move_62 rfl ?_
  refine aw_if_eq 74 dX9_move_64 (by decide) (fun c64 => absurd c64 (by decide)) (fun c64 => ?_)
  refine aw_aload_n 1 dX9_move_67 rfl rfl ?_
  refine aw_iload 0 dX9_move_68 rfl ?_
  refine aw_eV [.int (-1)] [] lX9_130 vX9_refuse mX9_refuse dX9_move_70 (X9_refuse1 hM) hM.1 rfl rfl rfl (Nat.le_of_ble_eq_true rfl) (by decide) (by decide) rfl (fun h81 q82 => ?_)
  exact aw_iret rfl dX9_move_73 (by decide) (by decide) ⟨rfl, trivial⟩
set_option maxHeartbeats 4000000 in
theorem A14s {l : Launch} {G : xG} {h : List va_E} {t p d s k : Int32} (hF : xF8 G h) (ht : 0 ≤ t.toInt ∧ t.toInt < 12)(hp : 0 ≤ p.toInt ∧ p.toInt < 8)(hs : s.toInt < 0) : CE l G yX8_move cX8_move 7 (some .int) 2 0 0 [.ref (G.1 + 0), .int t, .int p, .int d, .int s, .int k] h (some (.int (-2))) (kp h) := by
  refine cm_of rfl (Nat.le_of_ble_eq_true rfl) [(0, .ref (G.1 + 0)), (1, .int t), (2, .int p), (3, .int d), (4, .int s), (5, .int k)] rfl ?_
  refine aw_iload_n 1 dX8_move_0 rfl rfl ?_
  refine aw_dS [.int t] [] lX8_154 sX8_isThing mX8_isThing dX8_move_1 (X8_isThing_t (by omega)) rfl (Nat.le_of_ble_eq_true rfl) (by decide) (by decide) rfl ?_
  refine aw_if_eq 17 dX8_move_4 (by decide) (fun c4 => absurd c4 (by decide)) (fun c4 => ?_)
  refine aw_iload_n 2 dX8_move_7 rfl rfl ?_
  refine aw_if_lt 17 dX8_move_8 (by decide) (fun c8 => absurd c8 (by simp only [i_lt, (show (0 : Int32).toInt = 0 from rfl)] <;> omega)) (fun c8 => ?_)
  refine aw_iload_n 2 dX8_move_11 rfl rfl ?_
  refine aw_bipush (8) dX8_move_12 (by decide) ?_
  refine aw_icmp_lt 23 dX8_move_14 (by decide) (fun c14 => ?_) (fun c14 => absurd (by simp only [i_lt, (show (8 : Int32).toInt = 8 from rfl)] <;> omega) c14)
  refine aw_iload 4 dX8_move_23 rfl ?_
  refine aw_if_lt 34 dX8_move_25 (by decide) (fun c25 => ?_) (fun c25 => absurd (by simp only [i_lt, (show (0 : Int32).toInt = 0 from rfl)] <;> omega) c25)
  refine aw_aload_n 0 dX8_move_34 rfl rfl ?_
  refine aw_bipush (-2) dX8_move_35 (by decide) ?_
  refine aw_eV [.int (-2)] [] lX8_70 vX8_refuse mX8_refuse dX8_move_37 (X8_refuse2 hF) hF.1 rfl rfl rfl (Nat.le_of_ble_eq_true rfl) (by decide) (by decide) rfl (fun h83 q84 => ?_)
  exact aw_iret rfl dX8_move_40 (by decide) (by decide) ⟨rfl, (kp_tr (kp_rf h) q84)⟩
set_option maxHeartbeats 4000000 in
theorem B14s {l : Launch} {G : xG} {h : List va_E} {t p d s k : Int32} (hM : xF9 G h) (ht : 0 ≤ t.toInt ∧ t.toInt < 12)(hp : 0 ≤ p.toInt ∧ p.toInt < 8)(hs : s.toInt < 0) : CE l G yX9_move cX9_move 7 (some .int) 2 0 0 [.ref (G.1 + 88), .int t, .int p, .int d, .int s, .int k] h (some (.int (-2))) (fun _ => True) := by
  refine cm_of rfl (Nat.le_of_ble_eq_true rfl) [(0, .ref (G.1 + 88)), (1, .int t), (2, .int p), (3, .int d), (4, .int s), (5, .int k)] rfl ?_
  refine aw_iload_n 1 dX9_move_0 rfl rfl ?_
  refine aw_bipush (12) dX9_move_1 (by decide) ?_
  refine aw_dS [.int t, .int 12] [] lX9_126 sX9_isIn mX9_isIn dX9_move_3 (X9_isIn12_t (by omega)) rfl (Nat.le_of_ble_eq_true rfl) (by decide) (by decide) rfl ?_
  refine aw_if_eq 18 dX9_move_6 (by decide) (fun c6 => absurd c6 (by decide)) (fun c6 => ?_)
  refine aw_iload_n 2 dX9_move_9 rfl rfl ?_
  refine aw_bipush (8) dX9_move_10 (by decide) ?_
  refine aw_dS [.int p, .int 8] [] lX9_126 sX9_isIn mX9_isIn dX9_move_12 (X9_isIn8_t (by omega)) rfl (Nat.le_of_ble_eq_true rfl) (by decide) (by decide) rfl ?_
  refine aw_if_ne 22 dX9_move_15 (by decide) (fun c15 => ?_) (fun c15 => absurd c15 (by decide))
  refine aw_iload 4 dX9_move_22 rfl ?_
  refine aw_iconst (5) dX9_move_24 (by decide) ?_
  refine aw_dS [.int s, .int 5] [] lX9_126 sX9_isIn mX9_isIn dX9_move_25 (X9_isIn5_f (by omega)) rfl (Nat.le_of_ble_eq_true rfl) (by decide) (by decide) rfl ?_
  refine aw_if_ne 36 dX9_move_28 (by decide) (fun c28 => absurd (by decide) c28) (fun c28 => ?_)
  refine aw_bipush (-2) dX9_move_31 (by decide) ?_
  refine aw_goto 42 dX9_move_33 (by decide) ?_
  refine aw_istore [(6, .int (-2)), (0, .ref (G.1 + 88)), (1, .int t), (2, .int p), (3, .int d), (4, .int s), (5, .int k)] dX9_move_42 (by decide) rfl ?_
  refine aw_iload 0 dX9_move_44 rfl ?_
  refine aw_if_ne 62 dX9_move_46 (by decide) (fun c46 => ?_) (fun c46 => absurd c46 (by decide))
  refine aw_iload 0 dX9_move_62 rfl ?_
  refine aw_if_eq 74 dX9_move_64 (by decide) (fun c64 => absurd c64 (by decide)) (fun c64 => ?_)
  refine aw_aload_n 1 dX9_move_67 rfl rfl ?_
  refine aw_iload 0 dX9_move_68 rfl ?_
  refine aw_eV [.int (-2)] [] lX9_130 vX9_refuse mX9_refuse dX9_move_70 (X9_refuse2 hM) hM.1 rfl rfl rfl (Nat.le_of_ble_eq_true rfl) (by decide) (by decide) rfl (fun h85 q86 => ?_)
  exact aw_iret rfl dX9_move_73 (by decide) (by decide) ⟨rfl, trivial⟩
set_option maxHeartbeats 4000000 in
theorem A14r {l : Launch} {G : xG} {h : List va_E} {t p d s k : Int32} (hF : xF8 G h) (ht : 0 ≤ t.toInt ∧ t.toInt < 12)(hp : 0 ≤ p.toInt ∧ p.toInt < 8)(hs : 5 ≤ s.toInt) : CE l G yX8_move cX8_move 7 (some .int) 2 0 0 [.ref (G.1 + 0), .int t, .int p, .int d, .int s, .int k] h (some (.int (-2))) (kp h) := by
  refine cm_of rfl (Nat.le_of_ble_eq_true rfl) [(0, .ref (G.1 + 0)), (1, .int t), (2, .int p), (3, .int d), (4, .int s), (5, .int k)] rfl ?_
  refine aw_iload_n 1 dX8_move_0 rfl rfl ?_
  refine aw_dS [.int t] [] lX8_154 sX8_isThing mX8_isThing dX8_move_1 (X8_isThing_t (by omega)) rfl (Nat.le_of_ble_eq_true rfl) (by decide) (by decide) rfl ?_
  refine aw_if_eq 17 dX8_move_4 (by decide) (fun c4 => absurd c4 (by decide)) (fun c4 => ?_)
  refine aw_iload_n 2 dX8_move_7 rfl rfl ?_
  refine aw_if_lt 17 dX8_move_8 (by decide) (fun c8 => absurd c8 (by simp only [i_lt, (show (0 : Int32).toInt = 0 from rfl)] <;> omega)) (fun c8 => ?_)
  refine aw_iload_n 2 dX8_move_11 rfl rfl ?_
  refine aw_bipush (8) dX8_move_12 (by decide) ?_
  refine aw_icmp_lt 23 dX8_move_14 (by decide) (fun c14 => ?_) (fun c14 => absurd (by simp only [i_lt, (show (8 : Int32).toInt = 8 from rfl)] <;> omega) c14)
  refine aw_iload 4 dX8_move_23 rfl ?_
  refine aw_if_lt 34 dX8_move_25 (by decide) (fun c25 => absurd c25 (by simp only [i_lt, (show (0 : Int32).toInt = 0 from rfl)] <;> omega)) (fun c25 => ?_)
  refine aw_iload 4 dX8_move_28 rfl ?_
  refine aw_iconst (4) dX8_move_30 (by decide) ?_
  refine aw_icmp_le 41 dX8_move_31 (by decide) (fun c31 => absurd c31 (by simp only [i_le, (show (4 : Int32).toInt = 4 from rfl)] <;> omega)) (fun c31 => ?_)
  refine aw_aload_n 0 dX8_move_34 rfl rfl ?_
  refine aw_bipush (-2) dX8_move_35 (by decide) ?_
  refine aw_eV [.int (-2)] [] lX8_70 vX8_refuse mX8_refuse dX8_move_37 (X8_refuse2 hF) hF.1 rfl rfl rfl (Nat.le_of_ble_eq_true rfl) (by decide) (by decide) rfl (fun h87 q88 => ?_)
  exact aw_iret rfl dX8_move_40 (by decide) (by decide) ⟨rfl, (kp_tr (kp_rf h) q88)⟩
set_option maxHeartbeats 4000000 in
theorem B14r {l : Launch} {G : xG} {h : List va_E} {t p d s k : Int32} (hM : xF9 G h) (ht : 0 ≤ t.toInt ∧ t.toInt < 12)(hp : 0 ≤ p.toInt ∧ p.toInt < 8)(hs : 5 ≤ s.toInt) : CE l G yX9_move cX9_move 7 (some .int) 2 0 0 [.ref (G.1 + 88), .int t, .int p, .int d, .int s, .int k] h (some (.int (-2))) (fun _ => True) := by
  refine cm_of rfl (Nat.le_of_ble_eq_true rfl) [(0, .ref (G.1 + 88)), (1, .int t), (2, .int p), (3, .int d), (4, .int s), (5, .int k)] rfl ?_
  refine aw_iload_n 1 dX9_move_0 rfl rfl ?_
  refine aw_bipush (12) dX9_move_1 (by decide) ?_
  refine aw_dS [.int t, .int 12] [] lX9_126 sX9_isIn mX9_isIn dX9_move_3 (X9_isIn12_t (by omega)) rfl (Nat.le_of_ble_eq_true rfl) (by decide) (by decide) rfl ?_
  refine aw_if_eq 18 dX9_move_6 (by decide) (fun c6 => absurd c6 (by decide)) (fun c6 => ?_)
  refine aw_iload_n 2 dX9_move_9 rfl rfl ?_
  refine aw_bipush (8) dX9_move_10 (by decide) ?_
  refine aw_dS [.int p, .int 8] [] lX9_126 sX9_isIn mX9_isIn dX9_move_12 (X9_isIn8_t (by omega)) rfl (Nat.le_of_ble_eq_true rfl) (by decide) (by decide) rfl ?_
  refine aw_if_ne 22 dX9_move_15 (by decide) (fun c15 => ?_) (fun c15 => absurd c15 (by decide))
  refine aw_iload 4 dX9_move_22 rfl ?_
  refine aw_iconst (5) dX9_move_24 (by decide) ?_
  refine aw_dS [.int s, .int 5] [] lX9_126 sX9_isIn mX9_isIn dX9_move_25 (X9_isIn5_f (by omega)) rfl (Nat.le_of_ble_eq_true rfl) (by decide) (by decide) rfl ?_
  refine aw_if_ne 36 dX9_move_28 (by decide) (fun c28 => absurd (by decide) c28) (fun c28 => ?_)
  refine aw_bipush (-2) dX9_move_31 (by decide) ?_
  refine aw_goto 42 dX9_move_33 (by decide) ?_
  refine aw_istore [(6, .int (-2)), (0, .ref (G.1 + 88)), (1, .int t), (2, .int p), (3, .int d), (4, .int s), (5, .int k)] dX9_move_42 (by decide) rfl ?_
  refine aw_iload 0 dX9_move_44 rfl ?_
  refine aw_if_ne 62 dX9_move_46 (by decide) (fun c46 => ?_) (fun c46 => absurd c46 (by decide))
  refine aw_iload 0 dX9_move_62 rfl ?_
  refine aw_if_eq 74 dX9_move_64 (by decide) (fun c64 => absurd c64 (by decide)) (fun c64 => ?_)
  refine aw_aload_n 1 dX9_move_67 rfl rfl ?_
  refine aw_iload 0 dX9_move_68 rfl ?_
  refine aw_eV [.int (-2)] [] lX9_130 vX9_refuse mX9_refuse dX9_move_70 (X9_refuse2 hM) hM.1 rfl rfl rfl (Nat.le_of_ble_eq_true rfl) (by decide) (by decide) rfl (fun h89 q90 => ?_)
  exact aw_iret rfl dX9_move_73 (by decide) (by decide) ⟨rfl, trivial⟩
set_option maxHeartbeats 4000000 in
theorem A14a {l : Launch} {G : xG} {h : List va_E} {t p d s k : Int32} (hF : xF8 G h) (ht : 0 ≤ t.toInt ∧ t.toInt < 12)(hp : 0 ≤ p.toInt ∧ p.toInt < 8)(hs : 0 ≤ s.toInt ∧ s.toInt < 5)(h0 : d.toInt < 0) : CE l G yX8_move cX8_move 7 (some .int) 2 0 0 [.ref (G.1 + 0), .int t, .int p, .int d, .int s, .int k] h (some (.int (-4))) (kp h) := by
  refine cm_of rfl (Nat.le_of_ble_eq_true rfl) [(0, .ref (G.1 + 0)), (1, .int t), (2, .int p), (3, .int d), (4, .int s), (5, .int k)] rfl ?_
  refine aw_iload_n 1 dX8_move_0 rfl rfl ?_
  refine aw_dS [.int t] [] lX8_154 sX8_isThing mX8_isThing dX8_move_1 (X8_isThing_t (by omega)) rfl (Nat.le_of_ble_eq_true rfl) (by decide) (by decide) rfl ?_
  refine aw_if_eq 17 dX8_move_4 (by decide) (fun c4 => absurd c4 (by decide)) (fun c4 => ?_)
  refine aw_iload_n 2 dX8_move_7 rfl rfl ?_
  refine aw_if_lt 17 dX8_move_8 (by decide) (fun c8 => absurd c8 (by simp only [i_lt, (show (0 : Int32).toInt = 0 from rfl)] <;> omega)) (fun c8 => ?_)
  refine aw_iload_n 2 dX8_move_11 rfl rfl ?_
  refine aw_bipush (8) dX8_move_12 (by decide) ?_
  refine aw_icmp_lt 23 dX8_move_14 (by decide) (fun c14 => ?_) (fun c14 => absurd (by simp only [i_lt, (show (8 : Int32).toInt = 8 from rfl)] <;> omega) c14)
  refine aw_iload 4 dX8_move_23 rfl ?_
  refine aw_if_lt 34 dX8_move_25 (by decide) (fun c25 => absurd c25 (by simp only [i_lt, (show (0 : Int32).toInt = 0 from rfl)] <;> omega)) (fun c25 => ?_)
  refine aw_iload 4 dX8_move_28 rfl ?_
  refine aw_iconst (4) dX8_move_30 (by decide) ?_
  refine aw_icmp_le 41 dX8_move_31 (by decide) (fun c31 => ?_) (fun c31 => absurd (by simp only [i_le, (show (4 : Int32).toInt = 4 from rfl)] <;> omega) c31)
  refine aw_iload_n 3 dX8_move_41 rfl rfl ?_
  refine aw_iload 5 dX8_move_42 rfl ?_
  refine aw_dS [.int d, .int k] [] lX8_157 sX8_daysRefusal mX8_daysRefusal dX8_move_44 (X8_daysRefusal_a (by omega)) rfl (Nat.le_of_ble_eq_true rfl) (by decide) (by decide) rfl ?_
  refine aw_istore [(6, .int (-4)), (0, .ref (G.1 + 0)), (1, .int t), (2, .int p), (3, .int d), (4, .int s), (5, .int k)] dX8_move_47 (by decide) rfl ?_
  refine aw_iload 0 dX8_move_49 rfl ?_
  refine aw_if_eq 61 dX8_move_51 (by decide) (fun c51 => absurd c51 (by decide)) (fun c51 => ?_)
  refine aw_aload_n 1 dX8_move_54 rfl rfl ?_
  refine aw_iload 0 dX8_move_55 rfl ?_
  refine aw_eV [.int (-4)] [] lX8_70 vX8_refuse mX8_refuse dX8_move_57 (X8_refuse4 hF) hF.1 rfl rfl rfl (Nat.le_of_ble_eq_true rfl) (by decide) (by decide) rfl (fun h91 q92 => ?_)
  exact aw_iret rfl dX8_move_60 (by decide) (by decide) ⟨rfl, (kp_tr (kp_rf h) q92)⟩
set_option maxHeartbeats 4000000 in
theorem B14a {l : Launch} {G : xG} {h : List va_E} {t p d s k : Int32} (hM : xF9 G h) (ht : 0 ≤ t.toInt ∧ t.toInt < 12)(hp : 0 ≤ p.toInt ∧ p.toInt < 8)(hs : 0 ≤ s.toInt ∧ s.toInt < 5)(h0 : d.toInt < 0) : CE l G yX9_move cX9_move 7 (some .int) 2 0 0 [.ref (G.1 + 88), .int t, .int p, .int d, .int s, .int k] h (some (.int (-4))) (fun _ => True) := by
  refine cm_of rfl (Nat.le_of_ble_eq_true rfl) [(0, .ref (G.1 + 88)), (1, .int t), (2, .int p), (3, .int d), (4, .int s), (5, .int k)] rfl ?_
  refine aw_iload_n 1 dX9_move_0 rfl rfl ?_
  refine aw_bipush (12) dX9_move_1 (by decide) ?_
  refine aw_dS [.int t, .int 12] [] lX9_126 sX9_isIn mX9_isIn dX9_move_3 (X9_isIn12_t (by omega)) rfl (Nat.le_of_ble_eq_true rfl) (by decide) (by decide) rfl ?_
  refine aw_if_eq 18 dX9_move_6 (by decide) (fun c6 => absurd c6 (by decide)) (fun c6 => ?_)
  refine aw_iload_n 2 dX9_move_9 rfl rfl ?_
  refine aw_bipush (8) dX9_move_10 (by decide) ?_
  refine aw_dS [.int p, .int 8] [] lX9_126 sX9_isIn mX9_isIn dX9_move_12 (X9_isIn8_t (by omega)) rfl (Nat.le_of_ble_eq_true rfl) (by decide) (by decide) rfl ?_
  refine aw_if_ne 22 dX9_move_15 (by decide) (fun c15 => ?_) (fun c15 => absurd c15 (by decide))
  refine aw_iload 4 dX9_move_22 rfl ?_
  refine aw_iconst (5) dX9_move_24 (by decide) ?_
  refine aw_dS [.int s, .int 5] [] lX9_126 sX9_isIn mX9_isIn dX9_move_25 (X9_isIn5_t (by omega)) rfl (Nat.le_of_ble_eq_true rfl) (by decide) (by decide) rfl ?_
  refine aw_if_ne 36 dX9_move_28 (by decide) (fun c28 => ?_) (fun c28 => absurd c28 (by decide))
  refine aw_iload_n 3 dX9_move_36 rfl rfl ?_
  refine aw_iload 5 dX9_move_37 rfl ?_
  refine aw_dS [.int d, .int k] [] lX9_195 sX9_wrongDays mX9_wrongDays dX9_move_39 (X9_wrongDays_a (by omega)) rfl (Nat.le_of_ble_eq_true rfl) (by decide) (by decide) rfl ?_
  refine aw_istore [(6, .int (-4)), (0, .ref (G.1 + 88)), (1, .int t), (2, .int p), (3, .int d), (4, .int s), (5, .int k)] dX9_move_42 (by decide) rfl ?_
  refine aw_iload 0 dX9_move_44 rfl ?_
  refine aw_if_ne 62 dX9_move_46 (by decide) (fun c46 => ?_) (fun c46 => absurd c46 (by decide))
  refine aw_iload 0 dX9_move_62 rfl ?_
  refine aw_if_eq 74 dX9_move_64 (by decide) (fun c64 => absurd c64 (by decide)) (fun c64 => ?_)
  refine aw_aload_n 1 dX9_move_67 rfl rfl ?_
  refine aw_iload 0 dX9_move_68 rfl ?_
  refine aw_eV [.int (-4)] [] lX9_130 vX9_refuse mX9_refuse dX9_move_70 (X9_refuse4 hM) hM.1 rfl rfl rfl (Nat.le_of_ble_eq_true rfl) (by decide) (by decide) rfl (fun h93 q94 => ?_)
  exact aw_iret rfl dX9_move_73 (by decide) (by decide) ⟨rfl, trivial⟩
set_option maxHeartbeats 4000000 in
theorem A14b {l : Launch} {G : xG} {h : List va_E} {t p d s k : Int32} (hF : xF8 G h) (ht : 0 ≤ t.toInt ∧ t.toInt < 12)(hp : 0 ≤ p.toInt ∧ p.toInt < 8)(hs : 0 ≤ s.toInt ∧ s.toInt < 5)(h0 : 0 ≤ d.toInt) (h1 : k.toInt < 0) : CE l G yX8_move cX8_move 7 (some .int) 2 0 0 [.ref (G.1 + 0), .int t, .int p, .int d, .int s, .int k] h (some (.int (-4))) (kp h) := by
  refine cm_of rfl (Nat.le_of_ble_eq_true rfl) [(0, .ref (G.1 + 0)), (1, .int t), (2, .int p), (3, .int d), (4, .int s), (5, .int k)] rfl ?_
  refine aw_iload_n 1 dX8_move_0 rfl rfl ?_
  refine aw_dS [.int t] [] lX8_154 sX8_isThing mX8_isThing dX8_move_1 (X8_isThing_t (by omega)) rfl (Nat.le_of_ble_eq_true rfl) (by decide) (by decide) rfl ?_
  refine aw_if_eq 17 dX8_move_4 (by decide) (fun c4 => absurd c4 (by decide)) (fun c4 => ?_)
  refine aw_iload_n 2 dX8_move_7 rfl rfl ?_
  refine aw_if_lt 17 dX8_move_8 (by decide) (fun c8 => absurd c8 (by simp only [i_lt, (show (0 : Int32).toInt = 0 from rfl)] <;> omega)) (fun c8 => ?_)
  refine aw_iload_n 2 dX8_move_11 rfl rfl ?_
  refine aw_bipush (8) dX8_move_12 (by decide) ?_
  refine aw_icmp_lt 23 dX8_move_14 (by decide) (fun c14 => ?_) (fun c14 => absurd (by simp only [i_lt, (show (8 : Int32).toInt = 8 from rfl)] <;> omega) c14)
  refine aw_iload 4 dX8_move_23 rfl ?_
  refine aw_if_lt 34 dX8_move_25 (by decide) (fun c25 => absurd c25 (by simp only [i_lt, (show (0 : Int32).toInt = 0 from rfl)] <;> omega)) (fun c25 => ?_)
  refine aw_iload 4 dX8_move_28 rfl ?_
  refine aw_iconst (4) dX8_move_30 (by decide) ?_
  refine aw_icmp_le 41 dX8_move_31 (by decide) (fun c31 => ?_) (fun c31 => absurd (by simp only [i_le, (show (4 : Int32).toInt = 4 from rfl)] <;> omega) c31)
  refine aw_iload_n 3 dX8_move_41 rfl rfl ?_
  refine aw_iload 5 dX8_move_42 rfl ?_
  refine aw_dS [.int d, .int k] [] lX8_157 sX8_daysRefusal mX8_daysRefusal dX8_move_44 (X8_daysRefusal_b (by omega) (by omega)) rfl (Nat.le_of_ble_eq_true rfl) (by decide) (by decide) rfl ?_
  refine aw_istore [(6, .int (-4)), (0, .ref (G.1 + 0)), (1, .int t), (2, .int p), (3, .int d), (4, .int s), (5, .int k)] dX8_move_47 (by decide) rfl ?_
  refine aw_iload 0 dX8_move_49 rfl ?_
  refine aw_if_eq 61 dX8_move_51 (by decide) (fun c51 => absurd c51 (by decide)) (fun c51 => ?_)
  refine aw_aload_n 1 dX8_move_54 rfl rfl ?_
  refine aw_iload 0 dX8_move_55 rfl ?_
  refine aw_eV [.int (-4)] [] lX8_70 vX8_refuse mX8_refuse dX8_move_57 (X8_refuse4 hF) hF.1 rfl rfl rfl (Nat.le_of_ble_eq_true rfl) (by decide) (by decide) rfl (fun h95 q96 => ?_)
  exact aw_iret rfl dX8_move_60 (by decide) (by decide) ⟨rfl, (kp_tr (kp_rf h) q96)⟩
set_option maxHeartbeats 4000000 in
theorem B14b {l : Launch} {G : xG} {h : List va_E} {t p d s k : Int32} (hM : xF9 G h) (ht : 0 ≤ t.toInt ∧ t.toInt < 12)(hp : 0 ≤ p.toInt ∧ p.toInt < 8)(hs : 0 ≤ s.toInt ∧ s.toInt < 5)(h0 : 0 ≤ d.toInt) (h1 : k.toInt < 0) : CE l G yX9_move cX9_move 7 (some .int) 2 0 0 [.ref (G.1 + 88), .int t, .int p, .int d, .int s, .int k] h (some (.int (-4))) (fun _ => True) := by
  refine cm_of rfl (Nat.le_of_ble_eq_true rfl) [(0, .ref (G.1 + 88)), (1, .int t), (2, .int p), (3, .int d), (4, .int s), (5, .int k)] rfl ?_
  refine aw_iload_n 1 dX9_move_0 rfl rfl ?_
  refine aw_bipush (12) dX9_move_1 (by decide) ?_
  refine aw_dS [.int t, .int 12] [] lX9_126 sX9_isIn mX9_isIn dX9_move_3 (X9_isIn12_t (by omega)) rfl (Nat.le_of_ble_eq_true rfl) (by decide) (by decide) rfl ?_
  refine aw_if_eq 18 dX9_move_6 (by decide) (fun c6 => absurd c6 (by decide)) (fun c6 => ?_)
  refine aw_iload_n 2 dX9_move_9 rfl rfl ?_
  refine aw_bipush (8) dX9_move_10 (by decide) ?_
  refine aw_dS [.int p, .int 8] [] lX9_126 sX9_isIn mX9_isIn dX9_move_12 (X9_isIn8_t (by omega)) rfl (Nat.le_of_ble_eq_true rfl) (by decide) (by decide) rfl ?_
  refine aw_if_ne 22 dX9_move_15 (by decide) (fun c15 => ?_) (fun c15 => absurd c15 (by decide))
  refine aw_iload 4 dX9_move_22 rfl ?_
  refine aw_iconst (5) dX9_move_24 (by decide) ?_
  refine aw_dS [.int s, .int 5] [] lX9_126 sX9_isIn mX9_isIn dX9_move_25 (X9_isIn5_t (by omega)) rfl (Nat.le_of_ble_eq_true rfl) (by decide) (by decide) rfl ?_
  refine aw_if_ne 36 dX9_move_28 (by decide) (fun c28 => ?_) (fun c28 => absurd c28 (by decide))
  refine aw_iload_n 3 dX9_move_36 rfl rfl ?_
  refine aw_iload 5 dX9_move_37 rfl ?_
  refine aw_dS [.int d, .int k] [] lX9_195 sX9_wrongDays mX9_wrongDays dX9_move_39 (X9_wrongDays_b (by omega) (by omega)) rfl (Nat.le_of_ble_eq_true rfl) (by decide) (by decide) rfl ?_
  refine aw_istore [(6, .int (-4)), (0, .ref (G.1 + 88)), (1, .int t), (2, .int p), (3, .int d), (4, .int s), (5, .int k)] dX9_move_42 (by decide) rfl ?_
  refine aw_iload 0 dX9_move_44 rfl ?_
  refine aw_if_ne 62 dX9_move_46 (by decide) (fun c46 => ?_) (fun c46 => absurd c46 (by decide))
  refine aw_iload 0 dX9_move_62 rfl ?_
  refine aw_if_eq 74 dX9_move_64 (by decide) (fun c64 => absurd c64 (by decide)) (fun c64 => ?_)
  refine aw_aload_n 1 dX9_move_67 rfl rfl ?_
  refine aw_iload 0 dX9_move_68 rfl ?_
  refine aw_eV [.int (-4)] [] lX9_130 vX9_refuse mX9_refuse dX9_move_70 (X9_refuse4 hM) hM.1 rfl rfl rfl (Nat.le_of_ble_eq_true rfl) (by decide) (by decide) rfl (fun h97 q98 => ?_)
  exact aw_iret rfl dX9_move_73 (by decide) (by decide) ⟨rfl, trivial⟩
set_option maxHeartbeats 4000000 in
theorem A14c {l : Launch} {G : xG} {h : List va_E} {t p d s k : Int32} (hF : xF8 G h) (ht : 0 ≤ t.toInt ∧ t.toInt < 12)(hp : 0 ≤ p.toInt ∧ p.toInt < 8)(hs : 0 ≤ s.toInt ∧ s.toInt < 5)(h0 : 80000 < d.toInt) (h1 : 0 ≤ k.toInt) : CE l G yX8_move cX8_move 7 (some .int) 2 0 0 [.ref (G.1 + 0), .int t, .int p, .int d, .int s, .int k] h (some (.int (-6))) (kp h) := by
  refine cm_of rfl (Nat.le_of_ble_eq_true rfl) [(0, .ref (G.1 + 0)), (1, .int t), (2, .int p), (3, .int d), (4, .int s), (5, .int k)] rfl ?_
  refine aw_iload_n 1 dX8_move_0 rfl rfl ?_
  refine aw_dS [.int t] [] lX8_154 sX8_isThing mX8_isThing dX8_move_1 (X8_isThing_t (by omega)) rfl (Nat.le_of_ble_eq_true rfl) (by decide) (by decide) rfl ?_
  refine aw_if_eq 17 dX8_move_4 (by decide) (fun c4 => absurd c4 (by decide)) (fun c4 => ?_)
  refine aw_iload_n 2 dX8_move_7 rfl rfl ?_
  refine aw_if_lt 17 dX8_move_8 (by decide) (fun c8 => absurd c8 (by simp only [i_lt, (show (0 : Int32).toInt = 0 from rfl)] <;> omega)) (fun c8 => ?_)
  refine aw_iload_n 2 dX8_move_11 rfl rfl ?_
  refine aw_bipush (8) dX8_move_12 (by decide) ?_
  refine aw_icmp_lt 23 dX8_move_14 (by decide) (fun c14 => ?_) (fun c14 => absurd (by simp only [i_lt, (show (8 : Int32).toInt = 8 from rfl)] <;> omega) c14)
  refine aw_iload 4 dX8_move_23 rfl ?_
  refine aw_if_lt 34 dX8_move_25 (by decide) (fun c25 => absurd c25 (by simp only [i_lt, (show (0 : Int32).toInt = 0 from rfl)] <;> omega)) (fun c25 => ?_)
  refine aw_iload 4 dX8_move_28 rfl ?_
  refine aw_iconst (4) dX8_move_30 (by decide) ?_
  refine aw_icmp_le 41 dX8_move_31 (by decide) (fun c31 => ?_) (fun c31 => absurd (by simp only [i_le, (show (4 : Int32).toInt = 4 from rfl)] <;> omega) c31)
  refine aw_iload_n 3 dX8_move_41 rfl rfl ?_
  refine aw_iload 5 dX8_move_42 rfl ?_
  refine aw_dS [.int d, .int k] [] lX8_157 sX8_daysRefusal mX8_daysRefusal dX8_move_44 (X8_daysRefusal_c (by omega) (by omega)) rfl (Nat.le_of_ble_eq_true rfl) (by decide) (by decide) rfl ?_
  refine aw_istore [(6, .int (-6)), (0, .ref (G.1 + 0)), (1, .int t), (2, .int p), (3, .int d), (4, .int s), (5, .int k)] dX8_move_47 (by decide) rfl ?_
  refine aw_iload 0 dX8_move_49 rfl ?_
  refine aw_if_eq 61 dX8_move_51 (by decide) (fun c51 => absurd c51 (by decide)) (fun c51 => ?_)
  refine aw_aload_n 1 dX8_move_54 rfl rfl ?_
  refine aw_iload 0 dX8_move_55 rfl ?_
  refine aw_eV [.int (-6)] [] lX8_70 vX8_refuse mX8_refuse dX8_move_57 (X8_refuse6 hF) hF.1 rfl rfl rfl (Nat.le_of_ble_eq_true rfl) (by decide) (by decide) rfl (fun h99 q100 => ?_)
  exact aw_iret rfl dX8_move_60 (by decide) (by decide) ⟨rfl, (kp_tr (kp_rf h) q100)⟩
set_option maxHeartbeats 4000000 in
theorem B14c {l : Launch} {G : xG} {h : List va_E} {t p d s k : Int32} (hM : xF9 G h) (ht : 0 ≤ t.toInt ∧ t.toInt < 12)(hp : 0 ≤ p.toInt ∧ p.toInt < 8)(hs : 0 ≤ s.toInt ∧ s.toInt < 5)(h0 : 80000 < d.toInt) (h1 : 0 ≤ k.toInt) : CE l G yX9_move cX9_move 7 (some .int) 2 0 0 [.ref (G.1 + 88), .int t, .int p, .int d, .int s, .int k] h (some (.int (-6))) (fun _ => True) := by
  refine cm_of rfl (Nat.le_of_ble_eq_true rfl) [(0, .ref (G.1 + 88)), (1, .int t), (2, .int p), (3, .int d), (4, .int s), (5, .int k)] rfl ?_
  refine aw_iload_n 1 dX9_move_0 rfl rfl ?_
  refine aw_bipush (12) dX9_move_1 (by decide) ?_
  refine aw_dS [.int t, .int 12] [] lX9_126 sX9_isIn mX9_isIn dX9_move_3 (X9_isIn12_t (by omega)) rfl (Nat.le_of_ble_eq_true rfl) (by decide) (by decide) rfl ?_
  refine aw_if_eq 18 dX9_move_6 (by decide) (fun c6 => absurd c6 (by decide)) (fun c6 => ?_)
  refine aw_iload_n 2 dX9_move_9 rfl rfl ?_
  refine aw_bipush (8) dX9_move_10 (by decide) ?_
  refine aw_dS [.int p, .int 8] [] lX9_126 sX9_isIn mX9_isIn dX9_move_12 (X9_isIn8_t (by omega)) rfl (Nat.le_of_ble_eq_true rfl) (by decide) (by decide) rfl ?_
  refine aw_if_ne 22 dX9_move_15 (by decide) (fun c15 => ?_) (fun c15 => absurd c15 (by decide))
  refine aw_iload 4 dX9_move_22 rfl ?_
  refine aw_iconst (5) dX9_move_24 (by decide) ?_
  refine aw_dS [.int s, .int 5] [] lX9_126 sX9_isIn mX9_isIn dX9_move_25 (X9_isIn5_t (by omega)) rfl (Nat.le_of_ble_eq_true rfl) (by decide) (by decide) rfl ?_
  refine aw_if_ne 36 dX9_move_28 (by decide) (fun c28 => ?_) (fun c28 => absurd c28 (by decide))
  refine aw_iload_n 3 dX9_move_36 rfl rfl ?_
  refine aw_iload 5 dX9_move_37 rfl ?_
  refine aw_dS [.int d, .int k] [] lX9_195 sX9_wrongDays mX9_wrongDays dX9_move_39 (X9_wrongDays_c (by omega) (by omega)) rfl (Nat.le_of_ble_eq_true rfl) (by decide) (by decide) rfl ?_
  refine aw_istore [(6, .int (-6)), (0, .ref (G.1 + 88)), (1, .int t), (2, .int p), (3, .int d), (4, .int s), (5, .int k)] dX9_move_42 (by decide) rfl ?_
  refine aw_iload 0 dX9_move_44 rfl ?_
  refine aw_if_ne 62 dX9_move_46 (by decide) (fun c46 => ?_) (fun c46 => absurd c46 (by decide))
  refine aw_iload 0 dX9_move_62 rfl ?_
  refine aw_if_eq 74 dX9_move_64 (by decide) (fun c64 => absurd c64 (by decide)) (fun c64 => ?_)
  refine aw_aload_n 1 dX9_move_67 rfl rfl ?_
  refine aw_iload 0 dX9_move_68 rfl ?_
  refine aw_eV [.int (-6)] [] lX9_130 vX9_refuse mX9_refuse dX9_move_70 (X9_refuse6 hM) hM.1 rfl rfl rfl (Nat.le_of_ble_eq_true rfl) (by decide) (by decide) rfl (fun h101 q102 => ?_)
  exact aw_iret rfl dX9_move_73 (by decide) (by decide) ⟨rfl, trivial⟩
set_option maxHeartbeats 4000000 in
theorem A14e {l : Launch} {G : xG} {h : List va_E} {t p d s k : Int32} (hF : xF8 G h) (ht : 0 ≤ t.toInt ∧ t.toInt < 12)(hp : 0 ≤ p.toInt ∧ p.toInt < 8)(hs : 0 ≤ s.toInt ∧ s.toInt < 5)(h0 : 0 ≤ d.toInt ∧ d.toInt < 80001) (h1 : 80000 < k.toInt) : CE l G yX8_move cX8_move 7 (some .int) 2 0 0 [.ref (G.1 + 0), .int t, .int p, .int d, .int s, .int k] h (some (.int (-6))) (kp h) := by
  refine cm_of rfl (Nat.le_of_ble_eq_true rfl) [(0, .ref (G.1 + 0)), (1, .int t), (2, .int p), (3, .int d), (4, .int s), (5, .int k)] rfl ?_
  refine aw_iload_n 1 dX8_move_0 rfl rfl ?_
  refine aw_dS [.int t] [] lX8_154 sX8_isThing mX8_isThing dX8_move_1 (X8_isThing_t (by omega)) rfl (Nat.le_of_ble_eq_true rfl) (by decide) (by decide) rfl ?_
  refine aw_if_eq 17 dX8_move_4 (by decide) (fun c4 => absurd c4 (by decide)) (fun c4 => ?_)
  refine aw_iload_n 2 dX8_move_7 rfl rfl ?_
  refine aw_if_lt 17 dX8_move_8 (by decide) (fun c8 => absurd c8 (by simp only [i_lt, (show (0 : Int32).toInt = 0 from rfl)] <;> omega)) (fun c8 => ?_)
  refine aw_iload_n 2 dX8_move_11 rfl rfl ?_
  refine aw_bipush (8) dX8_move_12 (by decide) ?_
  refine aw_icmp_lt 23 dX8_move_14 (by decide) (fun c14 => ?_) (fun c14 => absurd (by simp only [i_lt, (show (8 : Int32).toInt = 8 from rfl)] <;> omega) c14)
  refine aw_iload 4 dX8_move_23 rfl ?_
  refine aw_if_lt 34 dX8_move_25 (by decide) (fun c25 => absurd c25 (by simp only [i_lt, (show (0 : Int32).toInt = 0 from rfl)] <;> omega)) (fun c25 => ?_)
  refine aw_iload 4 dX8_move_28 rfl ?_
  refine aw_iconst (4) dX8_move_30 (by decide) ?_
  refine aw_icmp_le 41 dX8_move_31 (by decide) (fun c31 => ?_) (fun c31 => absurd (by simp only [i_le, (show (4 : Int32).toInt = 4 from rfl)] <;> omega) c31)
  refine aw_iload_n 3 dX8_move_41 rfl rfl ?_
  refine aw_iload 5 dX8_move_42 rfl ?_
  refine aw_dS [.int d, .int k] [] lX8_157 sX8_daysRefusal mX8_daysRefusal dX8_move_44 (X8_daysRefusal_e (by omega) (by omega)) rfl (Nat.le_of_ble_eq_true rfl) (by decide) (by decide) rfl ?_
  refine aw_istore [(6, .int (-6)), (0, .ref (G.1 + 0)), (1, .int t), (2, .int p), (3, .int d), (4, .int s), (5, .int k)] dX8_move_47 (by decide) rfl ?_
  refine aw_iload 0 dX8_move_49 rfl ?_
  refine aw_if_eq 61 dX8_move_51 (by decide) (fun c51 => absurd c51 (by decide)) (fun c51 => ?_)
  refine aw_aload_n 1 dX8_move_54 rfl rfl ?_
  refine aw_iload 0 dX8_move_55 rfl ?_
  refine aw_eV [.int (-6)] [] lX8_70 vX8_refuse mX8_refuse dX8_move_57 (X8_refuse6 hF) hF.1 rfl rfl rfl (Nat.le_of_ble_eq_true rfl) (by decide) (by decide) rfl (fun h103 q104 => ?_)
  exact aw_iret rfl dX8_move_60 (by decide) (by decide) ⟨rfl, (kp_tr (kp_rf h) q104)⟩
set_option maxHeartbeats 4000000 in
theorem B14e {l : Launch} {G : xG} {h : List va_E} {t p d s k : Int32} (hM : xF9 G h) (ht : 0 ≤ t.toInt ∧ t.toInt < 12)(hp : 0 ≤ p.toInt ∧ p.toInt < 8)(hs : 0 ≤ s.toInt ∧ s.toInt < 5)(h0 : 0 ≤ d.toInt ∧ d.toInt < 80001) (h1 : 80000 < k.toInt) : CE l G yX9_move cX9_move 7 (some .int) 2 0 0 [.ref (G.1 + 88), .int t, .int p, .int d, .int s, .int k] h (some (.int (-6))) (fun _ => True) := by
  refine cm_of rfl (Nat.le_of_ble_eq_true rfl) [(0, .ref (G.1 + 88)), (1, .int t), (2, .int p), (3, .int d), (4, .int s), (5, .int k)] rfl ?_
  refine aw_iload_n 1 dX9_move_0 rfl rfl ?_
  refine aw_bipush (12) dX9_move_1 (by decide) ?_
  refine aw_dS [.int t, .int 12] [] lX9_126 sX9_isIn mX9_isIn dX9_move_3 (X9_isIn12_t (by omega)) rfl (Nat.le_of_ble_eq_true rfl) (by decide) (by decide) rfl ?_
  refine aw_if_eq 18 dX9_move_6 (by decide) (fun c6 => absurd c6 (by decide)) (fun c6 => ?_)
  refine aw_iload_n 2 dX9_move_9 rfl rfl ?_
  refine aw_bipush (8) dX9_move_10 (by decide) ?_
  refine aw_dS [.int p, .int 8] [] lX9_126 sX9_isIn mX9_isIn dX9_move_12 (X9_isIn8_t (by omega)) rfl (Nat.le_of_ble_eq_true rfl) (by decide) (by decide) rfl ?_
  refine aw_if_ne 22 dX9_move_15 (by decide) (fun c15 => ?_) (fun c15 => absurd c15 (by decide))
  refine aw_iload 4 dX9_move_22 rfl ?_
  refine aw_iconst (5) dX9_move_24 (by decide) ?_
  refine aw_dS [.int s, .int 5] [] lX9_126 sX9_isIn mX9_isIn dX9_move_25 (X9_isIn5_t (by omega)) rfl (Nat.le_of_ble_eq_true rfl) (by decide) (by decide) rfl ?_
  refine aw_if_ne 36 dX9_move_28 (by decide) (fun c28 => ?_) (fun c28 => absurd c28 (by decide))
  refine aw_iload_n 3 dX9_move_36 rfl rfl ?_
  refine aw_iload 5 dX9_move_37 rfl ?_
  refine aw_dS [.int d, .int k] [] lX9_195 sX9_wrongDays mX9_wrongDays dX9_move_39 (X9_wrongDays_e (by omega) (by omega)) rfl (Nat.le_of_ble_eq_true rfl) (by decide) (by decide) rfl ?_
  refine aw_istore [(6, .int (-6)), (0, .ref (G.1 + 88)), (1, .int t), (2, .int p), (3, .int d), (4, .int s), (5, .int k)] dX9_move_42 (by decide) rfl ?_
  refine aw_iload 0 dX9_move_44 rfl ?_
  refine aw_if_ne 62 dX9_move_46 (by decide) (fun c46 => ?_) (fun c46 => absurd c46 (by decide))
  refine aw_iload 0 dX9_move_62 rfl ?_
  refine aw_if_eq 74 dX9_move_64 (by decide) (fun c64 => absurd c64 (by decide)) (fun c64 => ?_)
  refine aw_aload_n 1 dX9_move_67 rfl rfl ?_
  refine aw_iload 0 dX9_move_68 rfl ?_
  refine aw_eV [.int (-6)] [] lX9_130 vX9_refuse mX9_refuse dX9_move_70 (X9_refuse6 hM) hM.1 rfl rfl rfl (Nat.le_of_ble_eq_true rfl) (by decide) (by decide) rfl (fun h105 q106 => ?_)
  exact aw_iret rfl dX9_move_73 (by decide) (by decide) ⟨rfl, trivial⟩
set_option maxHeartbeats 4000000 in
theorem A14o {l : Launch} {G : xG} {h : List va_E} {t p d s k : Int32} (hF : xF8 G h) (ht : 0 ≤ t.toInt ∧ t.toInt < 12)(hp : 0 ≤ p.toInt ∧ p.toInt < 8)(hs : 0 ≤ s.toInt ∧ s.toInt < 5)(h0 : 0 ≤ d.toInt ∧ d.toInt < 80001) (h1 : 0 ≤ k.toInt ∧ k.toInt < 80001) : CE l G yX8_move cX8_move 7 (some .int) 2 0 0 [.ref (G.1 + 0), .int t, .int p, .int d, .int s, .int k] h (some (.int 0)) (kp h) := by
  refine cm_of rfl (Nat.le_of_ble_eq_true rfl) [(0, .ref (G.1 + 0)), (1, .int t), (2, .int p), (3, .int d), (4, .int s), (5, .int k)] rfl ?_
  refine aw_iload_n 1 dX8_move_0 rfl rfl ?_
  refine aw_dS [.int t] [] lX8_154 sX8_isThing mX8_isThing dX8_move_1 (X8_isThing_t (by omega)) rfl (Nat.le_of_ble_eq_true rfl) (by decide) (by decide) rfl ?_
  refine aw_if_eq 17 dX8_move_4 (by decide) (fun c4 => absurd c4 (by decide)) (fun c4 => ?_)
  refine aw_iload_n 2 dX8_move_7 rfl rfl ?_
  refine aw_if_lt 17 dX8_move_8 (by decide) (fun c8 => absurd c8 (by simp only [i_lt, (show (0 : Int32).toInt = 0 from rfl)] <;> omega)) (fun c8 => ?_)
  refine aw_iload_n 2 dX8_move_11 rfl rfl ?_
  refine aw_bipush (8) dX8_move_12 (by decide) ?_
  refine aw_icmp_lt 23 dX8_move_14 (by decide) (fun c14 => ?_) (fun c14 => absurd (by simp only [i_lt, (show (8 : Int32).toInt = 8 from rfl)] <;> omega) c14)
  refine aw_iload 4 dX8_move_23 rfl ?_
  refine aw_if_lt 34 dX8_move_25 (by decide) (fun c25 => absurd c25 (by simp only [i_lt, (show (0 : Int32).toInt = 0 from rfl)] <;> omega)) (fun c25 => ?_)
  refine aw_iload 4 dX8_move_28 rfl ?_
  refine aw_iconst (4) dX8_move_30 (by decide) ?_
  refine aw_icmp_le 41 dX8_move_31 (by decide) (fun c31 => ?_) (fun c31 => absurd (by simp only [i_le, (show (4 : Int32).toInt = 4 from rfl)] <;> omega) c31)
  refine aw_iload_n 3 dX8_move_41 rfl rfl ?_
  refine aw_iload 5 dX8_move_42 rfl ?_
  refine aw_dS [.int d, .int k] [] lX8_157 sX8_daysRefusal mX8_daysRefusal dX8_move_44 (X8_daysRefusal_o (by omega) (by omega)) rfl (Nat.le_of_ble_eq_true rfl) (by decide) (by decide) rfl ?_
  refine aw_istore [(6, .int 0), (0, .ref (G.1 + 0)), (1, .int t), (2, .int p), (3, .int d), (4, .int s), (5, .int k)] dX8_move_47 (by decide) rfl ?_
  refine aw_iload 0 dX8_move_49 rfl ?_
  refine aw_if_eq 61 dX8_move_51 (by decide) (fun c51 => ?_) (fun c51 => absurd (by decide) c51)
  refine aw_aload_n 1 dX8_move_61 rfl rfl ?_
  refine aw_get fX8_38 dX8_move_62 hF.1 rfl ?_
  refine aw_get fX8_160 dX8_move_65 hF.2.2.2.2.2.2.2.2.2.2.2.2.2.2.2.2.2.2.2.2.2.1 rfl ?_
  refine aw_bipush (60) dX8_move_68 (by decide) ?_
  refine aw_icmp_lt 80 dX8_move_70 (by decide) (fun c70 => ?_) (fun c70 => absurd (by decide) c70)
  refine aw_aload_n 1 dX8_move_80 rfl rfl ?_
  refine aw_get fX8_38 dX8_move_81 hF.1 rfl ?_
  refine aw_iload_n 2 dX8_move_84 rfl rfl ?_
  refine aw_iload_n 3 dX8_move_85 rfl rfl ?_
  refine aw_iload_n 4 dX8_move_86 rfl rfl ?_
  refine aw_iload 5 dX8_move_87 rfl ?_
  refine aw_iload 6 dX8_move_89 rfl ?_
  refine aw_eV [.int t, .int p, .int d, .int s, .int k] [] lX8_162 vX5_addRecord mX5_addRecord dX8_move_91 (X5_addM hF) hF.2.2.2.2.2.2.2.2.2.2.2.2.2.2.2.2.2.2.2.2.2.1 rfl rfl rfl (Nat.le_of_ble_eq_true rfl) (by decide) (by decide) rfl (fun h107 q108 => ?_)
  exact aw_iret rfl dX8_move_94 (by decide) (by decide) ⟨rfl, (kp_tr (kp_rf h) q108)⟩
set_option maxHeartbeats 4000000 in
theorem B14o {l : Launch} {G : xG} {h : List va_E} {t p d s k : Int32} (hM : xF9 G h) (ht : 0 ≤ t.toInt ∧ t.toInt < 12)(hp : 0 ≤ p.toInt ∧ p.toInt < 8)(hs : 0 ≤ s.toInt ∧ s.toInt < 5)(h0 : 0 ≤ d.toInt ∧ d.toInt < 80001) (h1 : 0 ≤ k.toInt ∧ k.toInt < 80001) : CE l G yX9_move cX9_move 7 (some .int) 2 0 0 [.ref (G.1 + 88), .int t, .int p, .int d, .int s, .int k] h (some (.int 0)) (fun _ => True) := by
  refine cm_of rfl (Nat.le_of_ble_eq_true rfl) [(0, .ref (G.1 + 88)), (1, .int t), (2, .int p), (3, .int d), (4, .int s), (5, .int k)] rfl ?_
  refine aw_iload_n 1 dX9_move_0 rfl rfl ?_
  refine aw_bipush (12) dX9_move_1 (by decide) ?_
  refine aw_dS [.int t, .int 12] [] lX9_126 sX9_isIn mX9_isIn dX9_move_3 (X9_isIn12_t (by omega)) rfl (Nat.le_of_ble_eq_true rfl) (by decide) (by decide) rfl ?_
  refine aw_if_eq 18 dX9_move_6 (by decide) (fun c6 => absurd c6 (by decide)) (fun c6 => ?_)
  refine aw_iload_n 2 dX9_move_9 rfl rfl ?_
  refine aw_bipush (8) dX9_move_10 (by decide) ?_
  refine aw_dS [.int p, .int 8] [] lX9_126 sX9_isIn mX9_isIn dX9_move_12 (X9_isIn8_t (by omega)) rfl (Nat.le_of_ble_eq_true rfl) (by decide) (by decide) rfl ?_
  refine aw_if_ne 22 dX9_move_15 (by decide) (fun c15 => ?_) (fun c15 => absurd c15 (by decide))
  refine aw_iload 4 dX9_move_22 rfl ?_
  refine aw_iconst (5) dX9_move_24 (by decide) ?_
  refine aw_dS [.int s, .int 5] [] lX9_126 sX9_isIn mX9_isIn dX9_move_25 (X9_isIn5_t (by omega)) rfl (Nat.le_of_ble_eq_true rfl) (by decide) (by decide) rfl ?_
  refine aw_if_ne 36 dX9_move_28 (by decide) (fun c28 => ?_) (fun c28 => absurd c28 (by decide))
  refine aw_iload_n 3 dX9_move_36 rfl rfl ?_
  refine aw_iload 5 dX9_move_37 rfl ?_
  refine aw_dS [.int d, .int k] [] lX9_195 sX9_wrongDays mX9_wrongDays dX9_move_39 (X9_wrongDays_o (by omega) (by omega)) rfl (Nat.le_of_ble_eq_true rfl) (by decide) (by decide) rfl ?_
  refine aw_istore [(6, .int 0), (0, .ref (G.1 + 88)), (1, .int t), (2, .int p), (3, .int d), (4, .int s), (5, .int k)] dX9_move_42 (by decide) rfl ?_
  refine aw_iload 0 dX9_move_44 rfl ?_
  refine aw_if_ne 62 dX9_move_46 (by decide) (fun c46 => absurd (by decide) c46) (fun c46 => ?_)
  refine aw_aload_n 1 dX9_move_49 rfl rfl ?_
  refine aw_get fX9_202 dX9_move_50 hM.1 rfl ?_
  refine aw_bipush (60) dX9_move_53 (by decide) ?_
  refine aw_icmp_ne 62 dX9_move_55 (by decide) (fun c55 => ?_) (fun c55 => absurd c55 (by decide))
  refine aw_iload 0 dX9_move_62 rfl ?_
  refine aw_if_eq 74 dX9_move_64 (by decide) (fun c64 => ?_) (fun c64 => absurd (by decide) c64)
  refine aw_aload_n 1 dX9_move_74 rfl rfl ?_
  refine aw_get fX9_74 dX9_move_75 hM.1 rfl ?_
  refine aw_aload_n 1 dX9_move_78 rfl rfl ?_
  refine aw_get fX9_202 dX9_move_79 hM.1 rfl ?_
  refine aw_iload_n 2 dX9_move_82 rfl rfl ?_
  refine aw_iast 0 (rfl) (by decide) (by decide) dX9_move_83 hM.2.2.2.2.2.2.2.2.2.2.2.2.2.2.2.2.2.2.2.2.1 ?_
  refine aw_aload_n 1 dX9_move_84 rfl rfl ?_
  refine aw_get fX9_77 dX9_move_85 (gn (by decide) (hM.1)) rfl ?_
  refine aw_aload_n 1 dX9_move_88 rfl rfl ?_
  refine aw_get fX9_202 dX9_move_89 (gn (by decide) (hM.1)) rfl ?_
  refine aw_iload_n 3 dX9_move_92 rfl rfl ?_
  refine aw_iast 0 (rfl) (by decide) (by decide) dX9_move_93 (gn (by decide) (hM.2.2.2.2.2.2.2.2.2.2.2.2.2.2.2.2.2.2.2.2.2.1)) ?_
  refine aw_aload_n 1 dX9_move_94 rfl rfl ?_
  refine aw_get fX9_80 dX9_move_95 (gn (by decide) (gn (by decide) (hM.1))) rfl ?_
  refine aw_aload_n 1 dX9_move_98 rfl rfl ?_
  refine aw_get fX9_202 dX9_move_99 (gn (by decide) (gn (by decide) (hM.1))) rfl ?_
  refine aw_iload_n 4 dX9_move_102 rfl rfl ?_
  refine aw_iast 0 (rfl) (by decide) (by decide) dX9_move_103 (gn (by decide) (gn (by decide) (hM.2.2.2.2.2.2.2.2.2.2.2.2.2.2.2.2.2.2.2.2.2.2.1))) ?_
  refine aw_aload_n 1 dX9_move_104 rfl rfl ?_
  refine aw_get fX9_83 dX9_move_105 (gn (by decide) (gn (by decide) (gn (by decide) (hM.1)))) rfl ?_
  refine aw_aload_n 1 dX9_move_108 rfl rfl ?_
  refine aw_get fX9_202 dX9_move_109 (gn (by decide) (gn (by decide) (gn (by decide) (hM.1)))) rfl ?_
  refine aw_iload 5 dX9_move_112 rfl ?_
  refine aw_iast 0 (rfl) (by decide) (by decide) dX9_move_114 (gn (by decide) (gn (by decide) (gn (by decide) (hM.2.2.2.2.2.2.2.2.2.2.2.2.2.2.2.2.2.2.2.2.2.2.2.1)))) ?_
  refine aw_aload_n 1 dX9_move_115 rfl rfl ?_
  refine aw_get fX9_86 dX9_move_116 (gn (by decide) (gn (by decide) (gn (by decide) (gn (by decide) (hM.1))))) rfl ?_
  refine aw_aload_n 1 dX9_move_119 rfl rfl ?_
  refine aw_get fX9_202 dX9_move_120 (gn (by decide) (gn (by decide) (gn (by decide) (gn (by decide) (hM.1))))) rfl ?_
  refine aw_iload 6 dX9_move_123 rfl ?_
  refine aw_iast 0 (rfl) (by decide) (by decide) dX9_move_125 (gn (by decide) (gn (by decide) (gn (by decide) (gn (by decide) (hM.2.2.2.2.2.2.2.2.2.2.2.2.2.2.2.2.2.2.2.2.2.2.2.2.1))))) ?_
  refine aw_aload_n 1 dX9_move_126 rfl rfl ?_
  refine aw_get fX9_89 dX9_move_127 (gn (by decide) (gn (by decide) (gn (by decide) (gn (by decide) (gn (by decide) (hM.1)))))) rfl ?_
  refine aw_aload_n 1 dX9_move_130 rfl rfl ?_
  refine aw_get fX9_202 dX9_move_131 (gn (by decide) (gn (by decide) (gn (by decide) (gn (by decide) (gn (by decide) (hM.1)))))) rfl ?_
  refine aw_ldc (1000000000) kX9_201 dX9_move_134 ?_
  refine aw_iast 0 (rfl) (by decide) (by decide) dX9_move_136 (gn (by decide) (gn (by decide) (gn (by decide) (gn (by decide) (gn (by decide) (hM.2.2.2.2.2.2.2.2.2.2.2.2.2.2.2.2.2.2.2.2.2.2.2.2.2.1)))))) ?_
  refine aw_aload_n 1 dX9_move_137 rfl rfl ?_
  refine aw_dup dX9_move_138 rfl ?_
  refine aw_get fX9_202 dX9_move_139 (gn (by decide) (gn (by decide) (gn (by decide) (gn (by decide) (gn (by decide) (gn (by decide) (hM.1))))))) rfl ?_
  refine aw_iconst (1) dX9_move_142 (by decide) ?_
  refine aw_iadd dX9_move_143 ?_
  refine aw_toe 1 (by decide) ?_
  refine aw_putQ fX9_202 dX9_move_144 [.ref (G.1 + 89), .ref (G.1 + 90), .ref (G.1 + 91), .ref (G.1 + 92), .ref (G.1 + 93), .ref (G.1 + 94), .ref (G.1 + 95), .ref (G.1 + 96), .ref (G.1 + 97), .ref (G.1 + 98), .int 5, .int 1, .int 0, .ref (G.1 + 99), .ref (G.1 + 100), .ref (G.1 + 101), .ref (G.1 + 102), .int 0, .int 1, .ref (G.1 + 103), .ref (G.1 + 104), .ref (G.1 + 105), .ref (G.1 + 106), .ref (G.1 + 107), .ref (G.1 + 108), .ref (G.1 + 109), .ref (G.1 + 110), .ref (G.1 + 111), .ref (G.1 + 112), .ref (G.1 + 113), .ref (G.1 + 114), .ref (G.1 + 115), .int 0, .int 0, .int 0, .int 0, .ref (G.1 + 116), .ref (G.1 + 117), .ref (G.1 + 118), .ref (G.1 + 119), .ref (G.1 + 120), .ref (G.1 + 121), .ref (G.1 + 122), .int 0, .ref (G.1 + 123), .ref (G.1 + 124)] (gn (by decide) (gn (by decide) (gn (by decide) (gn (by decide) (gn (by decide) (gn (by decide) (hM.1))))))) rfl rfl rfl (Nat.le_of_ble_eq_true rfl) rfl ?_
  refine aw_aload_n 1 dX9_move_147 rfl rfl ?_
  refine aw_get fX9_202 dX9_move_148 (gs (gn (by decide) (gn (by decide) (gn (by decide) (gn (by decide) (gn (by decide) (gn (by decide) (hM.1)))))))) rfl ?_
  refine aw_iconst (1) dX9_move_151 (by decide) ?_
  refine aw_isub dX9_move_152 ?_
  refine aw_toe 0 (by decide) ?_
  exact aw_iret rfl dX9_move_153 (by decide) (by decide) ⟨rfl, trivial⟩
set_option maxHeartbeats 4000000 in
theorem A15_0n {l : Launch} {G : xG} {h : List va_E} {n k : Int32} (hF : xF8 G h) (hn : n.toInt < 0) : CE l G yX8_withdraw cX8_withdraw 5 (some .int) 2 0 0 [.ref (G.1 + 0), .int 0, .int n, .int k] h (some (.int (-1))) (kp h) := by
  refine cm_of rfl (Nat.le_of_ble_eq_true rfl) [(0, .ref (G.1 + 0)), (1, .int 0), (2, .int n), (3, .int k)] rfl ?_
  refine aw_iload_n 1 dX8_withdraw_0 rfl rfl ?_
  refine aw_if_eq 11 dX8_withdraw_1 (by decide) (fun c1 => ?_) (fun c1 => absurd (by decide) c1)
  refine aw_aload_n 0 dX8_withdraw_11 rfl rfl ?_
  refine aw_get fX8_38 dX8_withdraw_12 hF.1 rfl ?_
  refine aw_astore [(4, .ref (G.1 + 69)), (0, .ref (G.1 + 0)), (1, .int 0), (2, .int n), (3, .int k)] dX8_withdraw_15 (by decide) rfl ?_
  refine aw_iload_n 3 dX8_withdraw_17 rfl rfl ?_
  refine aw_if_lt 30 dX8_withdraw_18 (by decide) (fun c18 => ?_) (fun c18 => absurd (by simp only [i_lt, (show (0 : Int32).toInt = 0 from rfl)] <;> omega) c18)
  refine aw_aload_n 1 dX8_withdraw_30 rfl rfl ?_
  refine aw_iconst (-1) dX8_withdraw_31 (by decide) ?_
  refine aw_eV [.int (-1)] [] lX8_70 vX8_refuse mX8_refuse dX8_withdraw_32 (X8_refuse1 hF) hF.1 rfl rfl rfl (Nat.le_of_ble_eq_true rfl) (by decide) (by decide) rfl (fun h109 q110 => ?_)
  exact aw_iret rfl dX8_withdraw_35 (by decide) (by decide) ⟨rfl, (kp_tr (kp_rf h) q110)⟩
set_option maxHeartbeats 4000000 in
theorem A15_0p {l : Launch} {G : xG} {h : List va_E} {n k : Int32} (hF : xF8 G h) (hn : 0 ≤ n.toInt) : CE l G yX8_withdraw cX8_withdraw 5 (some .int) 2 0 0 [.ref (G.1 + 0), .int 0, .int n, .int k] h (some (.int (-1))) (kp h) := by
  refine cm_of rfl (Nat.le_of_ble_eq_true rfl) [(0, .ref (G.1 + 0)), (1, .int 0), (2, .int n), (3, .int k)] rfl ?_
  refine aw_iload_n 1 dX8_withdraw_0 rfl rfl ?_
  refine aw_if_eq 11 dX8_withdraw_1 (by decide) (fun c1 => ?_) (fun c1 => absurd (by decide) c1)
  refine aw_aload_n 0 dX8_withdraw_11 rfl rfl ?_
  refine aw_get fX8_38 dX8_withdraw_12 hF.1 rfl ?_
  refine aw_astore [(4, .ref (G.1 + 69)), (0, .ref (G.1 + 0)), (1, .int 0), (2, .int n), (3, .int k)] dX8_withdraw_15 (by decide) rfl ?_
  refine aw_iload_n 3 dX8_withdraw_17 rfl rfl ?_
  refine aw_if_lt 30 dX8_withdraw_18 (by decide) (fun c18 => absurd c18 (by simp only [i_lt, (show (0 : Int32).toInt = 0 from rfl)] <;> omega)) (fun c18 => ?_)
  refine aw_iload_n 3 dX8_withdraw_21 rfl rfl ?_
  refine aw_aload 0 dX8_withdraw_22 rfl ?_
  refine aw_get fX8_160 dX8_withdraw_24 hF.2.2.2.2.2.2.2.2.2.2.2.2.2.2.2.2.2.2.2.2.2.1 rfl ?_
  refine aw_icmp_lt 36 dX8_withdraw_27 (by decide) (fun c27 => absurd c27 (by simp only [i_lt, (show (0 : Int32).toInt = 0 from rfl)] <;> omega)) (fun c27 => ?_)
  refine aw_aload_n 1 dX8_withdraw_30 rfl rfl ?_
  refine aw_iconst (-1) dX8_withdraw_31 (by decide) ?_
  refine aw_eV [.int (-1)] [] lX8_70 vX8_refuse mX8_refuse dX8_withdraw_32 (X8_refuse1 hF) hF.1 rfl rfl rfl (Nat.le_of_ble_eq_true rfl) (by decide) (by decide) rfl (fun h111 q112 => ?_)
  exact aw_iret rfl dX8_withdraw_35 (by decide) (by decide) ⟨rfl, (kp_tr (kp_rf h) q112)⟩
theorem A15_0 {l : Launch} {G : xG} {h : List va_E} {n k : Int32} (hF : xF8 G h) : CE l G yX8_withdraw cX8_withdraw 5 (some .int) 2 0 0 [.ref (G.1 + 0), .int 0, .int n, .int k] h (some (.int (-1))) (kp h) := by
  by_cases hn : n.toInt < 0
  · exact A15_0n hF hn
  · exact A15_0p hF (by omega)
set_option maxHeartbeats 4000000 in
theorem A15_1n {l : Launch} {G : xG} {h : List va_E} {n k : Int32} (hF : xF8 G h) (hn : n.toInt < 0) : CE l G yX8_withdraw cX8_withdraw 5 (some .int) 2 0 0 [.ref (G.1 + 0), .int 1, .int n, .int k] h (some (.int (-1))) (kp h) := by
  refine cm_of rfl (Nat.le_of_ble_eq_true rfl) [(0, .ref (G.1 + 0)), (1, .int 1), (2, .int n), (3, .int k)] rfl ?_
  refine aw_iload_n 1 dX8_withdraw_0 rfl rfl ?_
  refine aw_if_eq 11 dX8_withdraw_1 (by decide) (fun c1 => absurd c1 (by decide)) (fun c1 => ?_)
  refine aw_aload_n 0 dX8_withdraw_4 rfl rfl ?_
  refine aw_get fX8_34 dX8_withdraw_5 hF.1 rfl ?_
  refine aw_goto 15 dX8_withdraw_8 (by decide) ?_
  refine aw_astore [(4, .ref (G.1 + 61)), (0, .ref (G.1 + 0)), (1, .int 1), (2, .int n), (3, .int k)] dX8_withdraw_15 (by decide) rfl ?_
  refine aw_iload_n 3 dX8_withdraw_17 rfl rfl ?_
  refine aw_if_lt 30 dX8_withdraw_18 (by decide) (fun c18 => ?_) (fun c18 => absurd (by simp only [i_lt, (show (0 : Int32).toInt = 0 from rfl)] <;> omega) c18)
  refine aw_aload_n 1 dX8_withdraw_30 rfl rfl ?_
  refine aw_iconst (-1) dX8_withdraw_31 (by decide) ?_
  refine aw_eV [.int (-1)] [] lX8_70 vX8_refuse mX8_refuse dX8_withdraw_32 (X8_refuse1 hF) hF.1 rfl rfl rfl (Nat.le_of_ble_eq_true rfl) (by decide) (by decide) rfl (fun h113 q114 => ?_)
  exact aw_iret rfl dX8_withdraw_35 (by decide) (by decide) ⟨rfl, (kp_tr (kp_rf h) q114)⟩
set_option maxHeartbeats 4000000 in
theorem A15_1p {l : Launch} {G : xG} {h : List va_E} {n k : Int32} (hF : xF8 G h) (hn : 0 ≤ n.toInt) : CE l G yX8_withdraw cX8_withdraw 5 (some .int) 2 0 0 [.ref (G.1 + 0), .int 1, .int n, .int k] h (some (.int (-1))) (kp h) := by
  refine cm_of rfl (Nat.le_of_ble_eq_true rfl) [(0, .ref (G.1 + 0)), (1, .int 1), (2, .int n), (3, .int k)] rfl ?_
  refine aw_iload_n 1 dX8_withdraw_0 rfl rfl ?_
  refine aw_if_eq 11 dX8_withdraw_1 (by decide) (fun c1 => absurd c1 (by decide)) (fun c1 => ?_)
  refine aw_aload_n 0 dX8_withdraw_4 rfl rfl ?_
  refine aw_get fX8_34 dX8_withdraw_5 hF.1 rfl ?_
  refine aw_goto 15 dX8_withdraw_8 (by decide) ?_
  refine aw_astore [(4, .ref (G.1 + 61)), (0, .ref (G.1 + 0)), (1, .int 1), (2, .int n), (3, .int k)] dX8_withdraw_15 (by decide) rfl ?_
  refine aw_iload_n 3 dX8_withdraw_17 rfl rfl ?_
  refine aw_if_lt 30 dX8_withdraw_18 (by decide) (fun c18 => absurd c18 (by simp only [i_lt, (show (0 : Int32).toInt = 0 from rfl)] <;> omega)) (fun c18 => ?_)
  refine aw_iload_n 3 dX8_withdraw_21 rfl rfl ?_
  refine aw_aload 0 dX8_withdraw_22 rfl ?_
  refine aw_get fX8_160 dX8_withdraw_24 hF.2.2.2.2.2.2.2.2.2.2.2.2.2.1 rfl ?_
  refine aw_icmp_lt 36 dX8_withdraw_27 (by decide) (fun c27 => absurd c27 (by simp only [i_lt, (show (0 : Int32).toInt = 0 from rfl)] <;> omega)) (fun c27 => ?_)
  refine aw_aload_n 1 dX8_withdraw_30 rfl rfl ?_
  refine aw_iconst (-1) dX8_withdraw_31 (by decide) ?_
  refine aw_eV [.int (-1)] [] lX8_70 vX8_refuse mX8_refuse dX8_withdraw_32 (X8_refuse1 hF) hF.1 rfl rfl rfl (Nat.le_of_ble_eq_true rfl) (by decide) (by decide) rfl (fun h115 q116 => ?_)
  exact aw_iret rfl dX8_withdraw_35 (by decide) (by decide) ⟨rfl, (kp_tr (kp_rf h) q116)⟩
theorem A15_1 {l : Launch} {G : xG} {h : List va_E} {n k : Int32} (hF : xF8 G h) : CE l G yX8_withdraw cX8_withdraw 5 (some .int) 2 0 0 [.ref (G.1 + 0), .int 1, .int n, .int k] h (some (.int (-1))) (kp h) := by
  by_cases hn : n.toInt < 0
  · exact A15_1n hF hn
  · exact A15_1p hF (by omega)
set_option maxHeartbeats 4000000 in
theorem B15_0n {l : Launch} {G : xG} {h : List va_E} {n k : Int32} (hM : xF9 G h) (hn : n.toInt < 0) : CE l G yX9_withdraw cX9_withdraw 5 (some .int) 2 0 0 [.ref (G.1 + 88), .int 0, .int n, .int k] h (some (.int (-1))) (fun _ => True) := by
  refine cm_of rfl (Nat.le_of_ble_eq_true rfl) [(0, .ref (G.1 + 88)), (1, .int 0), (2, .int n), (3, .int k)] rfl ?_
  refine aw_iload_n 2 dX9_withdraw_0 rfl rfl ?_
  refine aw_iload_n 1 dX9_withdraw_1 rfl rfl ?_
  refine aw_if_eq 12 dX9_withdraw_2 (by decide) (fun c2 => ?_) (fun c2 => absurd (by decide) c2)
  refine aw_aload_n 0 dX9_withdraw_12 rfl rfl ?_
  refine aw_get fX9_202 dX9_withdraw_13 hM.1 rfl ?_
  refine aw_dS [.int n, .int 0] [] lX9_126 sX9_isIn mX9_isIn dX9_withdraw_16 (X9_isIn0_f) rfl (Nat.le_of_ble_eq_true rfl) (by decide) (by decide) rfl ?_
  refine aw_if_ne 28 dX9_withdraw_19 (by decide) (fun c19 => absurd (by decide) c19) (fun c19 => ?_)
  refine aw_aload_n 0 dX9_withdraw_22 rfl rfl ?_
  refine aw_iconst (-1) dX9_withdraw_23 (by decide) ?_
  refine aw_eV [.int (-1)] [] lX9_130 vX9_refuse mX9_refuse dX9_withdraw_24 (X9_refuse1 hM) hM.1 rfl rfl rfl (Nat.le_of_ble_eq_true rfl) (by decide) (by decide) rfl (fun h117 q118 => ?_)
  exact aw_iret rfl dX9_withdraw_27 (by decide) (by decide) ⟨rfl, trivial⟩
set_option maxHeartbeats 4000000 in
theorem B15_0p {l : Launch} {G : xG} {h : List va_E} {n k : Int32} (hM : xF9 G h) (hn : 0 ≤ n.toInt) : CE l G yX9_withdraw cX9_withdraw 5 (some .int) 2 0 0 [.ref (G.1 + 88), .int 0, .int n, .int k] h (some (.int (-1))) (fun _ => True) := by
  refine cm_of rfl (Nat.le_of_ble_eq_true rfl) [(0, .ref (G.1 + 88)), (1, .int 0), (2, .int n), (3, .int k)] rfl ?_
  refine aw_iload_n 2 dX9_withdraw_0 rfl rfl ?_
  refine aw_iload_n 1 dX9_withdraw_1 rfl rfl ?_
  refine aw_if_eq 12 dX9_withdraw_2 (by decide) (fun c2 => ?_) (fun c2 => absurd (by decide) c2)
  refine aw_aload_n 0 dX9_withdraw_12 rfl rfl ?_
  refine aw_get fX9_202 dX9_withdraw_13 hM.1 rfl ?_
  refine aw_dS [.int n, .int 0] [] lX9_126 sX9_isIn mX9_isIn dX9_withdraw_16 (X9_isIn0_f) rfl (Nat.le_of_ble_eq_true rfl) (by decide) (by decide) rfl ?_
  refine aw_if_ne 28 dX9_withdraw_19 (by decide) (fun c19 => absurd (by decide) c19) (fun c19 => ?_)
  refine aw_aload_n 0 dX9_withdraw_22 rfl rfl ?_
  refine aw_iconst (-1) dX9_withdraw_23 (by decide) ?_
  refine aw_eV [.int (-1)] [] lX9_130 vX9_refuse mX9_refuse dX9_withdraw_24 (X9_refuse1 hM) hM.1 rfl rfl rfl (Nat.le_of_ble_eq_true rfl) (by decide) (by decide) rfl (fun h119 q120 => ?_)
  exact aw_iret rfl dX9_withdraw_27 (by decide) (by decide) ⟨rfl, trivial⟩
theorem B15_0 {l : Launch} {G : xG} {h : List va_E} {n k : Int32} (hM : xF9 G h) : CE l G yX9_withdraw cX9_withdraw 5 (some .int) 2 0 0 [.ref (G.1 + 88), .int 0, .int n, .int k] h (some (.int (-1))) (fun _ => True) := by
  by_cases hn : n.toInt < 0
  · exact B15_0n hM hn
  · exact B15_0p hM (by omega)
set_option maxHeartbeats 4000000 in
theorem B15_1n {l : Launch} {G : xG} {h : List va_E} {n k : Int32} (hM : xF9 G h) (hn : n.toInt < 0) : CE l G yX9_withdraw cX9_withdraw 5 (some .int) 2 0 0 [.ref (G.1 + 88), .int 1, .int n, .int k] h (some (.int (-1))) (fun _ => True) := by
  refine cm_of rfl (Nat.le_of_ble_eq_true rfl) [(0, .ref (G.1 + 88)), (1, .int 1), (2, .int n), (3, .int k)] rfl ?_
  refine aw_iload_n 2 dX9_withdraw_0 rfl rfl ?_
  refine aw_iload_n 1 dX9_withdraw_1 rfl rfl ?_
  refine aw_if_eq 12 dX9_withdraw_2 (by decide) (fun c2 => absurd c2 (by decide)) (fun c2 => ?_)
  refine aw_aload_n 0 dX9_withdraw_5 rfl rfl ?_
  refine aw_get fX9_198 dX9_withdraw_6 hM.1 rfl ?_
  refine aw_goto 16 dX9_withdraw_9 (by decide) ?_
  refine aw_dS [.int n, .int 0] [] lX9_126 sX9_isIn mX9_isIn dX9_withdraw_16 (X9_isIn0_f) rfl (Nat.le_of_ble_eq_true rfl) (by decide) (by decide) rfl ?_
  refine aw_if_ne 28 dX9_withdraw_19 (by decide) (fun c19 => absurd (by decide) c19) (fun c19 => ?_)
  refine aw_aload_n 0 dX9_withdraw_22 rfl rfl ?_
  refine aw_iconst (-1) dX9_withdraw_23 (by decide) ?_
  refine aw_eV [.int (-1)] [] lX9_130 vX9_refuse mX9_refuse dX9_withdraw_24 (X9_refuse1 hM) hM.1 rfl rfl rfl (Nat.le_of_ble_eq_true rfl) (by decide) (by decide) rfl (fun h121 q122 => ?_)
  exact aw_iret rfl dX9_withdraw_27 (by decide) (by decide) ⟨rfl, trivial⟩
set_option maxHeartbeats 4000000 in
theorem B15_1p {l : Launch} {G : xG} {h : List va_E} {n k : Int32} (hM : xF9 G h) (hn : 0 ≤ n.toInt) : CE l G yX9_withdraw cX9_withdraw 5 (some .int) 2 0 0 [.ref (G.1 + 88), .int 1, .int n, .int k] h (some (.int (-1))) (fun _ => True) := by
  refine cm_of rfl (Nat.le_of_ble_eq_true rfl) [(0, .ref (G.1 + 88)), (1, .int 1), (2, .int n), (3, .int k)] rfl ?_
  refine aw_iload_n 2 dX9_withdraw_0 rfl rfl ?_
  refine aw_iload_n 1 dX9_withdraw_1 rfl rfl ?_
  refine aw_if_eq 12 dX9_withdraw_2 (by decide) (fun c2 => absurd c2 (by decide)) (fun c2 => ?_)
  refine aw_aload_n 0 dX9_withdraw_5 rfl rfl ?_
  refine aw_get fX9_198 dX9_withdraw_6 hM.1 rfl ?_
  refine aw_goto 16 dX9_withdraw_9 (by decide) ?_
  refine aw_dS [.int n, .int 0] [] lX9_126 sX9_isIn mX9_isIn dX9_withdraw_16 (X9_isIn0_f) rfl (Nat.le_of_ble_eq_true rfl) (by decide) (by decide) rfl ?_
  refine aw_if_ne 28 dX9_withdraw_19 (by decide) (fun c19 => absurd (by decide) c19) (fun c19 => ?_)
  refine aw_aload_n 0 dX9_withdraw_22 rfl rfl ?_
  refine aw_iconst (-1) dX9_withdraw_23 (by decide) ?_
  refine aw_eV [.int (-1)] [] lX9_130 vX9_refuse mX9_refuse dX9_withdraw_24 (X9_refuse1 hM) hM.1 rfl rfl rfl (Nat.le_of_ble_eq_true rfl) (by decide) (by decide) rfl (fun h123 q124 => ?_)
  exact aw_iret rfl dX9_withdraw_27 (by decide) (by decide) ⟨rfl, trivial⟩
theorem B15_1 {l : Launch} {G : xG} {h : List va_E} {n k : Int32} (hM : xF9 G h) : CE l G yX9_withdraw cX9_withdraw 5 (some .int) 2 0 0 [.ref (G.1 + 88), .int 1, .int n, .int k] h (some (.int (-1))) (fun _ => True) := by
  by_cases hn : n.toInt < 0
  · exact B15_1n hM hn
  · exact B15_1p hM (by omega)
set_option maxHeartbeats 4000000 in
theorem X5_lastPlace_o {l : Launch} {G : xG} {h : List va_E} {t d k : Int32} (hF : xF8 G h) : CD l G yX5_lastPlace cX5_lastPlace 7 (some .int) 0 0 0 [.ref (G.1 + 61), .int t, .int d, .int k] h (some (.int (-9))) h := by
  refine cm_of rfl (Nat.le_of_ble_eq_true rfl) [(0, .ref (G.1 + 61)), (1, .int t), (2, .int d), (3, .int k)] rfl ?_
  refine aw_bipush (-9) dX5_lastPlace_0 (by decide) ?_
  refine aw_istore [(4, .int (-9)), (0, .ref (G.1 + 61)), (1, .int t), (2, .int d), (3, .int k)] dX5_lastPlace_2 (by decide) rfl ?_
  refine aw_iconst (0) dX5_lastPlace_4 (by decide) ?_
  refine aw_istore [(5, .int 0), (4, .int (-9)), (0, .ref (G.1 + 61)), (1, .int t), (2, .int d), (3, .int k)] dX5_lastPlace_5 (by decide) rfl ?_
  refine aw_iload 0 dX5_lastPlace_7 rfl ?_
  refine aw_aload_n 2 dX5_lastPlace_9 rfl rfl ?_
  refine aw_get fX5_33 dX5_lastPlace_10 hF.2.2.2.2.2.2.2.2.2.2.2.2.2.1 rfl ?_
  refine aw_icmp_ge 62 dX5_lastPlace_13 (by decide) (fun c13 => ?_) (fun c13 => absurd (by decide) c13)
  refine aw_iload 1 dX5_lastPlace_62 rfl ?_
  exact aw_iret rfl dX5_lastPlace_64 (by decide) (by decide) ⟨rfl, rfl⟩
set_option maxHeartbeats 4000000 in
theorem X5_quarrelDays_o {l : Launch} {G : xG} {h : List va_E} {t k : Int32} (hF : xF8 G h) : CD l G yX5_quarrelDays cX5_quarrelDays 9 (some .int) 0 0 0 [.ref (G.1 + 61), .int t, .int k] h (some (.int 0)) h := by
  refine cm_of rfl (Nat.le_of_ble_eq_true rfl) [(0, .ref (G.1 + 61)), (1, .int t), (2, .int k)] rfl ?_
  refine aw_iconst (0) dX5_quarrelDays_0 (by decide) ?_
  refine aw_istore_n [(3, .int 0), (0, .ref (G.1 + 61)), (1, .int t), (2, .int k)] dX5_quarrelDays_1 rfl (by decide) rfl ?_
  refine aw_iconst (-1) dX5_quarrelDays_2 (by decide) ?_
  refine aw_istore [(4, .int (-1)), (3, .int 0), (0, .ref (G.1 + 61)), (1, .int t), (2, .int k)] dX5_quarrelDays_3 (by decide) rfl ?_
  refine aw_iconst (-1) dX5_quarrelDays_5 (by decide) ?_
  refine aw_istore [(5, .int (-1)), (4, .int (-1)), (3, .int 0), (0, .ref (G.1 + 61)), (1, .int t), (2, .int k)] dX5_quarrelDays_6 (by decide) rfl ?_
  refine aw_iconst (0) dX5_quarrelDays_8 (by decide) ?_
  refine aw_istore [(6, .int 0), (5, .int (-1)), (4, .int (-1)), (3, .int 0), (0, .ref (G.1 + 61)), (1, .int t), (2, .int k)] dX5_quarrelDays_9 (by decide) rfl ?_
  refine aw_iconst (0) dX5_quarrelDays_11 (by decide) ?_
  refine aw_istore [(7, .int 0), (6, .int 0), (5, .int (-1)), (4, .int (-1)), (3, .int 0), (0, .ref (G.1 + 61)), (1, .int t), (2, .int k)] dX5_quarrelDays_12 (by decide) rfl ?_
  refine aw_iload 0 dX5_quarrelDays_14 rfl ?_
  refine aw_aload_n 5 dX5_quarrelDays_16 rfl rfl ?_
  refine aw_get fX5_33 dX5_quarrelDays_17 hF.2.2.2.2.2.2.2.2.2.2.2.2.2.1 rfl ?_
  refine aw_icmp_ge 108 dX5_quarrelDays_20 (by decide) (fun c20 => ?_) (fun c20 => absurd (by decide) c20)
  refine aw_iload_n 4 dX5_quarrelDays_108 rfl rfl ?_
  exact aw_iret rfl dX5_quarrelDays_109 (by decide) (by decide) ⟨rfl, rfl⟩
set_option maxHeartbeats 4000000 in
theorem A16t {l : Launch} {G : xG} {h : List va_E} {t d k : Int32} (hF : xF8 G h) (ht : ¬ (0 ≤ t.toInt ∧ t.toInt < 12)) : CE l G yX8_where cX8_where 5 (some .int) 2 0 0 [.ref (G.1 + 0), .int t, .int d, .int k] h (some (.int (-1))) (kp h) := by
  refine cm_of rfl (Nat.le_of_ble_eq_true rfl) [(0, .ref (G.1 + 0)), (1, .int t), (2, .int d), (3, .int k)] rfl ?_
  refine aw_iload_n 1 dX8_where_0 rfl rfl ?_
  refine aw_dS [.int t] [] lX8_154 sX8_isThing mX8_isThing dX8_where_1 (X8_isThing_f (by omega)) rfl (Nat.le_of_ble_eq_true rfl) (by decide) (by decide) rfl ?_
  refine aw_if_ne 13 dX8_where_4 (by decide) (fun c4 => absurd (by decide) c4) (fun c4 => ?_)
  refine aw_aload_n 0 dX8_where_7 rfl rfl ?_
  refine aw_iconst (-1) dX8_where_8 (by decide) ?_
  refine aw_eV [.int (-1)] [] lX8_70 vX8_refuse mX8_refuse dX8_where_9 (X8_refuse1 hF) hF.1 rfl rfl rfl (Nat.le_of_ble_eq_true rfl) (by decide) (by decide) rfl (fun h125 q126 => ?_)
  exact aw_iret rfl dX8_where_12 (by decide) (by decide) ⟨rfl, (kp_tr (kp_rf h) q126)⟩
set_option maxHeartbeats 4000000 in
theorem B16t {l : Launch} {G : xG} {h : List va_E} {t d k : Int32} (hM : xF9 G h) (ht : ¬ (0 ≤ t.toInt ∧ t.toInt < 12)) : CE l G yX9_where cX9_where 7 (some .int) 2 0 0 [.ref (G.1 + 88), .int t, .int d, .int k] h (some (.int (-1))) (fun _ => True) := by
  refine cm_of rfl (Nat.le_of_ble_eq_true rfl) [(0, .ref (G.1 + 88)), (1, .int t), (2, .int d), (3, .int k)] rfl ?_
  refine aw_iload_n 1 dX9_where_0 rfl rfl ?_
  refine aw_bipush (12) dX9_where_1 (by decide) ?_
  refine aw_dS [.int t, .int 12] [] lX9_126 sX9_isIn mX9_isIn dX9_where_3 (X9_isIn12_f (by omega)) rfl (Nat.le_of_ble_eq_true rfl) (by decide) (by decide) rfl ?_
  refine aw_if_eq 17 dX9_where_6 (by decide) (fun c6 => ?_) (fun c6 => absurd (by decide) c6)
  refine aw_iconst (-1) dX9_where_17 (by decide) ?_
  refine aw_istore [(4, .int (-1)), (0, .ref (G.1 + 88)), (1, .int t), (2, .int d), (3, .int k)] dX9_where_18 (by decide) rfl ?_
  refine aw_iload 0 dX9_where_20 rfl ?_
  refine aw_if_eq 32 dX9_where_22 (by decide) (fun c22 => absurd c22 (by decide)) (fun c22 => ?_)
  refine aw_aload_n 1 dX9_where_25 rfl rfl ?_
  refine aw_iload 0 dX9_where_26 rfl ?_
  refine aw_eV [.int (-1)] [] lX9_130 vX9_refuse mX9_refuse dX9_where_28 (X9_refuse1 hM) hM.1 rfl rfl rfl (Nat.le_of_ble_eq_true rfl) (by decide) (by decide) rfl (fun h127 q128 => ?_)
  exact aw_iret rfl dX9_where_31 (by decide) (by decide) ⟨rfl, trivial⟩
set_option maxHeartbeats 4000000 in
theorem A16a {l : Launch} {G : xG} {h : List va_E} {t d k : Int32} (hF : xF8 G h) (ht : 0 ≤ t.toInt ∧ t.toInt < 12)(h0 : d.toInt < 0) : CE l G yX8_where cX8_where 5 (some .int) 2 0 0 [.ref (G.1 + 0), .int t, .int d, .int k] h (some (.int (-4))) (kp h) := by
  refine cm_of rfl (Nat.le_of_ble_eq_true rfl) [(0, .ref (G.1 + 0)), (1, .int t), (2, .int d), (3, .int k)] rfl ?_
  refine aw_iload_n 1 dX8_where_0 rfl rfl ?_
  refine aw_dS [.int t] [] lX8_154 sX8_isThing mX8_isThing dX8_where_1 (X8_isThing_t (by omega)) rfl (Nat.le_of_ble_eq_true rfl) (by decide) (by decide) rfl ?_
  refine aw_if_ne 13 dX8_where_4 (by decide) (fun c4 => ?_) (fun c4 => absurd c4 (by decide))
  refine aw_iload_n 2 dX8_where_13 rfl rfl ?_
  refine aw_iload_n 3 dX8_where_14 rfl rfl ?_
  refine aw_dS [.int d, .int k] [] lX8_157 sX8_daysRefusal mX8_daysRefusal dX8_where_15 (X8_daysRefusal_a (by omega)) rfl (Nat.le_of_ble_eq_true rfl) (by decide) (by decide) rfl ?_
  refine aw_istore [(4, .int (-4)), (0, .ref (G.1 + 0)), (1, .int t), (2, .int d), (3, .int k)] dX8_where_18 (by decide) rfl ?_
  refine aw_iload 0 dX8_where_20 rfl ?_
  refine aw_if_eq 32 dX8_where_22 (by decide) (fun c22 => absurd c22 (by decide)) (fun c22 => ?_)
  refine aw_aload_n 1 dX8_where_25 rfl rfl ?_
  refine aw_iload 0 dX8_where_26 rfl ?_
  refine aw_eV [.int (-4)] [] lX8_70 vX8_refuse mX8_refuse dX8_where_28 (X8_refuse4 hF) hF.1 rfl rfl rfl (Nat.le_of_ble_eq_true rfl) (by decide) (by decide) rfl (fun h129 q130 => ?_)
  exact aw_iret rfl dX8_where_31 (by decide) (by decide) ⟨rfl, (kp_tr (kp_rf h) q130)⟩
set_option maxHeartbeats 4000000 in
theorem B16a {l : Launch} {G : xG} {h : List va_E} {t d k : Int32} (hM : xF9 G h) (ht : 0 ≤ t.toInt ∧ t.toInt < 12)(h0 : d.toInt < 0) : CE l G yX9_where cX9_where 7 (some .int) 2 0 0 [.ref (G.1 + 88), .int t, .int d, .int k] h (some (.int (-4))) (fun _ => True) := by
  refine cm_of rfl (Nat.le_of_ble_eq_true rfl) [(0, .ref (G.1 + 88)), (1, .int t), (2, .int d), (3, .int k)] rfl ?_
  refine aw_iload_n 1 dX9_where_0 rfl rfl ?_
  refine aw_bipush (12) dX9_where_1 (by decide) ?_
  refine aw_dS [.int t, .int 12] [] lX9_126 sX9_isIn mX9_isIn dX9_where_3 (X9_isIn12_t (by omega)) rfl (Nat.le_of_ble_eq_true rfl) (by decide) (by decide) rfl ?_
  refine aw_if_eq 17 dX9_where_6 (by decide) (fun c6 => absurd c6 (by decide)) (fun c6 => ?_)
  refine aw_iload_n 2 dX9_where_9 rfl rfl ?_
  refine aw_iload_n 3 dX9_where_10 rfl rfl ?_
  refine aw_dS [.int d, .int k] [] lX9_195 sX9_wrongDays mX9_wrongDays dX9_where_11 (X9_wrongDays_a (by omega)) rfl (Nat.le_of_ble_eq_true rfl) (by decide) (by decide) rfl ?_
  refine aw_goto 18 dX9_where_14 (by decide) ?_
  refine aw_istore [(4, .int (-4)), (0, .ref (G.1 + 88)), (1, .int t), (2, .int d), (3, .int k)] dX9_where_18 (by decide) rfl ?_
  refine aw_iload 0 dX9_where_20 rfl ?_
  refine aw_if_eq 32 dX9_where_22 (by decide) (fun c22 => absurd c22 (by decide)) (fun c22 => ?_)
  refine aw_aload_n 1 dX9_where_25 rfl rfl ?_
  refine aw_iload 0 dX9_where_26 rfl ?_
  refine aw_eV [.int (-4)] [] lX9_130 vX9_refuse mX9_refuse dX9_where_28 (X9_refuse4 hM) hM.1 rfl rfl rfl (Nat.le_of_ble_eq_true rfl) (by decide) (by decide) rfl (fun h131 q132 => ?_)
  exact aw_iret rfl dX9_where_31 (by decide) (by decide) ⟨rfl, trivial⟩
set_option maxHeartbeats 4000000 in
theorem A16b {l : Launch} {G : xG} {h : List va_E} {t d k : Int32} (hF : xF8 G h) (ht : 0 ≤ t.toInt ∧ t.toInt < 12)(h0 : 0 ≤ d.toInt) (h1 : k.toInt < 0) : CE l G yX8_where cX8_where 5 (some .int) 2 0 0 [.ref (G.1 + 0), .int t, .int d, .int k] h (some (.int (-4))) (kp h) := by
  refine cm_of rfl (Nat.le_of_ble_eq_true rfl) [(0, .ref (G.1 + 0)), (1, .int t), (2, .int d), (3, .int k)] rfl ?_
  refine aw_iload_n 1 dX8_where_0 rfl rfl ?_
  refine aw_dS [.int t] [] lX8_154 sX8_isThing mX8_isThing dX8_where_1 (X8_isThing_t (by omega)) rfl (Nat.le_of_ble_eq_true rfl) (by decide) (by decide) rfl ?_
  refine aw_if_ne 13 dX8_where_4 (by decide) (fun c4 => ?_) (fun c4 => absurd c4 (by decide))
  refine aw_iload_n 2 dX8_where_13 rfl rfl ?_
  refine aw_iload_n 3 dX8_where_14 rfl rfl ?_
  refine aw_dS [.int d, .int k] [] lX8_157 sX8_daysRefusal mX8_daysRefusal dX8_where_15 (X8_daysRefusal_b (by omega) (by omega)) rfl (Nat.le_of_ble_eq_true rfl) (by decide) (by decide) rfl ?_
  refine aw_istore [(4, .int (-4)), (0, .ref (G.1 + 0)), (1, .int t), (2, .int d), (3, .int k)] dX8_where_18 (by decide) rfl ?_
  refine aw_iload 0 dX8_where_20 rfl ?_
  refine aw_if_eq 32 dX8_where_22 (by decide) (fun c22 => absurd c22 (by decide)) (fun c22 => ?_)
  refine aw_aload_n 1 dX8_where_25 rfl rfl ?_
  refine aw_iload 0 dX8_where_26 rfl ?_
  refine aw_eV [.int (-4)] [] lX8_70 vX8_refuse mX8_refuse dX8_where_28 (X8_refuse4 hF) hF.1 rfl rfl rfl (Nat.le_of_ble_eq_true rfl) (by decide) (by decide) rfl (fun h133 q134 => ?_)
  exact aw_iret rfl dX8_where_31 (by decide) (by decide) ⟨rfl, (kp_tr (kp_rf h) q134)⟩
set_option maxHeartbeats 4000000 in
theorem B16b {l : Launch} {G : xG} {h : List va_E} {t d k : Int32} (hM : xF9 G h) (ht : 0 ≤ t.toInt ∧ t.toInt < 12)(h0 : 0 ≤ d.toInt) (h1 : k.toInt < 0) : CE l G yX9_where cX9_where 7 (some .int) 2 0 0 [.ref (G.1 + 88), .int t, .int d, .int k] h (some (.int (-4))) (fun _ => True) := by
  refine cm_of rfl (Nat.le_of_ble_eq_true rfl) [(0, .ref (G.1 + 88)), (1, .int t), (2, .int d), (3, .int k)] rfl ?_
  refine aw_iload_n 1 dX9_where_0 rfl rfl ?_
  refine aw_bipush (12) dX9_where_1 (by decide) ?_
  refine aw_dS [.int t, .int 12] [] lX9_126 sX9_isIn mX9_isIn dX9_where_3 (X9_isIn12_t (by omega)) rfl (Nat.le_of_ble_eq_true rfl) (by decide) (by decide) rfl ?_
  refine aw_if_eq 17 dX9_where_6 (by decide) (fun c6 => absurd c6 (by decide)) (fun c6 => ?_)
  refine aw_iload_n 2 dX9_where_9 rfl rfl ?_
  refine aw_iload_n 3 dX9_where_10 rfl rfl ?_
  refine aw_dS [.int d, .int k] [] lX9_195 sX9_wrongDays mX9_wrongDays dX9_where_11 (X9_wrongDays_b (by omega) (by omega)) rfl (Nat.le_of_ble_eq_true rfl) (by decide) (by decide) rfl ?_
  refine aw_goto 18 dX9_where_14 (by decide) ?_
  refine aw_istore [(4, .int (-4)), (0, .ref (G.1 + 88)), (1, .int t), (2, .int d), (3, .int k)] dX9_where_18 (by decide) rfl ?_
  refine aw_iload 0 dX9_where_20 rfl ?_
  refine aw_if_eq 32 dX9_where_22 (by decide) (fun c22 => absurd c22 (by decide)) (fun c22 => ?_)
  refine aw_aload_n 1 dX9_where_25 rfl rfl ?_
  refine aw_iload 0 dX9_where_26 rfl ?_
  refine aw_eV [.int (-4)] [] lX9_130 vX9_refuse mX9_refuse dX9_where_28 (X9_refuse4 hM) hM.1 rfl rfl rfl (Nat.le_of_ble_eq_true rfl) (by decide) (by decide) rfl (fun h135 q136 => ?_)
  exact aw_iret rfl dX9_where_31 (by decide) (by decide) ⟨rfl, trivial⟩
set_option maxHeartbeats 4000000 in
theorem A16c {l : Launch} {G : xG} {h : List va_E} {t d k : Int32} (hF : xF8 G h) (ht : 0 ≤ t.toInt ∧ t.toInt < 12)(h0 : 80000 < d.toInt) (h1 : 0 ≤ k.toInt) : CE l G yX8_where cX8_where 5 (some .int) 2 0 0 [.ref (G.1 + 0), .int t, .int d, .int k] h (some (.int (-6))) (kp h) := by
  refine cm_of rfl (Nat.le_of_ble_eq_true rfl) [(0, .ref (G.1 + 0)), (1, .int t), (2, .int d), (3, .int k)] rfl ?_
  refine aw_iload_n 1 dX8_where_0 rfl rfl ?_
  refine aw_dS [.int t] [] lX8_154 sX8_isThing mX8_isThing dX8_where_1 (X8_isThing_t (by omega)) rfl (Nat.le_of_ble_eq_true rfl) (by decide) (by decide) rfl ?_
  refine aw_if_ne 13 dX8_where_4 (by decide) (fun c4 => ?_) (fun c4 => absurd c4 (by decide))
  refine aw_iload_n 2 dX8_where_13 rfl rfl ?_
  refine aw_iload_n 3 dX8_where_14 rfl rfl ?_
  refine aw_dS [.int d, .int k] [] lX8_157 sX8_daysRefusal mX8_daysRefusal dX8_where_15 (X8_daysRefusal_c (by omega) (by omega)) rfl (Nat.le_of_ble_eq_true rfl) (by decide) (by decide) rfl ?_
  refine aw_istore [(4, .int (-6)), (0, .ref (G.1 + 0)), (1, .int t), (2, .int d), (3, .int k)] dX8_where_18 (by decide) rfl ?_
  refine aw_iload 0 dX8_where_20 rfl ?_
  refine aw_if_eq 32 dX8_where_22 (by decide) (fun c22 => absurd c22 (by decide)) (fun c22 => ?_)
  refine aw_aload_n 1 dX8_where_25 rfl rfl ?_
  refine aw_iload 0 dX8_where_26 rfl ?_
  refine aw_eV [.int (-6)] [] lX8_70 vX8_refuse mX8_refuse dX8_where_28 (X8_refuse6 hF) hF.1 rfl rfl rfl (Nat.le_of_ble_eq_true rfl) (by decide) (by decide) rfl (fun h137 q138 => ?_)
  exact aw_iret rfl dX8_where_31 (by decide) (by decide) ⟨rfl, (kp_tr (kp_rf h) q138)⟩
set_option maxHeartbeats 4000000 in
theorem B16c {l : Launch} {G : xG} {h : List va_E} {t d k : Int32} (hM : xF9 G h) (ht : 0 ≤ t.toInt ∧ t.toInt < 12)(h0 : 80000 < d.toInt) (h1 : 0 ≤ k.toInt) : CE l G yX9_where cX9_where 7 (some .int) 2 0 0 [.ref (G.1 + 88), .int t, .int d, .int k] h (some (.int (-6))) (fun _ => True) := by
  refine cm_of rfl (Nat.le_of_ble_eq_true rfl) [(0, .ref (G.1 + 88)), (1, .int t), (2, .int d), (3, .int k)] rfl ?_
  refine aw_iload_n 1 dX9_where_0 rfl rfl ?_
  refine aw_bipush (12) dX9_where_1 (by decide) ?_
  refine aw_dS [.int t, .int 12] [] lX9_126 sX9_isIn mX9_isIn dX9_where_3 (X9_isIn12_t (by omega)) rfl (Nat.le_of_ble_eq_true rfl) (by decide) (by decide) rfl ?_
  refine aw_if_eq 17 dX9_where_6 (by decide) (fun c6 => absurd c6 (by decide)) (fun c6 => ?_)
  refine aw_iload_n 2 dX9_where_9 rfl rfl ?_
  refine aw_iload_n 3 dX9_where_10 rfl rfl ?_
  refine aw_dS [.int d, .int k] [] lX9_195 sX9_wrongDays mX9_wrongDays dX9_where_11 (X9_wrongDays_c (by omega) (by omega)) rfl (Nat.le_of_ble_eq_true rfl) (by decide) (by decide) rfl ?_
  refine aw_goto 18 dX9_where_14 (by decide) ?_
  refine aw_istore [(4, .int (-6)), (0, .ref (G.1 + 88)), (1, .int t), (2, .int d), (3, .int k)] dX9_where_18 (by decide) rfl ?_
  refine aw_iload 0 dX9_where_20 rfl ?_
  refine aw_if_eq 32 dX9_where_22 (by decide) (fun c22 => absurd c22 (by decide)) (fun c22 => ?_)
  refine aw_aload_n 1 dX9_where_25 rfl rfl ?_
  refine aw_iload 0 dX9_where_26 rfl ?_
  refine aw_eV [.int (-6)] [] lX9_130 vX9_refuse mX9_refuse dX9_where_28 (X9_refuse6 hM) hM.1 rfl rfl rfl (Nat.le_of_ble_eq_true rfl) (by decide) (by decide) rfl (fun h139 q140 => ?_)
  exact aw_iret rfl dX9_where_31 (by decide) (by decide) ⟨rfl, trivial⟩
set_option maxHeartbeats 4000000 in
theorem A16e {l : Launch} {G : xG} {h : List va_E} {t d k : Int32} (hF : xF8 G h) (ht : 0 ≤ t.toInt ∧ t.toInt < 12)(h0 : 0 ≤ d.toInt ∧ d.toInt < 80001) (h1 : 80000 < k.toInt) : CE l G yX8_where cX8_where 5 (some .int) 2 0 0 [.ref (G.1 + 0), .int t, .int d, .int k] h (some (.int (-6))) (kp h) := by
  refine cm_of rfl (Nat.le_of_ble_eq_true rfl) [(0, .ref (G.1 + 0)), (1, .int t), (2, .int d), (3, .int k)] rfl ?_
  refine aw_iload_n 1 dX8_where_0 rfl rfl ?_
  refine aw_dS [.int t] [] lX8_154 sX8_isThing mX8_isThing dX8_where_1 (X8_isThing_t (by omega)) rfl (Nat.le_of_ble_eq_true rfl) (by decide) (by decide) rfl ?_
  refine aw_if_ne 13 dX8_where_4 (by decide) (fun c4 => ?_) (fun c4 => absurd c4 (by decide))
  refine aw_iload_n 2 dX8_where_13 rfl rfl ?_
  refine aw_iload_n 3 dX8_where_14 rfl rfl ?_
  refine aw_dS [.int d, .int k] [] lX8_157 sX8_daysRefusal mX8_daysRefusal dX8_where_15 (X8_daysRefusal_e (by omega) (by omega)) rfl (Nat.le_of_ble_eq_true rfl) (by decide) (by decide) rfl ?_
  refine aw_istore [(4, .int (-6)), (0, .ref (G.1 + 0)), (1, .int t), (2, .int d), (3, .int k)] dX8_where_18 (by decide) rfl ?_
  refine aw_iload 0 dX8_where_20 rfl ?_
  refine aw_if_eq 32 dX8_where_22 (by decide) (fun c22 => absurd c22 (by decide)) (fun c22 => ?_)
  refine aw_aload_n 1 dX8_where_25 rfl rfl ?_
  refine aw_iload 0 dX8_where_26 rfl ?_
  refine aw_eV [.int (-6)] [] lX8_70 vX8_refuse mX8_refuse dX8_where_28 (X8_refuse6 hF) hF.1 rfl rfl rfl (Nat.le_of_ble_eq_true rfl) (by decide) (by decide) rfl (fun h141 q142 => ?_)
  exact aw_iret rfl dX8_where_31 (by decide) (by decide) ⟨rfl, (kp_tr (kp_rf h) q142)⟩
set_option maxHeartbeats 4000000 in
theorem B16e {l : Launch} {G : xG} {h : List va_E} {t d k : Int32} (hM : xF9 G h) (ht : 0 ≤ t.toInt ∧ t.toInt < 12)(h0 : 0 ≤ d.toInt ∧ d.toInt < 80001) (h1 : 80000 < k.toInt) : CE l G yX9_where cX9_where 7 (some .int) 2 0 0 [.ref (G.1 + 88), .int t, .int d, .int k] h (some (.int (-6))) (fun _ => True) := by
  refine cm_of rfl (Nat.le_of_ble_eq_true rfl) [(0, .ref (G.1 + 88)), (1, .int t), (2, .int d), (3, .int k)] rfl ?_
  refine aw_iload_n 1 dX9_where_0 rfl rfl ?_
  refine aw_bipush (12) dX9_where_1 (by decide) ?_
  refine aw_dS [.int t, .int 12] [] lX9_126 sX9_isIn mX9_isIn dX9_where_3 (X9_isIn12_t (by omega)) rfl (Nat.le_of_ble_eq_true rfl) (by decide) (by decide) rfl ?_
  refine aw_if_eq 17 dX9_where_6 (by decide) (fun c6 => absurd c6 (by decide)) (fun c6 => ?_)
  refine aw_iload_n 2 dX9_where_9 rfl rfl ?_
  refine aw_iload_n 3 dX9_where_10 rfl rfl ?_
  refine aw_dS [.int d, .int k] [] lX9_195 sX9_wrongDays mX9_wrongDays dX9_where_11 (X9_wrongDays_e (by omega) (by omega)) rfl (Nat.le_of_ble_eq_true rfl) (by decide) (by decide) rfl ?_
  refine aw_goto 18 dX9_where_14 (by decide) ?_
  refine aw_istore [(4, .int (-6)), (0, .ref (G.1 + 88)), (1, .int t), (2, .int d), (3, .int k)] dX9_where_18 (by decide) rfl ?_
  refine aw_iload 0 dX9_where_20 rfl ?_
  refine aw_if_eq 32 dX9_where_22 (by decide) (fun c22 => absurd c22 (by decide)) (fun c22 => ?_)
  refine aw_aload_n 1 dX9_where_25 rfl rfl ?_
  refine aw_iload 0 dX9_where_26 rfl ?_
  refine aw_eV [.int (-6)] [] lX9_130 vX9_refuse mX9_refuse dX9_where_28 (X9_refuse6 hM) hM.1 rfl rfl rfl (Nat.le_of_ble_eq_true rfl) (by decide) (by decide) rfl (fun h143 q144 => ?_)
  exact aw_iret rfl dX9_where_31 (by decide) (by decide) ⟨rfl, trivial⟩
set_option maxHeartbeats 4000000 in
theorem A16o {l : Launch} {G : xG} {h : List va_E} {t d k : Int32} (hF : xF8 G h) (ht : 0 ≤ t.toInt ∧ t.toInt < 12)(h0 : 0 ≤ d.toInt ∧ d.toInt < 80001) (h1 : 0 ≤ k.toInt ∧ k.toInt < 80001) : CE l G yX8_where cX8_where 5 (some .int) 2 0 0 [.ref (G.1 + 0), .int t, .int d, .int k] h (some (.int (-9))) (kp h) := by
  refine cm_of rfl (Nat.le_of_ble_eq_true rfl) [(0, .ref (G.1 + 0)), (1, .int t), (2, .int d), (3, .int k)] rfl ?_
  refine aw_iload_n 1 dX8_where_0 rfl rfl ?_
  refine aw_dS [.int t] [] lX8_154 sX8_isThing mX8_isThing dX8_where_1 (X8_isThing_t (by omega)) rfl (Nat.le_of_ble_eq_true rfl) (by decide) (by decide) rfl ?_
  refine aw_if_ne 13 dX8_where_4 (by decide) (fun c4 => ?_) (fun c4 => absurd c4 (by decide))
  refine aw_iload_n 2 dX8_where_13 rfl rfl ?_
  refine aw_iload_n 3 dX8_where_14 rfl rfl ?_
  refine aw_dS [.int d, .int k] [] lX8_157 sX8_daysRefusal mX8_daysRefusal dX8_where_15 (X8_daysRefusal_o (by omega) (by omega)) rfl (Nat.le_of_ble_eq_true rfl) (by decide) (by decide) rfl ?_
  refine aw_istore [(4, .int 0), (0, .ref (G.1 + 0)), (1, .int t), (2, .int d), (3, .int k)] dX8_where_18 (by decide) rfl ?_
  refine aw_iload 0 dX8_where_20 rfl ?_
  refine aw_if_eq 32 dX8_where_22 (by decide) (fun c22 => ?_) (fun c22 => absurd (by decide) c22)
  refine aw_aload_n 1 dX8_where_32 rfl rfl ?_
  refine aw_get fX8_34 dX8_where_33 hF.1 rfl ?_
  refine aw_iload_n 2 dX8_where_36 rfl rfl ?_
  refine aw_iload_n 3 dX8_where_37 rfl rfl ?_
  refine aw_iload_n 4 dX8_where_38 rfl rfl ?_
  refine aw_dV [.int t, .int d, .int k] [] lX8_176 vX5_lastPlace mX5_lastPlace dX8_where_39 (X5_lastPlace_o hF) hF.2.2.2.2.2.2.2.2.2.2.2.2.2.1 rfl rfl rfl (Nat.le_of_ble_eq_true rfl) (by decide) (by decide) rfl ?_
  exact aw_iret rfl dX8_where_42 (by decide) (by decide) ⟨rfl, kp_rf h⟩
set_option maxHeartbeats 4000000 in
theorem B16o {l : Launch} {G : xG} {h : List va_E} {t d k : Int32} (hM : xF9 G h) (ht : 0 ≤ t.toInt ∧ t.toInt < 12)(h0 : 0 ≤ d.toInt ∧ d.toInt < 80001) (h1 : 0 ≤ k.toInt ∧ k.toInt < 80001) : CE l G yX9_where cX9_where 7 (some .int) 2 0 0 [.ref (G.1 + 88), .int t, .int d, .int k] h (some (.int (-9))) (fun _ => True) := by
  refine cm_of rfl (Nat.le_of_ble_eq_true rfl) [(0, .ref (G.1 + 88)), (1, .int t), (2, .int d), (3, .int k)] rfl ?_
  refine aw_iload_n 1 dX9_where_0 rfl rfl ?_
  refine aw_bipush (12) dX9_where_1 (by decide) ?_
  refine aw_dS [.int t, .int 12] [] lX9_126 sX9_isIn mX9_isIn dX9_where_3 (X9_isIn12_t (by omega)) rfl (Nat.le_of_ble_eq_true rfl) (by decide) (by decide) rfl ?_
  refine aw_if_eq 17 dX9_where_6 (by decide) (fun c6 => absurd c6 (by decide)) (fun c6 => ?_)
  refine aw_iload_n 2 dX9_where_9 rfl rfl ?_
  refine aw_iload_n 3 dX9_where_10 rfl rfl ?_
  refine aw_dS [.int d, .int k] [] lX9_195 sX9_wrongDays mX9_wrongDays dX9_where_11 (X9_wrongDays_o (by omega) (by omega)) rfl (Nat.le_of_ble_eq_true rfl) (by decide) (by decide) rfl ?_
  refine aw_goto 18 dX9_where_14 (by decide) ?_
  refine aw_istore [(4, .int 0), (0, .ref (G.1 + 88)), (1, .int t), (2, .int d), (3, .int k)] dX9_where_18 (by decide) rfl ?_
  refine aw_iload 0 dX9_where_20 rfl ?_
  refine aw_if_eq 32 dX9_where_22 (by decide) (fun c22 => ?_) (fun c22 => absurd (by decide) c22)
  refine aw_iconst (-1) dX9_where_32 (by decide) ?_
  refine aw_istore [(5, .int (-1)), (4, .int 0), (0, .ref (G.1 + 88)), (1, .int t), (2, .int d), (3, .int k)] dX9_where_33 (by decide) rfl ?_
  refine aw_iconst (0) dX9_where_35 (by decide) ?_
  refine aw_istore [(6, .int 0), (5, .int (-1)), (4, .int 0), (0, .ref (G.1 + 88)), (1, .int t), (2, .int d), (3, .int k)] dX9_where_36 (by decide) rfl ?_
  refine aw_iload 0 dX9_where_38 rfl ?_
  refine aw_aload_n 3 dX9_where_40 rfl rfl ?_
  refine aw_get fX9_198 dX9_where_41 hM.1 rfl ?_
  refine aw_icmp_ge 101 dX9_where_44 (by decide) (fun c44 => ?_) (fun c44 => absurd (by decide) c44)
  refine aw_iload 1 dX9_where_101 rfl ?_
  refine aw_if_ge 111 dX9_where_103 (by decide) (fun c103 => absurd c103 (by decide)) (fun c103 => ?_)
  refine aw_bipush (-9) dX9_where_106 (by decide) ?_
  refine aw_goto 118 dX9_where_108 (by decide) ?_
  exact aw_iret rfl dX9_where_118 (by decide) (by decide) ⟨rfl, trivial⟩
set_option maxHeartbeats 4000000 in
theorem A17t {l : Launch} {G : xG} {h : List va_E} {t k : Int32} (hF : xF8 G h) (ht : ¬ (0 ≤ t.toInt ∧ t.toInt < 12)) : CE l G yX8_quarrels cX8_quarrels 4 (some .int) 2 0 0 [.ref (G.1 + 0), .int t, .int k] h (some (.int (-1))) (kp h) := by
  refine cm_of rfl (Nat.le_of_ble_eq_true rfl) [(0, .ref (G.1 + 0)), (1, .int t), (2, .int k)] rfl ?_
  refine aw_iload_n 1 dX8_quarrels_0 rfl rfl ?_
  refine aw_dS [.int t] [] lX8_154 sX8_isThing mX8_isThing dX8_quarrels_1 (X8_isThing_f (by omega)) rfl (Nat.le_of_ble_eq_true rfl) (by decide) (by decide) rfl ?_
  refine aw_if_ne 13 dX8_quarrels_4 (by decide) (fun c4 => absurd (by decide) c4) (fun c4 => ?_)
  refine aw_aload_n 0 dX8_quarrels_7 rfl rfl ?_
  refine aw_iconst (-1) dX8_quarrels_8 (by decide) ?_
  refine aw_eV [.int (-1)] [] lX8_70 vX8_refuse mX8_refuse dX8_quarrels_9 (X8_refuse1 hF) hF.1 rfl rfl rfl (Nat.le_of_ble_eq_true rfl) (by decide) (by decide) rfl (fun h145 q146 => ?_)
  exact aw_iret rfl dX8_quarrels_12 (by decide) (by decide) ⟨rfl, (kp_tr (kp_rf h) q146)⟩
set_option maxHeartbeats 4000000 in
theorem B17t {l : Launch} {G : xG} {h : List va_E} {t k : Int32} (hM : xF9 G h) (ht : ¬ (0 ≤ t.toInt ∧ t.toInt < 12)) : CE l G yX9_quarrels cX9_quarrels 9 (some .int) 2 0 0 [.ref (G.1 + 88), .int t, .int k] h (some (.int (-1))) (fun _ => True) := by
  refine cm_of rfl (Nat.le_of_ble_eq_true rfl) [(0, .ref (G.1 + 88)), (1, .int t), (2, .int k)] rfl ?_
  refine aw_iload_n 1 dX9_quarrels_0 rfl rfl ?_
  refine aw_bipush (12) dX9_quarrels_1 (by decide) ?_
  refine aw_dS [.int t, .int 12] [] lX9_126 sX9_isIn mX9_isIn dX9_quarrels_3 (X9_isIn12_f (by omega)) rfl (Nat.le_of_ble_eq_true rfl) (by decide) (by decide) rfl ?_
  refine aw_if_eq 19 dX9_quarrels_6 (by decide) (fun c6 => ?_) (fun c6 => absurd (by decide) c6)
  refine aw_iconst (-1) dX9_quarrels_19 (by decide) ?_
  refine aw_istore_n [(3, .int (-1)), (0, .ref (G.1 + 88)), (1, .int t), (2, .int k)] dX9_quarrels_20 rfl (by decide) rfl ?_
  refine aw_iload_n 0 dX9_quarrels_21 rfl rfl ?_
  refine aw_if_eq 31 dX9_quarrels_22 (by decide) (fun c22 => absurd c22 (by decide)) (fun c22 => ?_)
  refine aw_aload_n 1 dX9_quarrels_25 rfl rfl ?_
  refine aw_iload_n 0 dX9_quarrels_26 rfl rfl ?_
  refine aw_eV [.int (-1)] [] lX9_130 vX9_refuse mX9_refuse dX9_quarrels_27 (X9_refuse1 hM) hM.1 rfl rfl rfl (Nat.le_of_ble_eq_true rfl) (by decide) (by decide) rfl (fun h147 q148 => ?_)
  exact aw_iret rfl dX9_quarrels_30 (by decide) (by decide) ⟨rfl, trivial⟩
set_option maxHeartbeats 4000000 in
theorem A17a {l : Launch} {G : xG} {h : List va_E} {t k : Int32} (hF : xF8 G h) (ht : 0 ≤ t.toInt ∧ t.toInt < 12)(hk : k.toInt < 0) : CE l G yX8_quarrels cX8_quarrels 4 (some .int) 2 0 0 [.ref (G.1 + 0), .int t, .int k] h (some (.int (-4))) (kp h) := by
  refine cm_of rfl (Nat.le_of_ble_eq_true rfl) [(0, .ref (G.1 + 0)), (1, .int t), (2, .int k)] rfl ?_
  refine aw_iload_n 1 dX8_quarrels_0 rfl rfl ?_
  refine aw_dS [.int t] [] lX8_154 sX8_isThing mX8_isThing dX8_quarrels_1 (X8_isThing_t (by omega)) rfl (Nat.le_of_ble_eq_true rfl) (by decide) (by decide) rfl ?_
  refine aw_if_ne 13 dX8_quarrels_4 (by decide) (fun c4 => ?_) (fun c4 => absurd c4 (by decide))
  refine aw_iload_n 2 dX8_quarrels_13 rfl rfl ?_
  refine aw_iload_n 2 dX8_quarrels_14 rfl rfl ?_
  refine aw_dS [.int k, .int k] [] lX8_157 sX8_daysRefusal mX8_daysRefusal dX8_quarrels_15 (X8_daysRefusal_a (by omega)) rfl (Nat.le_of_ble_eq_true rfl) (by decide) (by decide) rfl ?_
  refine aw_istore_n [(3, .int (-4)), (0, .ref (G.1 + 0)), (1, .int t), (2, .int k)] dX8_quarrels_18 rfl (by decide) rfl ?_
  refine aw_iload_n 0 dX8_quarrels_19 rfl rfl ?_
  refine aw_if_eq 29 dX8_quarrels_20 (by decide) (fun c20 => absurd c20 (by decide)) (fun c20 => ?_)
  refine aw_aload_n 1 dX8_quarrels_23 rfl rfl ?_
  refine aw_iload_n 0 dX8_quarrels_24 rfl rfl ?_
  refine aw_eV [.int (-4)] [] lX8_70 vX8_refuse mX8_refuse dX8_quarrels_25 (X8_refuse4 hF) hF.1 rfl rfl rfl (Nat.le_of_ble_eq_true rfl) (by decide) (by decide) rfl (fun h149 q150 => ?_)
  exact aw_iret rfl dX8_quarrels_28 (by decide) (by decide) ⟨rfl, (kp_tr (kp_rf h) q150)⟩
set_option maxHeartbeats 4000000 in
theorem B17a {l : Launch} {G : xG} {h : List va_E} {t k : Int32} (hM : xF9 G h) (ht : 0 ≤ t.toInt ∧ t.toInt < 12)(hk : k.toInt < 0) : CE l G yX9_quarrels cX9_quarrels 9 (some .int) 2 0 0 [.ref (G.1 + 88), .int t, .int k] h (some (.int (-4))) (fun _ => True) := by
  refine cm_of rfl (Nat.le_of_ble_eq_true rfl) [(0, .ref (G.1 + 88)), (1, .int t), (2, .int k)] rfl ?_
  refine aw_iload_n 1 dX9_quarrels_0 rfl rfl ?_
  refine aw_bipush (12) dX9_quarrels_1 (by decide) ?_
  refine aw_dS [.int t, .int 12] [] lX9_126 sX9_isIn mX9_isIn dX9_quarrels_3 (X9_isIn12_t (by omega)) rfl (Nat.le_of_ble_eq_true rfl) (by decide) (by decide) rfl ?_
  refine aw_if_eq 19 dX9_quarrels_6 (by decide) (fun c6 => absurd c6 (by decide)) (fun c6 => ?_)
  refine aw_iload_n 2 dX9_quarrels_9 rfl rfl ?_
  refine aw_iconst (0) dX9_quarrels_10 (by decide) ?_
  refine aw_ldc (80000) kX9_194 dX9_quarrels_11 ?_
  refine aw_dS [.int k, .int 0, .int 80000] [] lX9_137 sX9_wrong mX9_wrong dX9_quarrels_13 (X9_wrong_0_80000_a (by omega)) rfl (Nat.le_of_ble_eq_true rfl) (by decide) (by decide) rfl ?_
  refine aw_goto 20 dX9_quarrels_16 (by decide) ?_
  refine aw_istore_n [(3, .int (-4)), (0, .ref (G.1 + 88)), (1, .int t), (2, .int k)] dX9_quarrels_20 rfl (by decide) rfl ?_
  refine aw_iload_n 0 dX9_quarrels_21 rfl rfl ?_
  refine aw_if_eq 31 dX9_quarrels_22 (by decide) (fun c22 => absurd c22 (by decide)) (fun c22 => ?_)
  refine aw_aload_n 1 dX9_quarrels_25 rfl rfl ?_
  refine aw_iload_n 0 dX9_quarrels_26 rfl rfl ?_
  refine aw_eV [.int (-4)] [] lX9_130 vX9_refuse mX9_refuse dX9_quarrels_27 (X9_refuse4 hM) hM.1 rfl rfl rfl (Nat.le_of_ble_eq_true rfl) (by decide) (by decide) rfl (fun h151 q152 => ?_)
  exact aw_iret rfl dX9_quarrels_30 (by decide) (by decide) ⟨rfl, trivial⟩
set_option maxHeartbeats 4000000 in
theorem A17c {l : Launch} {G : xG} {h : List va_E} {t k : Int32} (hF : xF8 G h) (ht : 0 ≤ t.toInt ∧ t.toInt < 12)(hk : 80000 < k.toInt) : CE l G yX8_quarrels cX8_quarrels 4 (some .int) 2 0 0 [.ref (G.1 + 0), .int t, .int k] h (some (.int (-6))) (kp h) := by
  refine cm_of rfl (Nat.le_of_ble_eq_true rfl) [(0, .ref (G.1 + 0)), (1, .int t), (2, .int k)] rfl ?_
  refine aw_iload_n 1 dX8_quarrels_0 rfl rfl ?_
  refine aw_dS [.int t] [] lX8_154 sX8_isThing mX8_isThing dX8_quarrels_1 (X8_isThing_t (by omega)) rfl (Nat.le_of_ble_eq_true rfl) (by decide) (by decide) rfl ?_
  refine aw_if_ne 13 dX8_quarrels_4 (by decide) (fun c4 => ?_) (fun c4 => absurd c4 (by decide))
  refine aw_iload_n 2 dX8_quarrels_13 rfl rfl ?_
  refine aw_iload_n 2 dX8_quarrels_14 rfl rfl ?_
  refine aw_dS [.int k, .int k] [] lX8_157 sX8_daysRefusal mX8_daysRefusal dX8_quarrels_15 (X8_daysRefusal_c (by omega) (by omega)) rfl (Nat.le_of_ble_eq_true rfl) (by decide) (by decide) rfl ?_
  refine aw_istore_n [(3, .int (-6)), (0, .ref (G.1 + 0)), (1, .int t), (2, .int k)] dX8_quarrels_18 rfl (by decide) rfl ?_
  refine aw_iload_n 0 dX8_quarrels_19 rfl rfl ?_
  refine aw_if_eq 29 dX8_quarrels_20 (by decide) (fun c20 => absurd c20 (by decide)) (fun c20 => ?_)
  refine aw_aload_n 1 dX8_quarrels_23 rfl rfl ?_
  refine aw_iload_n 0 dX8_quarrels_24 rfl rfl ?_
  refine aw_eV [.int (-6)] [] lX8_70 vX8_refuse mX8_refuse dX8_quarrels_25 (X8_refuse6 hF) hF.1 rfl rfl rfl (Nat.le_of_ble_eq_true rfl) (by decide) (by decide) rfl (fun h153 q154 => ?_)
  exact aw_iret rfl dX8_quarrels_28 (by decide) (by decide) ⟨rfl, (kp_tr (kp_rf h) q154)⟩
set_option maxHeartbeats 4000000 in
theorem B17c {l : Launch} {G : xG} {h : List va_E} {t k : Int32} (hM : xF9 G h) (ht : 0 ≤ t.toInt ∧ t.toInt < 12)(hk : 80000 < k.toInt) : CE l G yX9_quarrels cX9_quarrels 9 (some .int) 2 0 0 [.ref (G.1 + 88), .int t, .int k] h (some (.int (-6))) (fun _ => True) := by
  refine cm_of rfl (Nat.le_of_ble_eq_true rfl) [(0, .ref (G.1 + 88)), (1, .int t), (2, .int k)] rfl ?_
  refine aw_iload_n 1 dX9_quarrels_0 rfl rfl ?_
  refine aw_bipush (12) dX9_quarrels_1 (by decide) ?_
  refine aw_dS [.int t, .int 12] [] lX9_126 sX9_isIn mX9_isIn dX9_quarrels_3 (X9_isIn12_t (by omega)) rfl (Nat.le_of_ble_eq_true rfl) (by decide) (by decide) rfl ?_
  refine aw_if_eq 19 dX9_quarrels_6 (by decide) (fun c6 => absurd c6 (by decide)) (fun c6 => ?_)
  refine aw_iload_n 2 dX9_quarrels_9 rfl rfl ?_
  refine aw_iconst (0) dX9_quarrels_10 (by decide) ?_
  refine aw_ldc (80000) kX9_194 dX9_quarrels_11 ?_
  refine aw_dS [.int k, .int 0, .int 80000] [] lX9_137 sX9_wrong mX9_wrong dX9_quarrels_13 (X9_wrong_0_80000_b (by omega)) rfl (Nat.le_of_ble_eq_true rfl) (by decide) (by decide) rfl ?_
  refine aw_goto 20 dX9_quarrels_16 (by decide) ?_
  refine aw_istore_n [(3, .int (-6)), (0, .ref (G.1 + 88)), (1, .int t), (2, .int k)] dX9_quarrels_20 rfl (by decide) rfl ?_
  refine aw_iload_n 0 dX9_quarrels_21 rfl rfl ?_
  refine aw_if_eq 31 dX9_quarrels_22 (by decide) (fun c22 => absurd c22 (by decide)) (fun c22 => ?_)
  refine aw_aload_n 1 dX9_quarrels_25 rfl rfl ?_
  refine aw_iload_n 0 dX9_quarrels_26 rfl rfl ?_
  refine aw_eV [.int (-6)] [] lX9_130 vX9_refuse mX9_refuse dX9_quarrels_27 (X9_refuse6 hM) hM.1 rfl rfl rfl (Nat.le_of_ble_eq_true rfl) (by decide) (by decide) rfl (fun h155 q156 => ?_)
  exact aw_iret rfl dX9_quarrels_30 (by decide) (by decide) ⟨rfl, trivial⟩
set_option maxHeartbeats 4000000 in
theorem A17o {l : Launch} {G : xG} {h : List va_E} {t k : Int32} (hF : xF8 G h) (ht : 0 ≤ t.toInt ∧ t.toInt < 12)(hk : 0 ≤ k.toInt ∧ k.toInt < 80001) : CE l G yX8_quarrels cX8_quarrels 4 (some .int) 2 0 0 [.ref (G.1 + 0), .int t, .int k] h (some (.int 0)) (kp h) := by
  refine cm_of rfl (Nat.le_of_ble_eq_true rfl) [(0, .ref (G.1 + 0)), (1, .int t), (2, .int k)] rfl ?_
  refine aw_iload_n 1 dX8_quarrels_0 rfl rfl ?_
  refine aw_dS [.int t] [] lX8_154 sX8_isThing mX8_isThing dX8_quarrels_1 (X8_isThing_t (by omega)) rfl (Nat.le_of_ble_eq_true rfl) (by decide) (by decide) rfl ?_
  refine aw_if_ne 13 dX8_quarrels_4 (by decide) (fun c4 => ?_) (fun c4 => absurd c4 (by decide))
  refine aw_iload_n 2 dX8_quarrels_13 rfl rfl ?_
  refine aw_iload_n 2 dX8_quarrels_14 rfl rfl ?_
  refine aw_dS [.int k, .int k] [] lX8_157 sX8_daysRefusal mX8_daysRefusal dX8_quarrels_15 (X8_daysRefusal_o (by omega) (by omega)) rfl (Nat.le_of_ble_eq_true rfl) (by decide) (by decide) rfl ?_
  refine aw_istore_n [(3, .int 0), (0, .ref (G.1 + 0)), (1, .int t), (2, .int k)] dX8_quarrels_18 rfl (by decide) rfl ?_
  refine aw_iload_n 0 dX8_quarrels_19 rfl rfl ?_
  refine aw_if_eq 29 dX8_quarrels_20 (by decide) (fun c20 => ?_) (fun c20 => absurd (by decide) c20)
  refine aw_aload_n 1 dX8_quarrels_29 rfl rfl ?_
  refine aw_get fX8_34 dX8_quarrels_30 hF.1 rfl ?_
  refine aw_iload_n 2 dX8_quarrels_33 rfl rfl ?_
  refine aw_iload_n 3 dX8_quarrels_34 rfl rfl ?_
  refine aw_dV [.int t, .int k] [] lX8_180 vX5_quarrelDays mX5_quarrelDays dX8_quarrels_35 (X5_quarrelDays_o hF) hF.2.2.2.2.2.2.2.2.2.2.2.2.2.1 rfl rfl rfl (Nat.le_of_ble_eq_true rfl) (by decide) (by decide) rfl ?_
  exact aw_iret rfl dX8_quarrels_38 (by decide) (by decide) ⟨rfl, kp_rf h⟩
set_option maxHeartbeats 4000000 in
theorem B17o {l : Launch} {G : xG} {h : List va_E} {t k : Int32} (hM : xF9 G h) (ht : 0 ≤ t.toInt ∧ t.toInt < 12)(hk : 0 ≤ k.toInt ∧ k.toInt < 80001) : CE l G yX9_quarrels cX9_quarrels 9 (some .int) 2 0 0 [.ref (G.1 + 88), .int t, .int k] h (some (.int 0)) (fun _ => True) := by
  refine cm_of rfl (Nat.le_of_ble_eq_true rfl) [(0, .ref (G.1 + 88)), (1, .int t), (2, .int k)] rfl ?_
  refine aw_iload_n 1 dX9_quarrels_0 rfl rfl ?_
  refine aw_bipush (12) dX9_quarrels_1 (by decide) ?_
  refine aw_dS [.int t, .int 12] [] lX9_126 sX9_isIn mX9_isIn dX9_quarrels_3 (X9_isIn12_t (by omega)) rfl (Nat.le_of_ble_eq_true rfl) (by decide) (by decide) rfl ?_
  refine aw_if_eq 19 dX9_quarrels_6 (by decide) (fun c6 => absurd c6 (by decide)) (fun c6 => ?_)
  refine aw_iload_n 2 dX9_quarrels_9 rfl rfl ?_
  refine aw_iconst (0) dX9_quarrels_10 (by decide) ?_
  refine aw_ldc (80000) kX9_194 dX9_quarrels_11 ?_
  refine aw_dS [.int k, .int 0, .int 80000] [] lX9_137 sX9_wrong mX9_wrong dX9_quarrels_13 (X9_wrong_0_80000_o (by omega)) rfl (Nat.le_of_ble_eq_true rfl) (by decide) (by decide) rfl ?_
  refine aw_goto 20 dX9_quarrels_16 (by decide) ?_
  refine aw_istore_n [(3, .int 0), (0, .ref (G.1 + 88)), (1, .int t), (2, .int k)] dX9_quarrels_20 rfl (by decide) rfl ?_
  refine aw_iload_n 0 dX9_quarrels_21 rfl rfl ?_
  refine aw_if_eq 31 dX9_quarrels_22 (by decide) (fun c22 => ?_) (fun c22 => absurd (by decide) c22)
  refine aw_iconst (0) dX9_quarrels_31 (by decide) ?_
  refine aw_istore [(4, .int 0), (3, .int 0), (0, .ref (G.1 + 88)), (1, .int t), (2, .int k)] dX9_quarrels_32 (by decide) rfl ?_
  refine aw_iconst (0) dX9_quarrels_34 (by decide) ?_
  refine aw_istore [(5, .int 0), (4, .int 0), (3, .int 0), (0, .ref (G.1 + 88)), (1, .int t), (2, .int k)] dX9_quarrels_35 (by decide) rfl ?_
  refine aw_iload 0 dX9_quarrels_37 rfl ?_
  refine aw_aload_n 3 dX9_quarrels_39 rfl rfl ?_
  refine aw_get fX9_198 dX9_quarrels_40 hM.1 rfl ?_
  refine aw_icmp_ge 189 dX9_quarrels_43 (by decide) (fun c43 => ?_) (fun c43 => absurd (by decide) c43)
  refine aw_iload 1 dX9_quarrels_189 rfl ?_
  exact aw_iret rfl dX9_quarrels_191 (by decide) (by decide) ⟨rfl, trivial⟩
