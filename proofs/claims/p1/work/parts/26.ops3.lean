set_option maxHeartbeats 4000000 in
theorem X2_replay_o {l : Launch} {G : xG} {h : List va_E} {t d k : Int32} (hF : xF8 G h) : CE l G yX2_replay cX2_replay 7 none 0 0 0 [.ref (G.1 + 77), .ref (G.1 + 69), .int t, .int d, .int k] h none (fun h1 => kp h h1 ∧ h1[77]? = some (.inr (2, [.ref (G.1 + 78), .int 0, .int (-9), .int (-9), .int 0])) ∧ ∀ j, j ≠ 77 → h1[j]? = h[j]?) := by
  refine cm_of rfl (Nat.le_of_ble_eq_true rfl) [(0, .ref (G.1 + 77)), (1, .ref (G.1 + 69)), (2, .int t), (3, .int d), (4, .int k)] rfl ?_
  refine aw_aload_n 0 dX2_replay_0 rfl rfl ?_
  refine aw_iconst (0) dX2_replay_1 (by decide) ?_
  refine aw_putQ fX2_15 dX2_replay_2 [.ref (G.1 + 78), .int 0, .int (-9), .int (-9), .int 0] hF.2.2.2.2.2.2.2.2.2.2.2.2.2.2.2.2.2.2.2.2.2.2.2.2.2.2.2.2.2.1 rfl rfl rfl (Nat.le_of_ble_eq_true rfl) rfl ?_
  refine aw_aload_n 0 dX2_replay_5 rfl rfl ?_
  refine aw_bipush (-9) dX2_replay_6 (by decide) ?_
  refine aw_putQ fX2_19 dX2_replay_8 [.ref (G.1 + 78), .int 0, .int (-9), .int (-9), .int 0] (gs hF.2.2.2.2.2.2.2.2.2.2.2.2.2.2.2.2.2.2.2.2.2.2.2.2.2.2.2.2.2.1) rfl rfl rfl (Nat.le_of_ble_eq_true rfl) rfl ?_
  refine aw_aload_n 0 dX2_replay_11 rfl rfl ?_
  refine aw_bipush (-9) dX2_replay_12 (by decide) ?_
  refine aw_putQ fX2_22 dX2_replay_14 [.ref (G.1 + 78), .int 0, .int (-9), .int (-9), .int 0] (gs (gs hF.2.2.2.2.2.2.2.2.2.2.2.2.2.2.2.2.2.2.2.2.2.2.2.2.2.2.2.2.2.1)) rfl rfl rfl (Nat.le_of_ble_eq_true rfl) rfl ?_
  refine aw_aload_n 0 dX2_replay_17 rfl rfl ?_
  refine aw_iconst (0) dX2_replay_18 (by decide) ?_
  refine aw_putQ fX2_25 dX2_replay_19 [.ref (G.1 + 78), .int 0, .int (-9), .int (-9), .int 0] (gs (gs (gs hF.2.2.2.2.2.2.2.2.2.2.2.2.2.2.2.2.2.2.2.2.2.2.2.2.2.2.2.2.2.1))) rfl rfl rfl (Nat.le_of_ble_eq_true rfl) rfl ?_
  refine aw_iconst (0) dX2_replay_22 (by decide) ?_
  refine aw_istore [(5, .int 0), (0, .ref (G.1 + 77)), (1, .ref (G.1 + 69)), (2, .int t), (3, .int d), (4, .int k)] dX2_replay_23 (by decide) rfl ?_
  refine aw_iload 0 dX2_replay_25 rfl ?_
  refine aw_aload_n 2 dX2_replay_27 rfl rfl ?_
  refine aw_get fX2_29 dX2_replay_28 (gn (by decide) (gn (by decide) (gn (by decide) (gn (by decide) (hF.2.2.2.2.2.2.2.2.2.2.2.2.2.2.2.2.2.2.2.2.2.1))))) rfl ?_
  refine aw_icmp_ge 90 dX2_replay_31 (by decide) (fun c31 => ?_) (fun c31 => absurd (by decide) c31)
  exact aw_vret rfl dX2_replay_90 (by decide) (by decide) ⟨rfl, kp_set (kp_set (kp_set (kp_set (kp_rf h) (by decide)) (by decide)) (by decide)) (by decide), (gs (gs (gs (gs hF.2.2.2.2.2.2.2.2.2.2.2.2.2.2.2.2.2.2.2.2.2.2.2.2.2.2.2.2.2.1)))), fun j hj => by rw [List.getElem?_set_ne (Ne.symm hj)]; rw [List.getElem?_set_ne (Ne.symm hj)]; rw [List.getElem?_set_ne (Ne.symm hj)]; rw [List.getElem?_set_ne (Ne.symm hj)]⟩
set_option maxHeartbeats 4000000 in
theorem X9_goes_o {l : Launch} {G : xG} {h : List va_E} {t d k : Int32} (hM : xF9 G h) : CE l G yX9_goes cX9_goes 9 none 0 0 0 [.ref (G.1 + 88), .int t, .int d, .int k] h none (fun h1 => h1[88]? = some (.inr (9, [.ref (G.1 + 89), .ref (G.1 + 90), .ref (G.1 + 91), .ref (G.1 + 92), .ref (G.1 + 93), .ref (G.1 + 94), .ref (G.1 + 95), .ref (G.1 + 96), .ref (G.1 + 97), .ref (G.1 + 98), .int 5, .int 1, .int 0, .ref (G.1 + 99), .ref (G.1 + 100), .ref (G.1 + 101), .ref (G.1 + 102), .int 0, .int 0, .ref (G.1 + 103), .ref (G.1 + 104), .ref (G.1 + 105), .ref (G.1 + 106), .ref (G.1 + 107), .ref (G.1 + 108), .ref (G.1 + 109), .ref (G.1 + 110), .ref (G.1 + 111), .ref (G.1 + 112), .ref (G.1 + 113), .ref (G.1 + 114), .ref (G.1 + 115), .int (-9), .int (-9), .int 0, .int 0, .ref (G.1 + 116), .ref (G.1 + 117), .ref (G.1 + 118), .ref (G.1 + 119), .ref (G.1 + 120), .ref (G.1 + 121), .ref (G.1 + 122), .int 0, .ref (G.1 + 123), .ref (G.1 + 124)])) ∧ ∀ j, j ≠ 88 → h1[j]? = h[j]?) := by
  refine cm_of rfl (Nat.le_of_ble_eq_true rfl) [(0, .ref (G.1 + 88)), (1, .int t), (2, .int d), (3, .int k)] rfl ?_
  refine aw_iconst (0) dX9_goes_0 (by decide) ?_
  refine aw_istore [(4, .int 0), (0, .ref (G.1 + 88)), (1, .int t), (2, .int d), (3, .int k)] dX9_goes_1 (by decide) rfl ?_
  refine aw_iconst (0) dX9_goes_3 (by decide) ?_
  refine aw_istore [(5, .int 0), (4, .int 0), (0, .ref (G.1 + 88)), (1, .int t), (2, .int d), (3, .int k)] dX9_goes_4 (by decide) rfl ?_
  refine aw_iload 0 dX9_goes_6 rfl ?_
  refine aw_aload_n 2 dX9_goes_8 rfl rfl ?_
  refine aw_get fX9_202 dX9_goes_9 hM.1 rfl ?_
  refine aw_icmp_ge 113 dX9_goes_12 (by decide) (fun c12 => ?_) (fun c12 => absurd (by decide) c12)
  refine aw_aload_n 2 dX9_goes_113 rfl rfl ?_
  refine aw_bipush (-9) dX9_goes_114 (by decide) ?_
  refine aw_putQ fX9_211 dX9_goes_116 [.ref (G.1 + 89), .ref (G.1 + 90), .ref (G.1 + 91), .ref (G.1 + 92), .ref (G.1 + 93), .ref (G.1 + 94), .ref (G.1 + 95), .ref (G.1 + 96), .ref (G.1 + 97), .ref (G.1 + 98), .int 5, .int 1, .int 0, .ref (G.1 + 99), .ref (G.1 + 100), .ref (G.1 + 101), .ref (G.1 + 102), .int 0, .int 0, .ref (G.1 + 103), .ref (G.1 + 104), .ref (G.1 + 105), .ref (G.1 + 106), .ref (G.1 + 107), .ref (G.1 + 108), .ref (G.1 + 109), .ref (G.1 + 110), .ref (G.1 + 111), .ref (G.1 + 112), .ref (G.1 + 113), .ref (G.1 + 114), .ref (G.1 + 115), .int (-9), .int 0, .int 0, .int 0, .ref (G.1 + 116), .ref (G.1 + 117), .ref (G.1 + 118), .ref (G.1 + 119), .ref (G.1 + 120), .ref (G.1 + 121), .ref (G.1 + 122), .int 0, .ref (G.1 + 123), .ref (G.1 + 124)] hM.1 rfl rfl rfl (Nat.le_of_ble_eq_true rfl) rfl ?_
  refine aw_aload_n 2 dX9_goes_119 rfl rfl ?_
  refine aw_bipush (-9) dX9_goes_120 (by decide) ?_
  refine aw_putQ fX9_214 dX9_goes_122 [.ref (G.1 + 89), .ref (G.1 + 90), .ref (G.1 + 91), .ref (G.1 + 92), .ref (G.1 + 93), .ref (G.1 + 94), .ref (G.1 + 95), .ref (G.1 + 96), .ref (G.1 + 97), .ref (G.1 + 98), .int 5, .int 1, .int 0, .ref (G.1 + 99), .ref (G.1 + 100), .ref (G.1 + 101), .ref (G.1 + 102), .int 0, .int 0, .ref (G.1 + 103), .ref (G.1 + 104), .ref (G.1 + 105), .ref (G.1 + 106), .ref (G.1 + 107), .ref (G.1 + 108), .ref (G.1 + 109), .ref (G.1 + 110), .ref (G.1 + 111), .ref (G.1 + 112), .ref (G.1 + 113), .ref (G.1 + 114), .ref (G.1 + 115), .int (-9), .int (-9), .int 0, .int 0, .ref (G.1 + 116), .ref (G.1 + 117), .ref (G.1 + 118), .ref (G.1 + 119), .ref (G.1 + 120), .ref (G.1 + 121), .ref (G.1 + 122), .int 0, .ref (G.1 + 123), .ref (G.1 + 124)] (gs hM.1) rfl rfl rfl (Nat.le_of_ble_eq_true rfl) rfl ?_
  refine aw_aload_n 2 dX9_goes_125 rfl rfl ?_
  refine aw_iconst (0) dX9_goes_126 (by decide) ?_
  refine aw_putQ fX9_217 dX9_goes_127 [.ref (G.1 + 89), .ref (G.1 + 90), .ref (G.1 + 91), .ref (G.1 + 92), .ref (G.1 + 93), .ref (G.1 + 94), .ref (G.1 + 95), .ref (G.1 + 96), .ref (G.1 + 97), .ref (G.1 + 98), .int 5, .int 1, .int 0, .ref (G.1 + 99), .ref (G.1 + 100), .ref (G.1 + 101), .ref (G.1 + 102), .int 0, .int 0, .ref (G.1 + 103), .ref (G.1 + 104), .ref (G.1 + 105), .ref (G.1 + 106), .ref (G.1 + 107), .ref (G.1 + 108), .ref (G.1 + 109), .ref (G.1 + 110), .ref (G.1 + 111), .ref (G.1 + 112), .ref (G.1 + 113), .ref (G.1 + 114), .ref (G.1 + 115), .int (-9), .int (-9), .int 0, .int 0, .ref (G.1 + 116), .ref (G.1 + 117), .ref (G.1 + 118), .ref (G.1 + 119), .ref (G.1 + 120), .ref (G.1 + 121), .ref (G.1 + 122), .int 0, .ref (G.1 + 123), .ref (G.1 + 124)] (gs (gs hM.1)) rfl rfl rfl (Nat.le_of_ble_eq_true rfl) rfl ?_
  refine aw_iconst (0) dX9_goes_130 (by decide) ?_
  refine aw_istore [(5, .int 0), (4, .int 0), (0, .ref (G.1 + 88)), (1, .int t), (2, .int d), (3, .int k)] dX9_goes_131 (by decide) rfl ?_
  refine aw_iconst (0) dX9_goes_133 (by decide) ?_
  refine aw_istore [(6, .int 0), (5, .int 0), (4, .int 0), (0, .ref (G.1 + 88)), (1, .int t), (2, .int d), (3, .int k)] dX9_goes_134 (by decide) rfl ?_
  refine aw_iload 0 dX9_goes_136 rfl ?_
  refine aw_iload 2 dX9_goes_138 rfl ?_
  refine aw_icmp_ge 278 dX9_goes_140 (by decide) (fun c140 => ?_) (fun c140 => absurd (by decide) c140)
  exact aw_vret rfl dX9_goes_278 (by decide) (by decide) ⟨rfl, (gs (gs (gs hM.1))), fun j hj => by rw [List.getElem?_set_ne (Ne.symm hj)]; rw [List.getElem?_set_ne (Ne.symm hj)]; rw [List.getElem?_set_ne (Ne.symm hj)]⟩
set_option maxHeartbeats 4000000 in
theorem A18t {l : Launch} {G : xG} {h : List va_E} {t d k w : Int32} (hF : xF8 G h) (ht : ¬ (0 ≤ t.toInt ∧ t.toInt < 12)) : CE l G yX8_holds cX8_holds 6 (some .int) 2 0 0 [.ref (G.1 + 0), .int t, .int d, .int k, .int w] h (some (.int (-1))) (kp h) := by
  refine cm_of rfl (Nat.le_of_ble_eq_true rfl) [(0, .ref (G.1 + 0)), (1, .int t), (2, .int d), (3, .int k), (4, .int w)] rfl ?_
  refine aw_iload_n 1 dX8_holds_0 rfl rfl ?_
  refine aw_dS [.int t] [] lX8_154 sX8_isThing mX8_isThing dX8_holds_1 (X8_isThing_f (by omega)) rfl (Nat.le_of_ble_eq_true rfl) (by decide) (by decide) rfl ?_
  refine aw_if_ne 13 dX8_holds_4 (by decide) (fun c4 => absurd (by decide) c4) (fun c4 => ?_)
  refine aw_aload_n 0 dX8_holds_7 rfl rfl ?_
  refine aw_iconst (-1) dX8_holds_8 (by decide) ?_
  refine aw_eV [.int (-1)] [] lX8_70 vX8_refuse mX8_refuse dX8_holds_9 (X8_refuse1 hF) hF.1 rfl rfl rfl (Nat.le_of_ble_eq_true rfl) (by decide) (by decide) rfl (fun h1 q2 => ?_)
  exact aw_iret rfl dX8_holds_12 (by decide) (by decide) ⟨rfl, (kp_tr (kp_rf h) q2)⟩
set_option maxHeartbeats 4000000 in
theorem B18t {l : Launch} {G : xG} {h : List va_E} {t d k w : Int32} (hM : xF9 G h) (ht : ¬ (0 ≤ t.toInt ∧ t.toInt < 12)) : CE l G yX9_holds cX9_holds 6 (some .int) 2 0 0 [.ref (G.1 + 88), .int t, .int d, .int k, .int w] h (some (.int (-1))) (fun _ => True) := by
  refine cm_of rfl (Nat.le_of_ble_eq_true rfl) [(0, .ref (G.1 + 88)), (1, .int t), (2, .int d), (3, .int k), (4, .int w)] rfl ?_
  refine aw_iload_n 1 dX9_holds_0 rfl rfl ?_
  refine aw_bipush (12) dX9_holds_1 (by decide) ?_
  refine aw_dS [.int t, .int 12] [] lX9_126 sX9_isIn mX9_isIn dX9_holds_3 (X9_isIn12_f (by omega)) rfl (Nat.le_of_ble_eq_true rfl) (by decide) (by decide) rfl ?_
  refine aw_if_ne 13 dX9_holds_6 (by decide) (fun c6 => absurd (by decide) c6) (fun c6 => ?_)
  refine aw_iconst (-1) dX9_holds_9 (by decide) ?_
  refine aw_goto 32 dX9_holds_10 (by decide) ?_
  refine aw_istore [(5, .int (-1)), (0, .ref (G.1 + 88)), (1, .int t), (2, .int d), (3, .int k), (4, .int w)] dX9_holds_32 (by decide) rfl ?_
  refine aw_iload 0 dX9_holds_34 rfl ?_
  refine aw_if_eq 46 dX9_holds_36 (by decide) (fun c36 => absurd c36 (by decide)) (fun c36 => ?_)
  refine aw_aload_n 1 dX9_holds_39 rfl rfl ?_
  refine aw_iload 0 dX9_holds_40 rfl ?_
  refine aw_eV [.int (-1)] [] lX9_130 vX9_refuse mX9_refuse dX9_holds_42 (X9_refuse1 hM) hM.1 rfl rfl rfl (Nat.le_of_ble_eq_true rfl) (by decide) (by decide) rfl (fun h3 q4 => ?_)
  exact aw_iret rfl dX9_holds_45 (by decide) (by decide) ⟨rfl, trivial⟩
set_option maxHeartbeats 4000000 in
theorem A18w {l : Launch} {G : xG} {h : List va_E} {t d k w : Int32} (hF : xF8 G h) (ht : 0 ≤ t.toInt ∧ t.toInt < 12)(hw : w.toInt < 0) : CE l G yX8_holds cX8_holds 6 (some .int) 2 0 0 [.ref (G.1 + 0), .int t, .int d, .int k, .int w] h (some (.int (-2))) (kp h) := by
  refine cm_of rfl (Nat.le_of_ble_eq_true rfl) [(0, .ref (G.1 + 0)), (1, .int t), (2, .int d), (3, .int k), (4, .int w)] rfl ?_
  refine aw_iload_n 1 dX8_holds_0 rfl rfl ?_
  refine aw_dS [.int t] [] lX8_154 sX8_isThing mX8_isThing dX8_holds_1 (X8_isThing_t (by omega)) rfl (Nat.le_of_ble_eq_true rfl) (by decide) (by decide) rfl ?_
  refine aw_if_ne 13 dX8_holds_4 (by decide) (fun c4 => ?_) (fun c4 => absurd c4 (by decide))
  refine aw_iload 4 dX8_holds_13 rfl ?_
  refine aw_if_lt 24 dX8_holds_15 (by decide) (fun c15 => ?_) (fun c15 => absurd (by simp only [i_lt, (show (0 : Int32).toInt = 0 from rfl)] <;> omega) c15)
  refine aw_aload_n 0 dX8_holds_24 rfl rfl ?_
  refine aw_bipush (-2) dX8_holds_25 (by decide) ?_
  refine aw_eV [.int (-2)] [] lX8_70 vX8_refuse mX8_refuse dX8_holds_27 (X8_refuse2 hF) hF.1 rfl rfl rfl (Nat.le_of_ble_eq_true rfl) (by decide) (by decide) rfl (fun h5 q6 => ?_)
  exact aw_iret rfl dX8_holds_30 (by decide) (by decide) ⟨rfl, (kp_tr (kp_rf h) q6)⟩
set_option maxHeartbeats 4000000 in
theorem B18w {l : Launch} {G : xG} {h : List va_E} {t d k w : Int32} (hM : xF9 G h) (ht : 0 ≤ t.toInt ∧ t.toInt < 12)(hw : w.toInt < 0) : CE l G yX9_holds cX9_holds 6 (some .int) 2 0 0 [.ref (G.1 + 88), .int t, .int d, .int k, .int w] h (some (.int (-2))) (fun _ => True) := by
  refine cm_of rfl (Nat.le_of_ble_eq_true rfl) [(0, .ref (G.1 + 88)), (1, .int t), (2, .int d), (3, .int k), (4, .int w)] rfl ?_
  refine aw_iload_n 1 dX9_holds_0 rfl rfl ?_
  refine aw_bipush (12) dX9_holds_1 (by decide) ?_
  refine aw_dS [.int t, .int 12] [] lX9_126 sX9_isIn mX9_isIn dX9_holds_3 (X9_isIn12_t (by omega)) rfl (Nat.le_of_ble_eq_true rfl) (by decide) (by decide) rfl ?_
  refine aw_if_ne 13 dX9_holds_6 (by decide) (fun c6 => ?_) (fun c6 => absurd c6 (by decide))
  refine aw_iload 4 dX9_holds_13 rfl ?_
  refine aw_iconst (3) dX9_holds_15 (by decide) ?_
  refine aw_dS [.int w, .int 3] [] lX9_126 sX9_isIn mX9_isIn dX9_holds_16 (X9_isIn3_f (by omega)) rfl (Nat.le_of_ble_eq_true rfl) (by decide) (by decide) rfl ?_
  refine aw_if_ne 27 dX9_holds_19 (by decide) (fun c19 => absurd (by decide) c19) (fun c19 => ?_)
  refine aw_bipush (-2) dX9_holds_22 (by decide) ?_
  refine aw_goto 32 dX9_holds_24 (by decide) ?_
  refine aw_istore [(5, .int (-2)), (0, .ref (G.1 + 88)), (1, .int t), (2, .int d), (3, .int k), (4, .int w)] dX9_holds_32 (by decide) rfl ?_
  refine aw_iload 0 dX9_holds_34 rfl ?_
  refine aw_if_eq 46 dX9_holds_36 (by decide) (fun c36 => absurd c36 (by decide)) (fun c36 => ?_)
  refine aw_aload_n 1 dX9_holds_39 rfl rfl ?_
  refine aw_iload 0 dX9_holds_40 rfl ?_
  refine aw_eV [.int (-2)] [] lX9_130 vX9_refuse mX9_refuse dX9_holds_42 (X9_refuse2 hM) hM.1 rfl rfl rfl (Nat.le_of_ble_eq_true rfl) (by decide) (by decide) rfl (fun h7 q8 => ?_)
  exact aw_iret rfl dX9_holds_45 (by decide) (by decide) ⟨rfl, trivial⟩
set_option maxHeartbeats 4000000 in
theorem A18x {l : Launch} {G : xG} {h : List va_E} {t d k w : Int32} (hF : xF8 G h) (ht : 0 ≤ t.toInt ∧ t.toInt < 12)(hw : 3 ≤ w.toInt) : CE l G yX8_holds cX8_holds 6 (some .int) 2 0 0 [.ref (G.1 + 0), .int t, .int d, .int k, .int w] h (some (.int (-2))) (kp h) := by
  refine cm_of rfl (Nat.le_of_ble_eq_true rfl) [(0, .ref (G.1 + 0)), (1, .int t), (2, .int d), (3, .int k), (4, .int w)] rfl ?_
  refine aw_iload_n 1 dX8_holds_0 rfl rfl ?_
  refine aw_dS [.int t] [] lX8_154 sX8_isThing mX8_isThing dX8_holds_1 (X8_isThing_t (by omega)) rfl (Nat.le_of_ble_eq_true rfl) (by decide) (by decide) rfl ?_
  refine aw_if_ne 13 dX8_holds_4 (by decide) (fun c4 => ?_) (fun c4 => absurd c4 (by decide))
  refine aw_iload 4 dX8_holds_13 rfl ?_
  refine aw_if_lt 24 dX8_holds_15 (by decide) (fun c15 => absurd c15 (by simp only [i_lt, (show (0 : Int32).toInt = 0 from rfl)] <;> omega)) (fun c15 => ?_)
  refine aw_iload 4 dX8_holds_18 rfl ?_
  refine aw_iconst (2) dX8_holds_20 (by decide) ?_
  refine aw_icmp_le 31 dX8_holds_21 (by decide) (fun c21 => absurd c21 (by simp only [i_le, (show (2 : Int32).toInt = 2 from rfl)] <;> omega)) (fun c21 => ?_)
  refine aw_aload_n 0 dX8_holds_24 rfl rfl ?_
  refine aw_bipush (-2) dX8_holds_25 (by decide) ?_
  refine aw_eV [.int (-2)] [] lX8_70 vX8_refuse mX8_refuse dX8_holds_27 (X8_refuse2 hF) hF.1 rfl rfl rfl (Nat.le_of_ble_eq_true rfl) (by decide) (by decide) rfl (fun h9 q10 => ?_)
  exact aw_iret rfl dX8_holds_30 (by decide) (by decide) ⟨rfl, (kp_tr (kp_rf h) q10)⟩
set_option maxHeartbeats 4000000 in
theorem B18x {l : Launch} {G : xG} {h : List va_E} {t d k w : Int32} (hM : xF9 G h) (ht : 0 ≤ t.toInt ∧ t.toInt < 12)(hw : 3 ≤ w.toInt) : CE l G yX9_holds cX9_holds 6 (some .int) 2 0 0 [.ref (G.1 + 88), .int t, .int d, .int k, .int w] h (some (.int (-2))) (fun _ => True) := by
  refine cm_of rfl (Nat.le_of_ble_eq_true rfl) [(0, .ref (G.1 + 88)), (1, .int t), (2, .int d), (3, .int k), (4, .int w)] rfl ?_
  refine aw_iload_n 1 dX9_holds_0 rfl rfl ?_
  refine aw_bipush (12) dX9_holds_1 (by decide) ?_
  refine aw_dS [.int t, .int 12] [] lX9_126 sX9_isIn mX9_isIn dX9_holds_3 (X9_isIn12_t (by omega)) rfl (Nat.le_of_ble_eq_true rfl) (by decide) (by decide) rfl ?_
  refine aw_if_ne 13 dX9_holds_6 (by decide) (fun c6 => ?_) (fun c6 => absurd c6 (by decide))
  refine aw_iload 4 dX9_holds_13 rfl ?_
  refine aw_iconst (3) dX9_holds_15 (by decide) ?_
  refine aw_dS [.int w, .int 3] [] lX9_126 sX9_isIn mX9_isIn dX9_holds_16 (X9_isIn3_f (by omega)) rfl (Nat.le_of_ble_eq_true rfl) (by decide) (by decide) rfl ?_
  refine aw_if_ne 27 dX9_holds_19 (by decide) (fun c19 => absurd (by decide) c19) (fun c19 => ?_)
  refine aw_bipush (-2) dX9_holds_22 (by decide) ?_
  refine aw_goto 32 dX9_holds_24 (by decide) ?_
  refine aw_istore [(5, .int (-2)), (0, .ref (G.1 + 88)), (1, .int t), (2, .int d), (3, .int k), (4, .int w)] dX9_holds_32 (by decide) rfl ?_
  refine aw_iload 0 dX9_holds_34 rfl ?_
  refine aw_if_eq 46 dX9_holds_36 (by decide) (fun c36 => absurd c36 (by decide)) (fun c36 => ?_)
  refine aw_aload_n 1 dX9_holds_39 rfl rfl ?_
  refine aw_iload 0 dX9_holds_40 rfl ?_
  refine aw_eV [.int (-2)] [] lX9_130 vX9_refuse mX9_refuse dX9_holds_42 (X9_refuse2 hM) hM.1 rfl rfl rfl (Nat.le_of_ble_eq_true rfl) (by decide) (by decide) rfl (fun h11 q12 => ?_)
  exact aw_iret rfl dX9_holds_45 (by decide) (by decide) ⟨rfl, trivial⟩
set_option maxHeartbeats 4000000 in
theorem A18a {l : Launch} {G : xG} {h : List va_E} {t d k w : Int32} (hF : xF8 G h) (ht : 0 ≤ t.toInt ∧ t.toInt < 12)(hw : 0 ≤ w.toInt ∧ w.toInt < 3)(h0 : d.toInt < 0) : CE l G yX8_holds cX8_holds 6 (some .int) 2 0 0 [.ref (G.1 + 0), .int t, .int d, .int k, .int w] h (some (.int (-4))) (kp h) := by
  refine cm_of rfl (Nat.le_of_ble_eq_true rfl) [(0, .ref (G.1 + 0)), (1, .int t), (2, .int d), (3, .int k), (4, .int w)] rfl ?_
  refine aw_iload_n 1 dX8_holds_0 rfl rfl ?_
  refine aw_dS [.int t] [] lX8_154 sX8_isThing mX8_isThing dX8_holds_1 (X8_isThing_t (by omega)) rfl (Nat.le_of_ble_eq_true rfl) (by decide) (by decide) rfl ?_
  refine aw_if_ne 13 dX8_holds_4 (by decide) (fun c4 => ?_) (fun c4 => absurd c4 (by decide))
  refine aw_iload 4 dX8_holds_13 rfl ?_
  refine aw_if_lt 24 dX8_holds_15 (by decide) (fun c15 => absurd c15 (by simp only [i_lt, (show (0 : Int32).toInt = 0 from rfl)] <;> omega)) (fun c15 => ?_)
  refine aw_iload 4 dX8_holds_18 rfl ?_
  refine aw_iconst (2) dX8_holds_20 (by decide) ?_
  refine aw_icmp_le 31 dX8_holds_21 (by decide) (fun c21 => ?_) (fun c21 => absurd (by simp only [i_le, (show (2 : Int32).toInt = 2 from rfl)] <;> omega) c21)
  refine aw_iload_n 2 dX8_holds_31 rfl rfl ?_
  refine aw_iload_n 3 dX8_holds_32 rfl rfl ?_
  refine aw_dS [.int d, .int k] [] lX8_157 sX8_daysRefusal mX8_daysRefusal dX8_holds_33 (X8_daysRefusal_a (by omega)) rfl (Nat.le_of_ble_eq_true rfl) (by decide) (by decide) rfl ?_
  refine aw_istore [(5, .int (-4)), (0, .ref (G.1 + 0)), (1, .int t), (2, .int d), (3, .int k), (4, .int w)] dX8_holds_36 (by decide) rfl ?_
  refine aw_iload 0 dX8_holds_38 rfl ?_
  refine aw_if_eq 50 dX8_holds_40 (by decide) (fun c40 => absurd c40 (by decide)) (fun c40 => ?_)
  refine aw_aload_n 1 dX8_holds_43 rfl rfl ?_
  refine aw_iload 0 dX8_holds_44 rfl ?_
  refine aw_eV [.int (-4)] [] lX8_70 vX8_refuse mX8_refuse dX8_holds_46 (X8_refuse4 hF) hF.1 rfl rfl rfl (Nat.le_of_ble_eq_true rfl) (by decide) (by decide) rfl (fun h13 q14 => ?_)
  exact aw_iret rfl dX8_holds_49 (by decide) (by decide) ⟨rfl, (kp_tr (kp_rf h) q14)⟩
set_option maxHeartbeats 4000000 in
theorem B18a {l : Launch} {G : xG} {h : List va_E} {t d k w : Int32} (hM : xF9 G h) (ht : 0 ≤ t.toInt ∧ t.toInt < 12)(hw : 0 ≤ w.toInt ∧ w.toInt < 3)(h0 : d.toInt < 0) : CE l G yX9_holds cX9_holds 6 (some .int) 2 0 0 [.ref (G.1 + 88), .int t, .int d, .int k, .int w] h (some (.int (-4))) (fun _ => True) := by
  refine cm_of rfl (Nat.le_of_ble_eq_true rfl) [(0, .ref (G.1 + 88)), (1, .int t), (2, .int d), (3, .int k), (4, .int w)] rfl ?_
  refine aw_iload_n 1 dX9_holds_0 rfl rfl ?_
  refine aw_bipush (12) dX9_holds_1 (by decide) ?_
  refine aw_dS [.int t, .int 12] [] lX9_126 sX9_isIn mX9_isIn dX9_holds_3 (X9_isIn12_t (by omega)) rfl (Nat.le_of_ble_eq_true rfl) (by decide) (by decide) rfl ?_
  refine aw_if_ne 13 dX9_holds_6 (by decide) (fun c6 => ?_) (fun c6 => absurd c6 (by decide))
  refine aw_iload 4 dX9_holds_13 rfl ?_
  refine aw_iconst (3) dX9_holds_15 (by decide) ?_
  refine aw_dS [.int w, .int 3] [] lX9_126 sX9_isIn mX9_isIn dX9_holds_16 (X9_isIn3_t (by omega)) rfl (Nat.le_of_ble_eq_true rfl) (by decide) (by decide) rfl ?_
  refine aw_if_ne 27 dX9_holds_19 (by decide) (fun c19 => ?_) (fun c19 => absurd c19 (by decide))
  refine aw_iload_n 2 dX9_holds_27 rfl rfl ?_
  refine aw_iload_n 3 dX9_holds_28 rfl rfl ?_
  refine aw_dS [.int d, .int k] [] lX9_195 sX9_wrongDays mX9_wrongDays dX9_holds_29 (X9_wrongDays_a (by omega)) rfl (Nat.le_of_ble_eq_true rfl) (by decide) (by decide) rfl ?_
  refine aw_istore [(5, .int (-4)), (0, .ref (G.1 + 88)), (1, .int t), (2, .int d), (3, .int k), (4, .int w)] dX9_holds_32 (by decide) rfl ?_
  refine aw_iload 0 dX9_holds_34 rfl ?_
  refine aw_if_eq 46 dX9_holds_36 (by decide) (fun c36 => absurd c36 (by decide)) (fun c36 => ?_)
  refine aw_aload_n 1 dX9_holds_39 rfl rfl ?_
  refine aw_iload 0 dX9_holds_40 rfl ?_
  refine aw_eV [.int (-4)] [] lX9_130 vX9_refuse mX9_refuse dX9_holds_42 (X9_refuse4 hM) hM.1 rfl rfl rfl (Nat.le_of_ble_eq_true rfl) (by decide) (by decide) rfl (fun h15 q16 => ?_)
  exact aw_iret rfl dX9_holds_45 (by decide) (by decide) ⟨rfl, trivial⟩
set_option maxHeartbeats 4000000 in
theorem A18b {l : Launch} {G : xG} {h : List va_E} {t d k w : Int32} (hF : xF8 G h) (ht : 0 ≤ t.toInt ∧ t.toInt < 12)(hw : 0 ≤ w.toInt ∧ w.toInt < 3)(h0 : 0 ≤ d.toInt) (h1 : k.toInt < 0) : CE l G yX8_holds cX8_holds 6 (some .int) 2 0 0 [.ref (G.1 + 0), .int t, .int d, .int k, .int w] h (some (.int (-4))) (kp h) := by
  refine cm_of rfl (Nat.le_of_ble_eq_true rfl) [(0, .ref (G.1 + 0)), (1, .int t), (2, .int d), (3, .int k), (4, .int w)] rfl ?_
  refine aw_iload_n 1 dX8_holds_0 rfl rfl ?_
  refine aw_dS [.int t] [] lX8_154 sX8_isThing mX8_isThing dX8_holds_1 (X8_isThing_t (by omega)) rfl (Nat.le_of_ble_eq_true rfl) (by decide) (by decide) rfl ?_
  refine aw_if_ne 13 dX8_holds_4 (by decide) (fun c4 => ?_) (fun c4 => absurd c4 (by decide))
  refine aw_iload 4 dX8_holds_13 rfl ?_
  refine aw_if_lt 24 dX8_holds_15 (by decide) (fun c15 => absurd c15 (by simp only [i_lt, (show (0 : Int32).toInt = 0 from rfl)] <;> omega)) (fun c15 => ?_)
  refine aw_iload 4 dX8_holds_18 rfl ?_
  refine aw_iconst (2) dX8_holds_20 (by decide) ?_
  refine aw_icmp_le 31 dX8_holds_21 (by decide) (fun c21 => ?_) (fun c21 => absurd (by simp only [i_le, (show (2 : Int32).toInt = 2 from rfl)] <;> omega) c21)
  refine aw_iload_n 2 dX8_holds_31 rfl rfl ?_
  refine aw_iload_n 3 dX8_holds_32 rfl rfl ?_
  refine aw_dS [.int d, .int k] [] lX8_157 sX8_daysRefusal mX8_daysRefusal dX8_holds_33 (X8_daysRefusal_b (by omega) (by omega)) rfl (Nat.le_of_ble_eq_true rfl) (by decide) (by decide) rfl ?_
  refine aw_istore [(5, .int (-4)), (0, .ref (G.1 + 0)), (1, .int t), (2, .int d), (3, .int k), (4, .int w)] dX8_holds_36 (by decide) rfl ?_
  refine aw_iload 0 dX8_holds_38 rfl ?_
  refine aw_if_eq 50 dX8_holds_40 (by decide) (fun c40 => absurd c40 (by decide)) (fun c40 => ?_)
  refine aw_aload_n 1 dX8_holds_43 rfl rfl ?_
  refine aw_iload 0 dX8_holds_44 rfl ?_
  refine aw_eV [.int (-4)] [] lX8_70 vX8_refuse mX8_refuse dX8_holds_46 (X8_refuse4 hF) hF.1 rfl rfl rfl (Nat.le_of_ble_eq_true rfl) (by decide) (by decide) rfl (fun h17 q18 => ?_)
  exact aw_iret rfl dX8_holds_49 (by decide) (by decide) ⟨rfl, (kp_tr (kp_rf h) q18)⟩
set_option maxHeartbeats 4000000 in
theorem B18b {l : Launch} {G : xG} {h : List va_E} {t d k w : Int32} (hM : xF9 G h) (ht : 0 ≤ t.toInt ∧ t.toInt < 12)(hw : 0 ≤ w.toInt ∧ w.toInt < 3)(h0 : 0 ≤ d.toInt) (h1 : k.toInt < 0) : CE l G yX9_holds cX9_holds 6 (some .int) 2 0 0 [.ref (G.1 + 88), .int t, .int d, .int k, .int w] h (some (.int (-4))) (fun _ => True) := by
  refine cm_of rfl (Nat.le_of_ble_eq_true rfl) [(0, .ref (G.1 + 88)), (1, .int t), (2, .int d), (3, .int k), (4, .int w)] rfl ?_
  refine aw_iload_n 1 dX9_holds_0 rfl rfl ?_
  refine aw_bipush (12) dX9_holds_1 (by decide) ?_
  refine aw_dS [.int t, .int 12] [] lX9_126 sX9_isIn mX9_isIn dX9_holds_3 (X9_isIn12_t (by omega)) rfl (Nat.le_of_ble_eq_true rfl) (by decide) (by decide) rfl ?_
  refine aw_if_ne 13 dX9_holds_6 (by decide) (fun c6 => ?_) (fun c6 => absurd c6 (by decide))
  refine aw_iload 4 dX9_holds_13 rfl ?_
  refine aw_iconst (3) dX9_holds_15 (by decide) ?_
  refine aw_dS [.int w, .int 3] [] lX9_126 sX9_isIn mX9_isIn dX9_holds_16 (X9_isIn3_t (by omega)) rfl (Nat.le_of_ble_eq_true rfl) (by decide) (by decide) rfl ?_
  refine aw_if_ne 27 dX9_holds_19 (by decide) (fun c19 => ?_) (fun c19 => absurd c19 (by decide))
  refine aw_iload_n 2 dX9_holds_27 rfl rfl ?_
  refine aw_iload_n 3 dX9_holds_28 rfl rfl ?_
  refine aw_dS [.int d, .int k] [] lX9_195 sX9_wrongDays mX9_wrongDays dX9_holds_29 (X9_wrongDays_b (by omega) (by omega)) rfl (Nat.le_of_ble_eq_true rfl) (by decide) (by decide) rfl ?_
  refine aw_istore [(5, .int (-4)), (0, .ref (G.1 + 88)), (1, .int t), (2, .int d), (3, .int k), (4, .int w)] dX9_holds_32 (by decide) rfl ?_
  refine aw_iload 0 dX9_holds_34 rfl ?_
  refine aw_if_eq 46 dX9_holds_36 (by decide) (fun c36 => absurd c36 (by decide)) (fun c36 => ?_)
  refine aw_aload_n 1 dX9_holds_39 rfl rfl ?_
  refine aw_iload 0 dX9_holds_40 rfl ?_
  refine aw_eV [.int (-4)] [] lX9_130 vX9_refuse mX9_refuse dX9_holds_42 (X9_refuse4 hM) hM.1 rfl rfl rfl (Nat.le_of_ble_eq_true rfl) (by decide) (by decide) rfl (fun h19 q20 => ?_)
  exact aw_iret rfl dX9_holds_45 (by decide) (by decide) ⟨rfl, trivial⟩
set_option maxHeartbeats 4000000 in
theorem A18c {l : Launch} {G : xG} {h : List va_E} {t d k w : Int32} (hF : xF8 G h) (ht : 0 ≤ t.toInt ∧ t.toInt < 12)(hw : 0 ≤ w.toInt ∧ w.toInt < 3)(h0 : 80000 < d.toInt) (h1 : 0 ≤ k.toInt) : CE l G yX8_holds cX8_holds 6 (some .int) 2 0 0 [.ref (G.1 + 0), .int t, .int d, .int k, .int w] h (some (.int (-6))) (kp h) := by
  refine cm_of rfl (Nat.le_of_ble_eq_true rfl) [(0, .ref (G.1 + 0)), (1, .int t), (2, .int d), (3, .int k), (4, .int w)] rfl ?_
  refine aw_iload_n 1 dX8_holds_0 rfl rfl ?_
  refine aw_dS [.int t] [] lX8_154 sX8_isThing mX8_isThing dX8_holds_1 (X8_isThing_t (by omega)) rfl (Nat.le_of_ble_eq_true rfl) (by decide) (by decide) rfl ?_
  refine aw_if_ne 13 dX8_holds_4 (by decide) (fun c4 => ?_) (fun c4 => absurd c4 (by decide))
  refine aw_iload 4 dX8_holds_13 rfl ?_
  refine aw_if_lt 24 dX8_holds_15 (by decide) (fun c15 => absurd c15 (by simp only [i_lt, (show (0 : Int32).toInt = 0 from rfl)] <;> omega)) (fun c15 => ?_)
  refine aw_iload 4 dX8_holds_18 rfl ?_
  refine aw_iconst (2) dX8_holds_20 (by decide) ?_
  refine aw_icmp_le 31 dX8_holds_21 (by decide) (fun c21 => ?_) (fun c21 => absurd (by simp only [i_le, (show (2 : Int32).toInt = 2 from rfl)] <;> omega) c21)
  refine aw_iload_n 2 dX8_holds_31 rfl rfl ?_
  refine aw_iload_n 3 dX8_holds_32 rfl rfl ?_
  refine aw_dS [.int d, .int k] [] lX8_157 sX8_daysRefusal mX8_daysRefusal dX8_holds_33 (X8_daysRefusal_c (by omega) (by omega)) rfl (Nat.le_of_ble_eq_true rfl) (by decide) (by decide) rfl ?_
  refine aw_istore [(5, .int (-6)), (0, .ref (G.1 + 0)), (1, .int t), (2, .int d), (3, .int k), (4, .int w)] dX8_holds_36 (by decide) rfl ?_
  refine aw_iload 0 dX8_holds_38 rfl ?_
  refine aw_if_eq 50 dX8_holds_40 (by decide) (fun c40 => absurd c40 (by decide)) (fun c40 => ?_)
  refine aw_aload_n 1 dX8_holds_43 rfl rfl ?_
  refine aw_iload 0 dX8_holds_44 rfl ?_
  refine aw_eV [.int (-6)] [] lX8_70 vX8_refuse mX8_refuse dX8_holds_46 (X8_refuse6 hF) hF.1 rfl rfl rfl (Nat.le_of_ble_eq_true rfl) (by decide) (by decide) rfl (fun h21 q22 => ?_)
  exact aw_iret rfl dX8_holds_49 (by decide) (by decide) ⟨rfl, (kp_tr (kp_rf h) q22)⟩
set_option maxHeartbeats 4000000 in
theorem B18c {l : Launch} {G : xG} {h : List va_E} {t d k w : Int32} (hM : xF9 G h) (ht : 0 ≤ t.toInt ∧ t.toInt < 12)(hw : 0 ≤ w.toInt ∧ w.toInt < 3)(h0 : 80000 < d.toInt) (h1 : 0 ≤ k.toInt) : CE l G yX9_holds cX9_holds 6 (some .int) 2 0 0 [.ref (G.1 + 88), .int t, .int d, .int k, .int w] h (some (.int (-6))) (fun _ => True) := by
  refine cm_of rfl (Nat.le_of_ble_eq_true rfl) [(0, .ref (G.1 + 88)), (1, .int t), (2, .int d), (3, .int k), (4, .int w)] rfl ?_
  refine aw_iload_n 1 dX9_holds_0 rfl rfl ?_
  refine aw_bipush (12) dX9_holds_1 (by decide) ?_
  refine aw_dS [.int t, .int 12] [] lX9_126 sX9_isIn mX9_isIn dX9_holds_3 (X9_isIn12_t (by omega)) rfl (Nat.le_of_ble_eq_true rfl) (by decide) (by decide) rfl ?_
  refine aw_if_ne 13 dX9_holds_6 (by decide) (fun c6 => ?_) (fun c6 => absurd c6 (by decide))
  refine aw_iload 4 dX9_holds_13 rfl ?_
  refine aw_iconst (3) dX9_holds_15 (by decide) ?_
  refine aw_dS [.int w, .int 3] [] lX9_126 sX9_isIn mX9_isIn dX9_holds_16 (X9_isIn3_t (by omega)) rfl (Nat.le_of_ble_eq_true rfl) (by decide) (by decide) rfl ?_
  refine aw_if_ne 27 dX9_holds_19 (by decide) (fun c19 => ?_) (fun c19 => absurd c19 (by decide))
  refine aw_iload_n 2 dX9_holds_27 rfl rfl ?_
  refine aw_iload_n 3 dX9_holds_28 rfl rfl ?_
  refine aw_dS [.int d, .int k] [] lX9_195 sX9_wrongDays mX9_wrongDays dX9_holds_29 (X9_wrongDays_c (by omega) (by omega)) rfl (Nat.le_of_ble_eq_true rfl) (by decide) (by decide) rfl ?_
  refine aw_istore [(5, .int (-6)), (0, .ref (G.1 + 88)), (1, .int t), (2, .int d), (3, .int k), (4, .int w)] dX9_holds_32 (by decide) rfl ?_
  refine aw_iload 0 dX9_holds_34 rfl ?_
  refine aw_if_eq 46 dX9_holds_36 (by decide) (fun c36 => absurd c36 (by decide)) (fun c36 => ?_)
  refine aw_aload_n 1 dX9_holds_39 rfl rfl ?_
  refine aw_iload 0 dX9_holds_40 rfl ?_
  refine aw_eV [.int (-6)] [] lX9_130 vX9_refuse mX9_refuse dX9_holds_42 (X9_refuse6 hM) hM.1 rfl rfl rfl (Nat.le_of_ble_eq_true rfl) (by decide) (by decide) rfl (fun h23 q24 => ?_)
  exact aw_iret rfl dX9_holds_45 (by decide) (by decide) ⟨rfl, trivial⟩
set_option maxHeartbeats 4000000 in
theorem A18e {l : Launch} {G : xG} {h : List va_E} {t d k w : Int32} (hF : xF8 G h) (ht : 0 ≤ t.toInt ∧ t.toInt < 12)(hw : 0 ≤ w.toInt ∧ w.toInt < 3)(h0 : 0 ≤ d.toInt ∧ d.toInt < 80001) (h1 : 80000 < k.toInt) : CE l G yX8_holds cX8_holds 6 (some .int) 2 0 0 [.ref (G.1 + 0), .int t, .int d, .int k, .int w] h (some (.int (-6))) (kp h) := by
  refine cm_of rfl (Nat.le_of_ble_eq_true rfl) [(0, .ref (G.1 + 0)), (1, .int t), (2, .int d), (3, .int k), (4, .int w)] rfl ?_
  refine aw_iload_n 1 dX8_holds_0 rfl rfl ?_
  refine aw_dS [.int t] [] lX8_154 sX8_isThing mX8_isThing dX8_holds_1 (X8_isThing_t (by omega)) rfl (Nat.le_of_ble_eq_true rfl) (by decide) (by decide) rfl ?_
  refine aw_if_ne 13 dX8_holds_4 (by decide) (fun c4 => ?_) (fun c4 => absurd c4 (by decide))
  refine aw_iload 4 dX8_holds_13 rfl ?_
  refine aw_if_lt 24 dX8_holds_15 (by decide) (fun c15 => absurd c15 (by simp only [i_lt, (show (0 : Int32).toInt = 0 from rfl)] <;> omega)) (fun c15 => ?_)
  refine aw_iload 4 dX8_holds_18 rfl ?_
  refine aw_iconst (2) dX8_holds_20 (by decide) ?_
  refine aw_icmp_le 31 dX8_holds_21 (by decide) (fun c21 => ?_) (fun c21 => absurd (by simp only [i_le, (show (2 : Int32).toInt = 2 from rfl)] <;> omega) c21)
  refine aw_iload_n 2 dX8_holds_31 rfl rfl ?_
  refine aw_iload_n 3 dX8_holds_32 rfl rfl ?_
  refine aw_dS [.int d, .int k] [] lX8_157 sX8_daysRefusal mX8_daysRefusal dX8_holds_33 (X8_daysRefusal_e (by omega) (by omega)) rfl (Nat.le_of_ble_eq_true rfl) (by decide) (by decide) rfl ?_
  refine aw_istore [(5, .int (-6)), (0, .ref (G.1 + 0)), (1, .int t), (2, .int d), (3, .int k), (4, .int w)] dX8_holds_36 (by decide) rfl ?_
  refine aw_iload 0 dX8_holds_38 rfl ?_
  refine aw_if_eq 50 dX8_holds_40 (by decide) (fun c40 => absurd c40 (by decide)) (fun c40 => ?_)
  refine aw_aload_n 1 dX8_holds_43 rfl rfl ?_
  refine aw_iload 0 dX8_holds_44 rfl ?_
  refine aw_eV [.int (-6)] [] lX8_70 vX8_refuse mX8_refuse dX8_holds_46 (X8_refuse6 hF) hF.1 rfl rfl rfl (Nat.le_of_ble_eq_true rfl) (by decide) (by decide) rfl (fun h25 q26 => ?_)
  exact aw_iret rfl dX8_holds_49 (by decide) (by decide) ⟨rfl, (kp_tr (kp_rf h) q26)⟩
set_option maxHeartbeats 4000000 in
theorem B18e {l : Launch} {G : xG} {h : List va_E} {t d k w : Int32} (hM : xF9 G h) (ht : 0 ≤ t.toInt ∧ t.toInt < 12)(hw : 0 ≤ w.toInt ∧ w.toInt < 3)(h0 : 0 ≤ d.toInt ∧ d.toInt < 80001) (h1 : 80000 < k.toInt) : CE l G yX9_holds cX9_holds 6 (some .int) 2 0 0 [.ref (G.1 + 88), .int t, .int d, .int k, .int w] h (some (.int (-6))) (fun _ => True) := by
  refine cm_of rfl (Nat.le_of_ble_eq_true rfl) [(0, .ref (G.1 + 88)), (1, .int t), (2, .int d), (3, .int k), (4, .int w)] rfl ?_
  refine aw_iload_n 1 dX9_holds_0 rfl rfl ?_
  refine aw_bipush (12) dX9_holds_1 (by decide) ?_
  refine aw_dS [.int t, .int 12] [] lX9_126 sX9_isIn mX9_isIn dX9_holds_3 (X9_isIn12_t (by omega)) rfl (Nat.le_of_ble_eq_true rfl) (by decide) (by decide) rfl ?_
  refine aw_if_ne 13 dX9_holds_6 (by decide) (fun c6 => ?_) (fun c6 => absurd c6 (by decide))
  refine aw_iload 4 dX9_holds_13 rfl ?_
  refine aw_iconst (3) dX9_holds_15 (by decide) ?_
  refine aw_dS [.int w, .int 3] [] lX9_126 sX9_isIn mX9_isIn dX9_holds_16 (X9_isIn3_t (by omega)) rfl (Nat.le_of_ble_eq_true rfl) (by decide) (by decide) rfl ?_
  refine aw_if_ne 27 dX9_holds_19 (by decide) (fun c19 => ?_) (fun c19 => absurd c19 (by decide))
  refine aw_iload_n 2 dX9_holds_27 rfl rfl ?_
  refine aw_iload_n 3 dX9_holds_28 rfl rfl ?_
  refine aw_dS [.int d, .int k] [] lX9_195 sX9_wrongDays mX9_wrongDays dX9_holds_29 (X9_wrongDays_e (by omega) (by omega)) rfl (Nat.le_of_ble_eq_true rfl) (by decide) (by decide) rfl ?_
  refine aw_istore [(5, .int (-6)), (0, .ref (G.1 + 88)), (1, .int t), (2, .int d), (3, .int k), (4, .int w)] dX9_holds_32 (by decide) rfl ?_
  refine aw_iload 0 dX9_holds_34 rfl ?_
  refine aw_if_eq 46 dX9_holds_36 (by decide) (fun c36 => absurd c36 (by decide)) (fun c36 => ?_)
  refine aw_aload_n 1 dX9_holds_39 rfl rfl ?_
  refine aw_iload 0 dX9_holds_40 rfl ?_
  refine aw_eV [.int (-6)] [] lX9_130 vX9_refuse mX9_refuse dX9_holds_42 (X9_refuse6 hM) hM.1 rfl rfl rfl (Nat.le_of_ble_eq_true rfl) (by decide) (by decide) rfl (fun h27 q28 => ?_)
  exact aw_iret rfl dX9_holds_45 (by decide) (by decide) ⟨rfl, trivial⟩
set_option maxHeartbeats 4000000 in
theorem A18o0 {l : Launch} {G : xG} {h : List va_E} {t d k w : Int32} (hF : xF8 G h) (ht : 0 ≤ t.toInt ∧ t.toInt < 12)(hw : w.toInt = 0) (h0 : 0 ≤ d.toInt ∧ d.toInt < 80001) (h1 : 0 ≤ k.toInt ∧ k.toInt < 80001) : CE l G yX8_holds cX8_holds 6 (some .int) 2 0 0 [.ref (G.1 + 0), .int t, .int d, .int k, .int w] h (some (.int (-9))) (kp h) := by
  refine cm_of rfl (Nat.le_of_ble_eq_true rfl) [(0, .ref (G.1 + 0)), (1, .int t), (2, .int d), (3, .int k), (4, .int w)] rfl ?_
  refine aw_iload_n 1 dX8_holds_0 rfl rfl ?_
  refine aw_dS [.int t] [] lX8_154 sX8_isThing mX8_isThing dX8_holds_1 (X8_isThing_t (by omega)) rfl (Nat.le_of_ble_eq_true rfl) (by decide) (by decide) rfl ?_
  refine aw_if_ne 13 dX8_holds_4 (by decide) (fun c4 => ?_) (fun c4 => absurd c4 (by decide))
  refine aw_iload 4 dX8_holds_13 rfl ?_
  refine aw_if_lt 24 dX8_holds_15 (by decide) (fun c15 => absurd c15 (by simp only [i_lt, (show (0 : Int32).toInt = 0 from rfl)] <;> omega)) (fun c15 => ?_)
  refine aw_iload 4 dX8_holds_18 rfl ?_
  refine aw_iconst (2) dX8_holds_20 (by decide) ?_
  refine aw_icmp_le 31 dX8_holds_21 (by decide) (fun c21 => ?_) (fun c21 => absurd (by simp only [i_le, (show (2 : Int32).toInt = 2 from rfl)] <;> omega) c21)
  refine aw_iload_n 2 dX8_holds_31 rfl rfl ?_
  refine aw_iload_n 3 dX8_holds_32 rfl rfl ?_
  refine aw_dS [.int d, .int k] [] lX8_157 sX8_daysRefusal mX8_daysRefusal dX8_holds_33 (X8_daysRefusal_o (by omega) (by omega)) rfl (Nat.le_of_ble_eq_true rfl) (by decide) (by decide) rfl ?_
  refine aw_istore [(5, .int 0), (0, .ref (G.1 + 0)), (1, .int t), (2, .int d), (3, .int k), (4, .int w)] dX8_holds_36 (by decide) rfl ?_
  refine aw_iload 0 dX8_holds_38 rfl ?_
  refine aw_if_eq 50 dX8_holds_40 (by decide) (fun c40 => ?_) (fun c40 => absurd (by decide) c40)
  refine aw_aload_n 1 dX8_holds_50 rfl rfl ?_
  refine aw_get fX8_44 dX8_holds_51 hF.1 rfl ?_
  refine aw_aload_n 1 dX8_holds_54 rfl rfl ?_
  refine aw_get fX8_38 dX8_holds_55 hF.1 rfl ?_
  refine aw_iload_n 2 dX8_holds_58 rfl rfl ?_
  refine aw_iload_n 3 dX8_holds_59 rfl rfl ?_
  refine aw_iload_n 4 dX8_holds_60 rfl rfl ?_
  refine aw_eW [.ref (G.1 + 69), .int t, .int d, .int k] [] lX8_183 vX2_replay mX2_replay dX8_holds_61 (X2_replay_o hF) hF.2.2.2.2.2.2.2.2.2.2.2.2.2.2.2.2.2.2.2.2.2.2.2.2.2.2.2.2.2.1 rfl rfl rfl (Nat.le_of_ble_eq_true rfl) (by decide) (by decide) rfl (fun h29 q30 => ?_)
  refine aw_iload 5 dX8_holds_64 rfl ?_
  refine aw_if_ne 77 dX8_holds_66 (by decide) (fun c66 => absurd (by simp only [i_eq, (show (0 : Int32).toInt = 0 from rfl)] <;> omega) c66) (fun c66 => ?_)
  refine aw_aload_n 1 dX8_holds_69 rfl rfl ?_
  refine aw_get fX8_44 dX8_holds_70 ((q30.2.2 0 (by decide)).trans hF.1) rfl ?_
  refine aw_get fX8_187 dX8_holds_73 q30.2.1 rfl ?_
  exact aw_iret rfl dX8_holds_76 (by decide) (by decide) ⟨rfl, (kp_tr (kp_rf h) q30.1)⟩
set_option maxHeartbeats 4000000 in
theorem B18o0 {l : Launch} {G : xG} {h : List va_E} {t d k w : Int32} (hM : xF9 G h) (ht : 0 ≤ t.toInt ∧ t.toInt < 12)(hw : w.toInt = 0) (h0 : 0 ≤ d.toInt ∧ d.toInt < 80001) (h1 : 0 ≤ k.toInt ∧ k.toInt < 80001) : CE l G yX9_holds cX9_holds 6 (some .int) 2 0 0 [.ref (G.1 + 88), .int t, .int d, .int k, .int w] h (some (.int (-9))) (fun _ => True) := by
  refine cm_of rfl (Nat.le_of_ble_eq_true rfl) [(0, .ref (G.1 + 88)), (1, .int t), (2, .int d), (3, .int k), (4, .int w)] rfl ?_
  refine aw_iload_n 1 dX9_holds_0 rfl rfl ?_
  refine aw_bipush (12) dX9_holds_1 (by decide) ?_
  refine aw_dS [.int t, .int 12] [] lX9_126 sX9_isIn mX9_isIn dX9_holds_3 (X9_isIn12_t (by omega)) rfl (Nat.le_of_ble_eq_true rfl) (by decide) (by decide) rfl ?_
  refine aw_if_ne 13 dX9_holds_6 (by decide) (fun c6 => ?_) (fun c6 => absurd c6 (by decide))
  refine aw_iload 4 dX9_holds_13 rfl ?_
  refine aw_iconst (3) dX9_holds_15 (by decide) ?_
  refine aw_dS [.int w, .int 3] [] lX9_126 sX9_isIn mX9_isIn dX9_holds_16 (X9_isIn3_t (by omega)) rfl (Nat.le_of_ble_eq_true rfl) (by decide) (by decide) rfl ?_
  refine aw_if_ne 27 dX9_holds_19 (by decide) (fun c19 => ?_) (fun c19 => absurd c19 (by decide))
  refine aw_iload_n 2 dX9_holds_27 rfl rfl ?_
  refine aw_iload_n 3 dX9_holds_28 rfl rfl ?_
  refine aw_dS [.int d, .int k] [] lX9_195 sX9_wrongDays mX9_wrongDays dX9_holds_29 (X9_wrongDays_o (by omega) (by omega)) rfl (Nat.le_of_ble_eq_true rfl) (by decide) (by decide) rfl ?_
  refine aw_istore [(5, .int 0), (0, .ref (G.1 + 88)), (1, .int t), (2, .int d), (3, .int k), (4, .int w)] dX9_holds_32 (by decide) rfl ?_
  refine aw_iload 0 dX9_holds_34 rfl ?_
  refine aw_if_eq 46 dX9_holds_36 (by decide) (fun c36 => ?_) (fun c36 => absurd (by decide) c36)
  refine aw_aload_n 1 dX9_holds_46 rfl rfl ?_
  refine aw_iload_n 2 dX9_holds_47 rfl rfl ?_
  refine aw_iload_n 3 dX9_holds_48 rfl rfl ?_
  refine aw_iload_n 4 dX9_holds_49 rfl rfl ?_
  refine aw_eW [.int t, .int d, .int k] [] lX9_220 vX9_goes mX9_goes dX9_holds_50 (X9_goes_o hM) hM.1 rfl rfl rfl (Nat.le_of_ble_eq_true rfl) (by decide) (by decide) rfl (fun h31 q32 => ?_)
  refine aw_iload 5 dX9_holds_53 rfl ?_
  refine aw_if_ne 65 dX9_holds_55 (by decide) (fun c55 => absurd (by simp only [i_eq, (show (0 : Int32).toInt = 0 from rfl)] <;> omega) c55) (fun c55 => ?_)
  refine aw_aload_n 1 dX9_holds_58 rfl rfl ?_
  refine aw_get fX9_211 dX9_holds_59 q32.1 rfl ?_
  refine aw_goto 82 dX9_holds_62 (by decide) ?_
  exact aw_iret rfl dX9_holds_82 (by decide) (by decide) ⟨rfl, trivial⟩
set_option maxHeartbeats 4000000 in
theorem A18o1 {l : Launch} {G : xG} {h : List va_E} {t d k w : Int32} (hF : xF8 G h) (ht : 0 ≤ t.toInt ∧ t.toInt < 12)(hw : w.toInt = 1) (h0 : 0 ≤ d.toInt ∧ d.toInt < 80001) (h1 : 0 ≤ k.toInt ∧ k.toInt < 80001) : CE l G yX8_holds cX8_holds 6 (some .int) 2 0 0 [.ref (G.1 + 0), .int t, .int d, .int k, .int w] h (some (.int (-9))) (kp h) := by
  refine cm_of rfl (Nat.le_of_ble_eq_true rfl) [(0, .ref (G.1 + 0)), (1, .int t), (2, .int d), (3, .int k), (4, .int w)] rfl ?_
  refine aw_iload_n 1 dX8_holds_0 rfl rfl ?_
  refine aw_dS [.int t] [] lX8_154 sX8_isThing mX8_isThing dX8_holds_1 (X8_isThing_t (by omega)) rfl (Nat.le_of_ble_eq_true rfl) (by decide) (by decide) rfl ?_
  refine aw_if_ne 13 dX8_holds_4 (by decide) (fun c4 => ?_) (fun c4 => absurd c4 (by decide))
  refine aw_iload 4 dX8_holds_13 rfl ?_
  refine aw_if_lt 24 dX8_holds_15 (by decide) (fun c15 => absurd c15 (by simp only [i_lt, (show (0 : Int32).toInt = 0 from rfl)] <;> omega)) (fun c15 => ?_)
  refine aw_iload 4 dX8_holds_18 rfl ?_
  refine aw_iconst (2) dX8_holds_20 (by decide) ?_
  refine aw_icmp_le 31 dX8_holds_21 (by decide) (fun c21 => ?_) (fun c21 => absurd (by simp only [i_le, (show (2 : Int32).toInt = 2 from rfl)] <;> omega) c21)
  refine aw_iload_n 2 dX8_holds_31 rfl rfl ?_
  refine aw_iload_n 3 dX8_holds_32 rfl rfl ?_
  refine aw_dS [.int d, .int k] [] lX8_157 sX8_daysRefusal mX8_daysRefusal dX8_holds_33 (X8_daysRefusal_o (by omega) (by omega)) rfl (Nat.le_of_ble_eq_true rfl) (by decide) (by decide) rfl ?_
  refine aw_istore [(5, .int 0), (0, .ref (G.1 + 0)), (1, .int t), (2, .int d), (3, .int k), (4, .int w)] dX8_holds_36 (by decide) rfl ?_
  refine aw_iload 0 dX8_holds_38 rfl ?_
  refine aw_if_eq 50 dX8_holds_40 (by decide) (fun c40 => ?_) (fun c40 => absurd (by decide) c40)
  refine aw_aload_n 1 dX8_holds_50 rfl rfl ?_
  refine aw_get fX8_44 dX8_holds_51 hF.1 rfl ?_
  refine aw_aload_n 1 dX8_holds_54 rfl rfl ?_
  refine aw_get fX8_38 dX8_holds_55 hF.1 rfl ?_
  refine aw_iload_n 2 dX8_holds_58 rfl rfl ?_
  refine aw_iload_n 3 dX8_holds_59 rfl rfl ?_
  refine aw_iload_n 4 dX8_holds_60 rfl rfl ?_
  refine aw_eW [.ref (G.1 + 69), .int t, .int d, .int k] [] lX8_183 vX2_replay mX2_replay dX8_holds_61 (X2_replay_o hF) hF.2.2.2.2.2.2.2.2.2.2.2.2.2.2.2.2.2.2.2.2.2.2.2.2.2.2.2.2.2.1 rfl rfl rfl (Nat.le_of_ble_eq_true rfl) (by decide) (by decide) rfl (fun h33 q34 => ?_)
  refine aw_iload 5 dX8_holds_64 rfl ?_
  refine aw_if_ne 77 dX8_holds_66 (by decide) (fun c66 => ?_) (fun c66 => absurd c66 (by simp only [i_eq, (show (0 : Int32).toInt = 0 from rfl)] <;> omega))
  refine aw_iload 5 dX8_holds_77 rfl ?_
  refine aw_iconst (1) dX8_holds_79 (by decide) ?_
  refine aw_icmp_ne 91 dX8_holds_80 (by decide) (fun c80 => absurd (by simp only [i_eq, (show (1 : Int32).toInt = 1 from rfl)] <;> omega) c80) (fun c80 => ?_)
  refine aw_aload_n 1 dX8_holds_83 rfl rfl ?_
  refine aw_get fX8_44 dX8_holds_84 ((q34.2.2 0 (by decide)).trans hF.1) rfl ?_
  refine aw_get fX8_190 dX8_holds_87 q34.2.1 rfl ?_
  exact aw_iret rfl dX8_holds_90 (by decide) (by decide) ⟨rfl, (kp_tr (kp_rf h) q34.1)⟩
set_option maxHeartbeats 4000000 in
theorem B18o1 {l : Launch} {G : xG} {h : List va_E} {t d k w : Int32} (hM : xF9 G h) (ht : 0 ≤ t.toInt ∧ t.toInt < 12)(hw : w.toInt = 1) (h0 : 0 ≤ d.toInt ∧ d.toInt < 80001) (h1 : 0 ≤ k.toInt ∧ k.toInt < 80001) : CE l G yX9_holds cX9_holds 6 (some .int) 2 0 0 [.ref (G.1 + 88), .int t, .int d, .int k, .int w] h (some (.int (-9))) (fun _ => True) := by
  refine cm_of rfl (Nat.le_of_ble_eq_true rfl) [(0, .ref (G.1 + 88)), (1, .int t), (2, .int d), (3, .int k), (4, .int w)] rfl ?_
  refine aw_iload_n 1 dX9_holds_0 rfl rfl ?_
  refine aw_bipush (12) dX9_holds_1 (by decide) ?_
  refine aw_dS [.int t, .int 12] [] lX9_126 sX9_isIn mX9_isIn dX9_holds_3 (X9_isIn12_t (by omega)) rfl (Nat.le_of_ble_eq_true rfl) (by decide) (by decide) rfl ?_
  refine aw_if_ne 13 dX9_holds_6 (by decide) (fun c6 => ?_) (fun c6 => absurd c6 (by decide))
  refine aw_iload 4 dX9_holds_13 rfl ?_
  refine aw_iconst (3) dX9_holds_15 (by decide) ?_
  refine aw_dS [.int w, .int 3] [] lX9_126 sX9_isIn mX9_isIn dX9_holds_16 (X9_isIn3_t (by omega)) rfl (Nat.le_of_ble_eq_true rfl) (by decide) (by decide) rfl ?_
  refine aw_if_ne 27 dX9_holds_19 (by decide) (fun c19 => ?_) (fun c19 => absurd c19 (by decide))
  refine aw_iload_n 2 dX9_holds_27 rfl rfl ?_
  refine aw_iload_n 3 dX9_holds_28 rfl rfl ?_
  refine aw_dS [.int d, .int k] [] lX9_195 sX9_wrongDays mX9_wrongDays dX9_holds_29 (X9_wrongDays_o (by omega) (by omega)) rfl (Nat.le_of_ble_eq_true rfl) (by decide) (by decide) rfl ?_
  refine aw_istore [(5, .int 0), (0, .ref (G.1 + 88)), (1, .int t), (2, .int d), (3, .int k), (4, .int w)] dX9_holds_32 (by decide) rfl ?_
  refine aw_iload 0 dX9_holds_34 rfl ?_
  refine aw_if_eq 46 dX9_holds_36 (by decide) (fun c36 => ?_) (fun c36 => absurd (by decide) c36)
  refine aw_aload_n 1 dX9_holds_46 rfl rfl ?_
  refine aw_iload_n 2 dX9_holds_47 rfl rfl ?_
  refine aw_iload_n 3 dX9_holds_48 rfl rfl ?_
  refine aw_iload_n 4 dX9_holds_49 rfl rfl ?_
  refine aw_eW [.int t, .int d, .int k] [] lX9_220 vX9_goes mX9_goes dX9_holds_50 (X9_goes_o hM) hM.1 rfl rfl rfl (Nat.le_of_ble_eq_true rfl) (by decide) (by decide) rfl (fun h35 q36 => ?_)
  refine aw_iload 5 dX9_holds_53 rfl ?_
  refine aw_if_ne 65 dX9_holds_55 (by decide) (fun c55 => ?_) (fun c55 => absurd c55 (by simp only [i_eq, (show (0 : Int32).toInt = 0 from rfl)] <;> omega))
  refine aw_iload 5 dX9_holds_65 rfl ?_
  refine aw_iconst (1) dX9_holds_67 (by decide) ?_
  refine aw_icmp_ne 78 dX9_holds_68 (by decide) (fun c68 => absurd (by simp only [i_eq, (show (1 : Int32).toInt = 1 from rfl)] <;> omega) c68) (fun c68 => ?_)
  refine aw_aload_n 1 dX9_holds_71 rfl rfl ?_
  refine aw_get fX9_214 dX9_holds_72 q36.1 rfl ?_
  refine aw_goto 82 dX9_holds_75 (by decide) ?_
  exact aw_iret rfl dX9_holds_82 (by decide) (by decide) ⟨rfl, trivial⟩
set_option maxHeartbeats 4000000 in
theorem A18o2 {l : Launch} {G : xG} {h : List va_E} {t d k w : Int32} (hF : xF8 G h) (ht : 0 ≤ t.toInt ∧ t.toInt < 12)(hw : w.toInt = 2) (h0 : 0 ≤ d.toInt ∧ d.toInt < 80001) (h1 : 0 ≤ k.toInt ∧ k.toInt < 80001) : CE l G yX8_holds cX8_holds 6 (some .int) 2 0 0 [.ref (G.1 + 0), .int t, .int d, .int k, .int w] h (some (.int 0)) (kp h) := by
  refine cm_of rfl (Nat.le_of_ble_eq_true rfl) [(0, .ref (G.1 + 0)), (1, .int t), (2, .int d), (3, .int k), (4, .int w)] rfl ?_
  refine aw_iload_n 1 dX8_holds_0 rfl rfl ?_
  refine aw_dS [.int t] [] lX8_154 sX8_isThing mX8_isThing dX8_holds_1 (X8_isThing_t (by omega)) rfl (Nat.le_of_ble_eq_true rfl) (by decide) (by decide) rfl ?_
  refine aw_if_ne 13 dX8_holds_4 (by decide) (fun c4 => ?_) (fun c4 => absurd c4 (by decide))
  refine aw_iload 4 dX8_holds_13 rfl ?_
  refine aw_if_lt 24 dX8_holds_15 (by decide) (fun c15 => absurd c15 (by simp only [i_lt, (show (0 : Int32).toInt = 0 from rfl)] <;> omega)) (fun c15 => ?_)
  refine aw_iload 4 dX8_holds_18 rfl ?_
  refine aw_iconst (2) dX8_holds_20 (by decide) ?_
  refine aw_icmp_le 31 dX8_holds_21 (by decide) (fun c21 => ?_) (fun c21 => absurd (by simp only [i_le, (show (2 : Int32).toInt = 2 from rfl)] <;> omega) c21)
  refine aw_iload_n 2 dX8_holds_31 rfl rfl ?_
  refine aw_iload_n 3 dX8_holds_32 rfl rfl ?_
  refine aw_dS [.int d, .int k] [] lX8_157 sX8_daysRefusal mX8_daysRefusal dX8_holds_33 (X8_daysRefusal_o (by omega) (by omega)) rfl (Nat.le_of_ble_eq_true rfl) (by decide) (by decide) rfl ?_
  refine aw_istore [(5, .int 0), (0, .ref (G.1 + 0)), (1, .int t), (2, .int d), (3, .int k), (4, .int w)] dX8_holds_36 (by decide) rfl ?_
  refine aw_iload 0 dX8_holds_38 rfl ?_
  refine aw_if_eq 50 dX8_holds_40 (by decide) (fun c40 => ?_) (fun c40 => absurd (by decide) c40)
  refine aw_aload_n 1 dX8_holds_50 rfl rfl ?_
  refine aw_get fX8_44 dX8_holds_51 hF.1 rfl ?_
  refine aw_aload_n 1 dX8_holds_54 rfl rfl ?_
  refine aw_get fX8_38 dX8_holds_55 hF.1 rfl ?_
  refine aw_iload_n 2 dX8_holds_58 rfl rfl ?_
  refine aw_iload_n 3 dX8_holds_59 rfl rfl ?_
  refine aw_iload_n 4 dX8_holds_60 rfl rfl ?_
  refine aw_eW [.ref (G.1 + 69), .int t, .int d, .int k] [] lX8_183 vX2_replay mX2_replay dX8_holds_61 (X2_replay_o hF) hF.2.2.2.2.2.2.2.2.2.2.2.2.2.2.2.2.2.2.2.2.2.2.2.2.2.2.2.2.2.1 rfl rfl rfl (Nat.le_of_ble_eq_true rfl) (by decide) (by decide) rfl (fun h37 q38 => ?_)
  refine aw_iload 5 dX8_holds_64 rfl ?_
  refine aw_if_ne 77 dX8_holds_66 (by decide) (fun c66 => ?_) (fun c66 => absurd c66 (by simp only [i_eq, (show (0 : Int32).toInt = 0 from rfl)] <;> omega))
  refine aw_iload 5 dX8_holds_77 rfl ?_
  refine aw_iconst (1) dX8_holds_79 (by decide) ?_
  refine aw_icmp_ne 91 dX8_holds_80 (by decide) (fun c80 => ?_) (fun c80 => absurd c80 (by simp only [i_eq, (show (1 : Int32).toInt = 1 from rfl)] <;> omega))
  refine aw_aload_n 1 dX8_holds_91 rfl rfl ?_
  refine aw_get fX8_44 dX8_holds_92 ((q38.2.2 0 (by decide)).trans hF.1) rfl ?_
  refine aw_get fX8_193 dX8_holds_95 q38.2.1 rfl ?_
  refine aw_if_eq 105 dX8_holds_98 (by decide) (fun c98 => ?_) (fun c98 => absurd (by decide) c98)
  refine aw_iconst (0) dX8_holds_105 (by decide) ?_
  exact aw_iret rfl dX8_holds_106 (by decide) (by decide) ⟨rfl, (kp_tr (kp_rf h) q38.1)⟩
set_option maxHeartbeats 4000000 in
theorem B18o2 {l : Launch} {G : xG} {h : List va_E} {t d k w : Int32} (hM : xF9 G h) (ht : 0 ≤ t.toInt ∧ t.toInt < 12)(hw : w.toInt = 2) (h0 : 0 ≤ d.toInt ∧ d.toInt < 80001) (h1 : 0 ≤ k.toInt ∧ k.toInt < 80001) : CE l G yX9_holds cX9_holds 6 (some .int) 2 0 0 [.ref (G.1 + 88), .int t, .int d, .int k, .int w] h (some (.int 0)) (fun _ => True) := by
  refine cm_of rfl (Nat.le_of_ble_eq_true rfl) [(0, .ref (G.1 + 88)), (1, .int t), (2, .int d), (3, .int k), (4, .int w)] rfl ?_
  refine aw_iload_n 1 dX9_holds_0 rfl rfl ?_
  refine aw_bipush (12) dX9_holds_1 (by decide) ?_
  refine aw_dS [.int t, .int 12] [] lX9_126 sX9_isIn mX9_isIn dX9_holds_3 (X9_isIn12_t (by omega)) rfl (Nat.le_of_ble_eq_true rfl) (by decide) (by decide) rfl ?_
  refine aw_if_ne 13 dX9_holds_6 (by decide) (fun c6 => ?_) (fun c6 => absurd c6 (by decide))
  refine aw_iload 4 dX9_holds_13 rfl ?_
  refine aw_iconst (3) dX9_holds_15 (by decide) ?_
  refine aw_dS [.int w, .int 3] [] lX9_126 sX9_isIn mX9_isIn dX9_holds_16 (X9_isIn3_t (by omega)) rfl (Nat.le_of_ble_eq_true rfl) (by decide) (by decide) rfl ?_
  refine aw_if_ne 27 dX9_holds_19 (by decide) (fun c19 => ?_) (fun c19 => absurd c19 (by decide))
  refine aw_iload_n 2 dX9_holds_27 rfl rfl ?_
  refine aw_iload_n 3 dX9_holds_28 rfl rfl ?_
  refine aw_dS [.int d, .int k] [] lX9_195 sX9_wrongDays mX9_wrongDays dX9_holds_29 (X9_wrongDays_o (by omega) (by omega)) rfl (Nat.le_of_ble_eq_true rfl) (by decide) (by decide) rfl ?_
  refine aw_istore [(5, .int 0), (0, .ref (G.1 + 88)), (1, .int t), (2, .int d), (3, .int k), (4, .int w)] dX9_holds_32 (by decide) rfl ?_
  refine aw_iload 0 dX9_holds_34 rfl ?_
  refine aw_if_eq 46 dX9_holds_36 (by decide) (fun c36 => ?_) (fun c36 => absurd (by decide) c36)
  refine aw_aload_n 1 dX9_holds_46 rfl rfl ?_
  refine aw_iload_n 2 dX9_holds_47 rfl rfl ?_
  refine aw_iload_n 3 dX9_holds_48 rfl rfl ?_
  refine aw_iload_n 4 dX9_holds_49 rfl rfl ?_
  refine aw_eW [.int t, .int d, .int k] [] lX9_220 vX9_goes mX9_goes dX9_holds_50 (X9_goes_o hM) hM.1 rfl rfl rfl (Nat.le_of_ble_eq_true rfl) (by decide) (by decide) rfl (fun h39 q40 => ?_)
  refine aw_iload 5 dX9_holds_53 rfl ?_
  refine aw_if_ne 65 dX9_holds_55 (by decide) (fun c55 => ?_) (fun c55 => absurd c55 (by simp only [i_eq, (show (0 : Int32).toInt = 0 from rfl)] <;> omega))
  refine aw_iload 5 dX9_holds_65 rfl ?_
  refine aw_iconst (1) dX9_holds_67 (by decide) ?_
  refine aw_icmp_ne 78 dX9_holds_68 (by decide) (fun c68 => ?_) (fun c68 => absurd c68 (by simp only [i_eq, (show (1 : Int32).toInt = 1 from rfl)] <;> omega))
  refine aw_aload_n 1 dX9_holds_78 rfl rfl ?_
  refine aw_get fX9_217 dX9_holds_79 q40.1 rfl ?_
  exact aw_iret rfl dX9_holds_82 (by decide) (by decide) ⟨rfl, trivial⟩
set_option maxHeartbeats 4000000 in
theorem X5_lastChange_o {l : Launch} {G : xG} {h : List va_E} {t k : Int32} (hF : h[69]? = some (.inr (5, [.ref (G.1 + 70), .ref (G.1 + 71), .ref (G.1 + 72), .ref (G.1 + 73), .ref (G.1 + 74), .ref (G.1 + 75), .ref (G.1 + 76), .int 0, .int 0]))) : CD l G yX5_lastChange cX5_lastChange 5 (some .int) 0 0 0 [.ref (G.1 + 69), .int t, .int k] h (some (.int 0)) h := by
  refine cm_of rfl (Nat.le_of_ble_eq_true rfl) [(0, .ref (G.1 + 69)), (1, .int t), (2, .int k)] rfl ?_
  refine aw_iconst (0) dX5_lastChange_0 (by decide) ?_
  refine aw_istore_n [(3, .int 0), (0, .ref (G.1 + 69)), (1, .int t), (2, .int k)] dX5_lastChange_1 rfl (by decide) rfl ?_
  refine aw_iconst (0) dX5_lastChange_2 (by decide) ?_
  refine aw_istore [(4, .int 0), (3, .int 0), (0, .ref (G.1 + 69)), (1, .int t), (2, .int k)] dX5_lastChange_3 (by decide) rfl ?_
  refine aw_iload 0 dX5_lastChange_5 rfl ?_
  refine aw_aload_n 2 dX5_lastChange_7 rfl rfl ?_
  refine aw_get fX5_33 dX5_lastChange_8 hF rfl ?_
  refine aw_icmp_ge 77 dX5_lastChange_11 (by decide) (fun c11 => ?_) (fun c11 => absurd (by decide) c11)
  refine aw_iload_n 1 dX5_lastChange_77 rfl rfl ?_
  exact aw_iret rfl dX5_lastChange_78 (by decide) (by decide) ⟨rfl, rfl⟩
set_option maxHeartbeats 4000000 in
theorem X2_heldSince_o {l : Launch} {G : xG} {h : List va_E} {t d k : Int32} (hF : xF8 G h) : CE l G yX2_heldSince cX2_heldSince 9 (some .int) 1 0 0 [.ref (G.1 + 77), .ref (G.1 + 69), .int t, .int d, .int k] h (some (.int 0)) (kp h) := by
  refine cm_of rfl (Nat.le_of_ble_eq_true rfl) [(0, .ref (G.1 + 77)), (1, .ref (G.1 + 69)), (2, .int t), (3, .int d), (4, .int k)] rfl ?_
  refine aw_aload_n 0 dX2_heldSince_0 rfl rfl ?_
  refine aw_aload_n 1 dX2_heldSince_1 rfl rfl ?_
  refine aw_iload_n 2 dX2_heldSince_2 rfl rfl ?_
  refine aw_iload_n 3 dX2_heldSince_3 rfl rfl ?_
  refine aw_iload 4 dX2_heldSince_4 rfl ?_
  refine aw_eW [.ref (G.1 + 69), .int t, .int d, .int k] [] lX2_54 vX2_replay mX2_replay dX2_heldSince_6 (X2_replay_o hF) hF.2.2.2.2.2.2.2.2.2.2.2.2.2.2.2.2.2.2.2.2.2.2.2.2.2.2.2.2.2.1 rfl rfl rfl (Nat.le_of_ble_eq_true rfl) (by decide) (by decide) rfl (fun h41 q42 => ?_)
  refine aw_aload_n 0 dX2_heldSince_9 rfl rfl ?_
  refine aw_get fX2_19 dX2_heldSince_10 q42.2.1 rfl ?_
  refine aw_istore [(5, .int (-9)), (0, .ref (G.1 + 77)), (1, .ref (G.1 + 69)), (2, .int t), (3, .int d), (4, .int k)] dX2_heldSince_13 (by decide) rfl ?_
  refine aw_iload 5 dX2_heldSince_15 rfl ?_
  refine aw_istore [(6, .int k), (5, .int (-9)), (0, .ref (G.1 + 77)), (1, .ref (G.1 + 69)), (2, .int t), (3, .int d), (4, .int k)] dX2_heldSince_17 (by decide) rfl ?_
  refine aw_iconst (0) dX2_heldSince_19 (by decide) ?_
  refine aw_istore [(7, .int 0), (6, .int k), (5, .int (-9)), (0, .ref (G.1 + 77)), (1, .ref (G.1 + 69)), (2, .int t), (3, .int d), (4, .int k)] dX2_heldSince_20 (by decide) rfl ?_
  refine aw_iload 0 dX2_heldSince_22 rfl ?_
  refine aw_bipush (120) dX2_heldSince_24 (by decide) ?_
  refine aw_icmp_gt 80 dX2_heldSince_26 (by decide) (fun c26 => absurd c26 (by decide)) (fun c26 => ?_)
  refine aw_aload_n 4 dX2_heldSince_29 rfl rfl ?_
  refine aw_iload_n 5 dX2_heldSince_30 rfl rfl ?_
  refine aw_iload 1 dX2_heldSince_31 rfl ?_
  refine aw_dV [.int t, .int k] [] lX2_58 vX5_lastChange mX5_lastChange dX2_heldSince_33 (X5_lastChange_o ((q42.2.2 69 (by decide)).trans hF.2.2.2.2.2.2.2.2.2.2.2.2.2.2.2.2.2.2.2.2.2.1)) ((q42.2.2 69 (by decide)).trans hF.2.2.2.2.2.2.2.2.2.2.2.2.2.2.2.2.2.2.2.2.2.1) rfl rfl rfl (Nat.le_of_ble_eq_true rfl) (by decide) (by decide) rfl ?_
  refine aw_istore [(8, .int 0), (7, .int 0), (6, .int k), (5, .int (-9)), (0, .ref (G.1 + 77)), (1, .ref (G.1 + 69)), (2, .int t), (3, .int d), (4, .int k)] dX2_heldSince_36 (by decide) rfl ?_
  refine aw_iload 0 dX2_heldSince_38 rfl ?_
  refine aw_if_ne 45 dX2_heldSince_40 (by decide) (fun c40 => absurd (by decide) c40) (fun c40 => ?_)
  refine aw_iconst (0) dX2_heldSince_43 (by decide) ?_
  exact aw_iret rfl dX2_heldSince_44 (by decide) (by decide) ⟨rfl, (kp_tr (kp_rf h) q42.1)⟩
set_option maxHeartbeats 4000000 in
theorem X9_changed_o {l : Launch} {G : xG} {h : List va_E} {t k : Int32} (hM : h[88]? = some (.inr (9, [.ref (G.1 + 89), .ref (G.1 + 90), .ref (G.1 + 91), .ref (G.1 + 92), .ref (G.1 + 93), .ref (G.1 + 94), .ref (G.1 + 95), .ref (G.1 + 96), .ref (G.1 + 97), .ref (G.1 + 98), .int 5, .int 1, .int 0, .ref (G.1 + 99), .ref (G.1 + 100), .ref (G.1 + 101), .ref (G.1 + 102), .int 0, .int 0, .ref (G.1 + 103), .ref (G.1 + 104), .ref (G.1 + 105), .ref (G.1 + 106), .ref (G.1 + 107), .ref (G.1 + 108), .ref (G.1 + 109), .ref (G.1 + 110), .ref (G.1 + 111), .ref (G.1 + 112), .ref (G.1 + 113), .ref (G.1 + 114), .ref (G.1 + 115), .int (-9), .int (-9), .int 0, .int 0, .ref (G.1 + 116), .ref (G.1 + 117), .ref (G.1 + 118), .ref (G.1 + 119), .ref (G.1 + 120), .ref (G.1 + 121), .ref (G.1 + 122), .int 0, .ref (G.1 + 123), .ref (G.1 + 124)]))) : CD l G yX9_changed cX9_changed 5 (some .int) 0 0 0 [.ref (G.1 + 88), .int t, .int k] h (some (.int 0)) h := by
  refine cm_of rfl (Nat.le_of_ble_eq_true rfl) [(0, .ref (G.1 + 88)), (1, .int t), (2, .int k)] rfl ?_
  refine aw_iconst (0) dX9_changed_0 (by decide) ?_
  refine aw_istore_n [(3, .int 0), (0, .ref (G.1 + 88)), (1, .int t), (2, .int k)] dX9_changed_1 rfl (by decide) rfl ?_
  refine aw_iconst (0) dX9_changed_2 (by decide) ?_
  refine aw_istore [(4, .int 0), (3, .int 0), (0, .ref (G.1 + 88)), (1, .int t), (2, .int k)] dX9_changed_3 (by decide) rfl ?_
  refine aw_iload 0 dX9_changed_5 rfl ?_
  refine aw_aload_n 2 dX9_changed_7 rfl rfl ?_
  refine aw_get fX9_202 dX9_changed_8 hM rfl ?_
  refine aw_icmp_ge 80 dX9_changed_11 (by decide) (fun c11 => ?_) (fun c11 => absurd (by decide) c11)
  refine aw_iload_n 1 dX9_changed_80 rfl rfl ?_
  exact aw_iret rfl dX9_changed_81 (by decide) (by decide) ⟨rfl, rfl⟩
set_option maxHeartbeats 4000000 in
theorem A19t {l : Launch} {G : xG} {h : List va_E} {t d k : Int32} (hF : xF8 G h) (ht : ¬ (0 ≤ t.toInt ∧ t.toInt < 12)) : CE l G yX8_since cX8_since 5 (some .int) 3 0 0 [.ref (G.1 + 0), .int t, .int d, .int k] h (some (.int (-1))) (kp h) := by
  refine cm_of rfl (Nat.le_of_ble_eq_true rfl) [(0, .ref (G.1 + 0)), (1, .int t), (2, .int d), (3, .int k)] rfl ?_
  refine aw_iload_n 1 dX8_since_0 rfl rfl ?_
  refine aw_dS [.int t] [] lX8_154 sX8_isThing mX8_isThing dX8_since_1 (X8_isThing_f (by omega)) rfl (Nat.le_of_ble_eq_true rfl) (by decide) (by decide) rfl ?_
  refine aw_if_ne 13 dX8_since_4 (by decide) (fun c4 => absurd (by decide) c4) (fun c4 => ?_)
  refine aw_aload_n 0 dX8_since_7 rfl rfl ?_
  refine aw_iconst (-1) dX8_since_8 (by decide) ?_
  refine aw_eV [.int (-1)] [] lX8_70 vX8_refuse mX8_refuse dX8_since_9 (X8_refuse1 hF) hF.1 rfl rfl rfl (Nat.le_of_ble_eq_true rfl) (by decide) (by decide) rfl (fun h43 q44 => ?_)
  exact aw_iret rfl dX8_since_12 (by decide) (by decide) ⟨rfl, (kp_tr (kp_rf h) q44)⟩
set_option maxHeartbeats 4000000 in
theorem B19t {l : Launch} {G : xG} {h : List va_E} {t d k : Int32} (hM : xF9 G h) (ht : ¬ (0 ≤ t.toInt ∧ t.toInt < 12)) : CE l G yX9_since cX9_since 7 (some .int) 2 0 0 [.ref (G.1 + 88), .int t, .int d, .int k] h (some (.int (-1))) (fun _ => True) := by
  refine cm_of rfl (Nat.le_of_ble_eq_true rfl) [(0, .ref (G.1 + 88)), (1, .int t), (2, .int d), (3, .int k)] rfl ?_
  refine aw_iload_n 1 dX9_since_0 rfl rfl ?_
  refine aw_bipush (12) dX9_since_1 (by decide) ?_
  refine aw_dS [.int t, .int 12] [] lX9_126 sX9_isIn mX9_isIn dX9_since_3 (X9_isIn12_f (by omega)) rfl (Nat.le_of_ble_eq_true rfl) (by decide) (by decide) rfl ?_
  refine aw_if_eq 17 dX9_since_6 (by decide) (fun c6 => ?_) (fun c6 => absurd (by decide) c6)
  refine aw_iconst (-1) dX9_since_17 (by decide) ?_
  refine aw_istore [(4, .int (-1)), (0, .ref (G.1 + 88)), (1, .int t), (2, .int d), (3, .int k)] dX9_since_18 (by decide) rfl ?_
  refine aw_iload 0 dX9_since_20 rfl ?_
  refine aw_if_eq 32 dX9_since_22 (by decide) (fun c22 => absurd c22 (by decide)) (fun c22 => ?_)
  refine aw_aload_n 1 dX9_since_25 rfl rfl ?_
  refine aw_iload 0 dX9_since_26 rfl ?_
  refine aw_eV [.int (-1)] [] lX9_130 vX9_refuse mX9_refuse dX9_since_28 (X9_refuse1 hM) hM.1 rfl rfl rfl (Nat.le_of_ble_eq_true rfl) (by decide) (by decide) rfl (fun h45 q46 => ?_)
  exact aw_iret rfl dX9_since_31 (by decide) (by decide) ⟨rfl, trivial⟩
set_option maxHeartbeats 4000000 in
theorem A19a {l : Launch} {G : xG} {h : List va_E} {t d k : Int32} (hF : xF8 G h) (ht : 0 ≤ t.toInt ∧ t.toInt < 12)(h0 : d.toInt < 0) : CE l G yX8_since cX8_since 5 (some .int) 3 0 0 [.ref (G.1 + 0), .int t, .int d, .int k] h (some (.int (-4))) (kp h) := by
  refine cm_of rfl (Nat.le_of_ble_eq_true rfl) [(0, .ref (G.1 + 0)), (1, .int t), (2, .int d), (3, .int k)] rfl ?_
  refine aw_iload_n 1 dX8_since_0 rfl rfl ?_
  refine aw_dS [.int t] [] lX8_154 sX8_isThing mX8_isThing dX8_since_1 (X8_isThing_t (by omega)) rfl (Nat.le_of_ble_eq_true rfl) (by decide) (by decide) rfl ?_
  refine aw_if_ne 13 dX8_since_4 (by decide) (fun c4 => ?_) (fun c4 => absurd c4 (by decide))
  refine aw_iload_n 2 dX8_since_13 rfl rfl ?_
  refine aw_iload_n 3 dX8_since_14 rfl rfl ?_
  refine aw_dS [.int d, .int k] [] lX8_157 sX8_daysRefusal mX8_daysRefusal dX8_since_15 (X8_daysRefusal_a (by omega)) rfl (Nat.le_of_ble_eq_true rfl) (by decide) (by decide) rfl ?_
  refine aw_istore [(4, .int (-4)), (0, .ref (G.1 + 0)), (1, .int t), (2, .int d), (3, .int k)] dX8_since_18 (by decide) rfl ?_
  refine aw_iload 0 dX8_since_20 rfl ?_
  refine aw_if_eq 32 dX8_since_22 (by decide) (fun c22 => absurd c22 (by decide)) (fun c22 => ?_)
  refine aw_aload_n 1 dX8_since_25 rfl rfl ?_
  refine aw_iload 0 dX8_since_26 rfl ?_
  refine aw_eV [.int (-4)] [] lX8_70 vX8_refuse mX8_refuse dX8_since_28 (X8_refuse4 hF) hF.1 rfl rfl rfl (Nat.le_of_ble_eq_true rfl) (by decide) (by decide) rfl (fun h47 q48 => ?_)
  exact aw_iret rfl dX8_since_31 (by decide) (by decide) ⟨rfl, (kp_tr (kp_rf h) q48)⟩
set_option maxHeartbeats 4000000 in
theorem B19a {l : Launch} {G : xG} {h : List va_E} {t d k : Int32} (hM : xF9 G h) (ht : 0 ≤ t.toInt ∧ t.toInt < 12)(h0 : d.toInt < 0) : CE l G yX9_since cX9_since 7 (some .int) 2 0 0 [.ref (G.1 + 88), .int t, .int d, .int k] h (some (.int (-4))) (fun _ => True) := by
  refine cm_of rfl (Nat.le_of_ble_eq_true rfl) [(0, .ref (G.1 + 88)), (1, .int t), (2, .int d), (3, .int k)] rfl ?_
  refine aw_iload_n 1 dX9_since_0 rfl rfl ?_
  refine aw_bipush (12) dX9_since_1 (by decide) ?_
  refine aw_dS [.int t, .int 12] [] lX9_126 sX9_isIn mX9_isIn dX9_since_3 (X9_isIn12_t (by omega)) rfl (Nat.le_of_ble_eq_true rfl) (by decide) (by decide) rfl ?_
  refine aw_if_eq 17 dX9_since_6 (by decide) (fun c6 => absurd c6 (by decide)) (fun c6 => ?_)
  refine aw_iload_n 2 dX9_since_9 rfl rfl ?_
  refine aw_iload_n 3 dX9_since_10 rfl rfl ?_
  refine aw_dS [.int d, .int k] [] lX9_195 sX9_wrongDays mX9_wrongDays dX9_since_11 (X9_wrongDays_a (by omega)) rfl (Nat.le_of_ble_eq_true rfl) (by decide) (by decide) rfl ?_
  refine aw_goto 18 dX9_since_14 (by decide) ?_
  refine aw_istore [(4, .int (-4)), (0, .ref (G.1 + 88)), (1, .int t), (2, .int d), (3, .int k)] dX9_since_18 (by decide) rfl ?_
  refine aw_iload 0 dX9_since_20 rfl ?_
  refine aw_if_eq 32 dX9_since_22 (by decide) (fun c22 => absurd c22 (by decide)) (fun c22 => ?_)
  refine aw_aload_n 1 dX9_since_25 rfl rfl ?_
  refine aw_iload 0 dX9_since_26 rfl ?_
  refine aw_eV [.int (-4)] [] lX9_130 vX9_refuse mX9_refuse dX9_since_28 (X9_refuse4 hM) hM.1 rfl rfl rfl (Nat.le_of_ble_eq_true rfl) (by decide) (by decide) rfl (fun h49 q50 => ?_)
  exact aw_iret rfl dX9_since_31 (by decide) (by decide) ⟨rfl, trivial⟩
set_option maxHeartbeats 4000000 in
theorem A19b {l : Launch} {G : xG} {h : List va_E} {t d k : Int32} (hF : xF8 G h) (ht : 0 ≤ t.toInt ∧ t.toInt < 12)(h0 : 0 ≤ d.toInt) (h1 : k.toInt < 0) : CE l G yX8_since cX8_since 5 (some .int) 3 0 0 [.ref (G.1 + 0), .int t, .int d, .int k] h (some (.int (-4))) (kp h) := by
  refine cm_of rfl (Nat.le_of_ble_eq_true rfl) [(0, .ref (G.1 + 0)), (1, .int t), (2, .int d), (3, .int k)] rfl ?_
  refine aw_iload_n 1 dX8_since_0 rfl rfl ?_
  refine aw_dS [.int t] [] lX8_154 sX8_isThing mX8_isThing dX8_since_1 (X8_isThing_t (by omega)) rfl (Nat.le_of_ble_eq_true rfl) (by decide) (by decide) rfl ?_
  refine aw_if_ne 13 dX8_since_4 (by decide) (fun c4 => ?_) (fun c4 => absurd c4 (by decide))
  refine aw_iload_n 2 dX8_since_13 rfl rfl ?_
  refine aw_iload_n 3 dX8_since_14 rfl rfl ?_
  refine aw_dS [.int d, .int k] [] lX8_157 sX8_daysRefusal mX8_daysRefusal dX8_since_15 (X8_daysRefusal_b (by omega) (by omega)) rfl (Nat.le_of_ble_eq_true rfl) (by decide) (by decide) rfl ?_
  refine aw_istore [(4, .int (-4)), (0, .ref (G.1 + 0)), (1, .int t), (2, .int d), (3, .int k)] dX8_since_18 (by decide) rfl ?_
  refine aw_iload 0 dX8_since_20 rfl ?_
  refine aw_if_eq 32 dX8_since_22 (by decide) (fun c22 => absurd c22 (by decide)) (fun c22 => ?_)
  refine aw_aload_n 1 dX8_since_25 rfl rfl ?_
  refine aw_iload 0 dX8_since_26 rfl ?_
  refine aw_eV [.int (-4)] [] lX8_70 vX8_refuse mX8_refuse dX8_since_28 (X8_refuse4 hF) hF.1 rfl rfl rfl (Nat.le_of_ble_eq_true rfl) (by decide) (by decide) rfl (fun h51 q52 => ?_)
  exact aw_iret rfl dX8_since_31 (by decide) (by decide) ⟨rfl, (kp_tr (kp_rf h) q52)⟩
set_option maxHeartbeats 4000000 in
theorem B19b {l : Launch} {G : xG} {h : List va_E} {t d k : Int32} (hM : xF9 G h) (ht : 0 ≤ t.toInt ∧ t.toInt < 12)(h0 : 0 ≤ d.toInt) (h1 : k.toInt < 0) : CE l G yX9_since cX9_since 7 (some .int) 2 0 0 [.ref (G.1 + 88), .int t, .int d, .int k] h (some (.int (-4))) (fun _ => True) := by
  refine cm_of rfl (Nat.le_of_ble_eq_true rfl) [(0, .ref (G.1 + 88)), (1, .int t), (2, .int d), (3, .int k)] rfl ?_
  refine aw_iload_n 1 dX9_since_0 rfl rfl ?_
  refine aw_bipush (12) dX9_since_1 (by decide) ?_
  refine aw_dS [.int t, .int 12] [] lX9_126 sX9_isIn mX9_isIn dX9_since_3 (X9_isIn12_t (by omega)) rfl (Nat.le_of_ble_eq_true rfl) (by decide) (by decide) rfl ?_
  refine aw_if_eq 17 dX9_since_6 (by decide) (fun c6 => absurd c6 (by decide)) (fun c6 => ?_)
  refine aw_iload_n 2 dX9_since_9 rfl rfl ?_
  refine aw_iload_n 3 dX9_since_10 rfl rfl ?_
  refine aw_dS [.int d, .int k] [] lX9_195 sX9_wrongDays mX9_wrongDays dX9_since_11 (X9_wrongDays_b (by omega) (by omega)) rfl (Nat.le_of_ble_eq_true rfl) (by decide) (by decide) rfl ?_
  refine aw_goto 18 dX9_since_14 (by decide) ?_
  refine aw_istore [(4, .int (-4)), (0, .ref (G.1 + 88)), (1, .int t), (2, .int d), (3, .int k)] dX9_since_18 (by decide) rfl ?_
  refine aw_iload 0 dX9_since_20 rfl ?_
  refine aw_if_eq 32 dX9_since_22 (by decide) (fun c22 => absurd c22 (by decide)) (fun c22 => ?_)
  refine aw_aload_n 1 dX9_since_25 rfl rfl ?_
  refine aw_iload 0 dX9_since_26 rfl ?_
  refine aw_eV [.int (-4)] [] lX9_130 vX9_refuse mX9_refuse dX9_since_28 (X9_refuse4 hM) hM.1 rfl rfl rfl (Nat.le_of_ble_eq_true rfl) (by decide) (by decide) rfl (fun h53 q54 => ?_)
  exact aw_iret rfl dX9_since_31 (by decide) (by decide) ⟨rfl, trivial⟩
set_option maxHeartbeats 4000000 in
theorem A19c {l : Launch} {G : xG} {h : List va_E} {t d k : Int32} (hF : xF8 G h) (ht : 0 ≤ t.toInt ∧ t.toInt < 12)(h0 : 80000 < d.toInt) (h1 : 0 ≤ k.toInt) : CE l G yX8_since cX8_since 5 (some .int) 3 0 0 [.ref (G.1 + 0), .int t, .int d, .int k] h (some (.int (-6))) (kp h) := by
  refine cm_of rfl (Nat.le_of_ble_eq_true rfl) [(0, .ref (G.1 + 0)), (1, .int t), (2, .int d), (3, .int k)] rfl ?_
  refine aw_iload_n 1 dX8_since_0 rfl rfl ?_
  refine aw_dS [.int t] [] lX8_154 sX8_isThing mX8_isThing dX8_since_1 (X8_isThing_t (by omega)) rfl (Nat.le_of_ble_eq_true rfl) (by decide) (by decide) rfl ?_
  refine aw_if_ne 13 dX8_since_4 (by decide) (fun c4 => ?_) (fun c4 => absurd c4 (by decide))
  refine aw_iload_n 2 dX8_since_13 rfl rfl ?_
  refine aw_iload_n 3 dX8_since_14 rfl rfl ?_
  refine aw_dS [.int d, .int k] [] lX8_157 sX8_daysRefusal mX8_daysRefusal dX8_since_15 (X8_daysRefusal_c (by omega) (by omega)) rfl (Nat.le_of_ble_eq_true rfl) (by decide) (by decide) rfl ?_
  refine aw_istore [(4, .int (-6)), (0, .ref (G.1 + 0)), (1, .int t), (2, .int d), (3, .int k)] dX8_since_18 (by decide) rfl ?_
  refine aw_iload 0 dX8_since_20 rfl ?_
  refine aw_if_eq 32 dX8_since_22 (by decide) (fun c22 => absurd c22 (by decide)) (fun c22 => ?_)
  refine aw_aload_n 1 dX8_since_25 rfl rfl ?_
  refine aw_iload 0 dX8_since_26 rfl ?_
  refine aw_eV [.int (-6)] [] lX8_70 vX8_refuse mX8_refuse dX8_since_28 (X8_refuse6 hF) hF.1 rfl rfl rfl (Nat.le_of_ble_eq_true rfl) (by decide) (by decide) rfl (fun h55 q56 => ?_)
  exact aw_iret rfl dX8_since_31 (by decide) (by decide) ⟨rfl, (kp_tr (kp_rf h) q56)⟩
set_option maxHeartbeats 4000000 in
theorem B19c {l : Launch} {G : xG} {h : List va_E} {t d k : Int32} (hM : xF9 G h) (ht : 0 ≤ t.toInt ∧ t.toInt < 12)(h0 : 80000 < d.toInt) (h1 : 0 ≤ k.toInt) : CE l G yX9_since cX9_since 7 (some .int) 2 0 0 [.ref (G.1 + 88), .int t, .int d, .int k] h (some (.int (-6))) (fun _ => True) := by
  refine cm_of rfl (Nat.le_of_ble_eq_true rfl) [(0, .ref (G.1 + 88)), (1, .int t), (2, .int d), (3, .int k)] rfl ?_
  refine aw_iload_n 1 dX9_since_0 rfl rfl ?_
  refine aw_bipush (12) dX9_since_1 (by decide) ?_
  refine aw_dS [.int t, .int 12] [] lX9_126 sX9_isIn mX9_isIn dX9_since_3 (X9_isIn12_t (by omega)) rfl (Nat.le_of_ble_eq_true rfl) (by decide) (by decide) rfl ?_
  refine aw_if_eq 17 dX9_since_6 (by decide) (fun c6 => absurd c6 (by decide)) (fun c6 => ?_)
  refine aw_iload_n 2 dX9_since_9 rfl rfl ?_
  refine aw_iload_n 3 dX9_since_10 rfl rfl ?_
  refine aw_dS [.int d, .int k] [] lX9_195 sX9_wrongDays mX9_wrongDays dX9_since_11 (X9_wrongDays_c (by omega) (by omega)) rfl (Nat.le_of_ble_eq_true rfl) (by decide) (by decide) rfl ?_
  refine aw_goto 18 dX9_since_14 (by decide) ?_
  refine aw_istore [(4, .int (-6)), (0, .ref (G.1 + 88)), (1, .int t), (2, .int d), (3, .int k)] dX9_since_18 (by decide) rfl ?_
  refine aw_iload 0 dX9_since_20 rfl ?_
  refine aw_if_eq 32 dX9_since_22 (by decide) (fun c22 => absurd c22 (by decide)) (fun c22 => ?_)
  refine aw_aload_n 1 dX9_since_25 rfl rfl ?_
  refine aw_iload 0 dX9_since_26 rfl ?_
  refine aw_eV [.int (-6)] [] lX9_130 vX9_refuse mX9_refuse dX9_since_28 (X9_refuse6 hM) hM.1 rfl rfl rfl (Nat.le_of_ble_eq_true rfl) (by decide) (by decide) rfl (fun h57 q58 => ?_)
  exact aw_iret rfl dX9_since_31 (by decide) (by decide) ⟨rfl, trivial⟩
set_option maxHeartbeats 4000000 in
theorem A19e {l : Launch} {G : xG} {h : List va_E} {t d k : Int32} (hF : xF8 G h) (ht : 0 ≤ t.toInt ∧ t.toInt < 12)(h0 : 0 ≤ d.toInt ∧ d.toInt < 80001) (h1 : 80000 < k.toInt) : CE l G yX8_since cX8_since 5 (some .int) 3 0 0 [.ref (G.1 + 0), .int t, .int d, .int k] h (some (.int (-6))) (kp h) := by
  refine cm_of rfl (Nat.le_of_ble_eq_true rfl) [(0, .ref (G.1 + 0)), (1, .int t), (2, .int d), (3, .int k)] rfl ?_
  refine aw_iload_n 1 dX8_since_0 rfl rfl ?_
  refine aw_dS [.int t] [] lX8_154 sX8_isThing mX8_isThing dX8_since_1 (X8_isThing_t (by omega)) rfl (Nat.le_of_ble_eq_true rfl) (by decide) (by decide) rfl ?_
  refine aw_if_ne 13 dX8_since_4 (by decide) (fun c4 => ?_) (fun c4 => absurd c4 (by decide))
  refine aw_iload_n 2 dX8_since_13 rfl rfl ?_
  refine aw_iload_n 3 dX8_since_14 rfl rfl ?_
  refine aw_dS [.int d, .int k] [] lX8_157 sX8_daysRefusal mX8_daysRefusal dX8_since_15 (X8_daysRefusal_e (by omega) (by omega)) rfl (Nat.le_of_ble_eq_true rfl) (by decide) (by decide) rfl ?_
  refine aw_istore [(4, .int (-6)), (0, .ref (G.1 + 0)), (1, .int t), (2, .int d), (3, .int k)] dX8_since_18 (by decide) rfl ?_
  refine aw_iload 0 dX8_since_20 rfl ?_
  refine aw_if_eq 32 dX8_since_22 (by decide) (fun c22 => absurd c22 (by decide)) (fun c22 => ?_)
  refine aw_aload_n 1 dX8_since_25 rfl rfl ?_
  refine aw_iload 0 dX8_since_26 rfl ?_
  refine aw_eV [.int (-6)] [] lX8_70 vX8_refuse mX8_refuse dX8_since_28 (X8_refuse6 hF) hF.1 rfl rfl rfl (Nat.le_of_ble_eq_true rfl) (by decide) (by decide) rfl (fun h59 q60 => ?_)
  exact aw_iret rfl dX8_since_31 (by decide) (by decide) ⟨rfl, (kp_tr (kp_rf h) q60)⟩
set_option maxHeartbeats 4000000 in
theorem B19e {l : Launch} {G : xG} {h : List va_E} {t d k : Int32} (hM : xF9 G h) (ht : 0 ≤ t.toInt ∧ t.toInt < 12)(h0 : 0 ≤ d.toInt ∧ d.toInt < 80001) (h1 : 80000 < k.toInt) : CE l G yX9_since cX9_since 7 (some .int) 2 0 0 [.ref (G.1 + 88), .int t, .int d, .int k] h (some (.int (-6))) (fun _ => True) := by
  refine cm_of rfl (Nat.le_of_ble_eq_true rfl) [(0, .ref (G.1 + 88)), (1, .int t), (2, .int d), (3, .int k)] rfl ?_
  refine aw_iload_n 1 dX9_since_0 rfl rfl ?_
  refine aw_bipush (12) dX9_since_1 (by decide) ?_
  refine aw_dS [.int t, .int 12] [] lX9_126 sX9_isIn mX9_isIn dX9_since_3 (X9_isIn12_t (by omega)) rfl (Nat.le_of_ble_eq_true rfl) (by decide) (by decide) rfl ?_
  refine aw_if_eq 17 dX9_since_6 (by decide) (fun c6 => absurd c6 (by decide)) (fun c6 => ?_)
  refine aw_iload_n 2 dX9_since_9 rfl rfl ?_
  refine aw_iload_n 3 dX9_since_10 rfl rfl ?_
  refine aw_dS [.int d, .int k] [] lX9_195 sX9_wrongDays mX9_wrongDays dX9_since_11 (X9_wrongDays_e (by omega) (by omega)) rfl (Nat.le_of_ble_eq_true rfl) (by decide) (by decide) rfl ?_
  refine aw_goto 18 dX9_since_14 (by decide) ?_
  refine aw_istore [(4, .int (-6)), (0, .ref (G.1 + 88)), (1, .int t), (2, .int d), (3, .int k)] dX9_since_18 (by decide) rfl ?_
  refine aw_iload 0 dX9_since_20 rfl ?_
  refine aw_if_eq 32 dX9_since_22 (by decide) (fun c22 => absurd c22 (by decide)) (fun c22 => ?_)
  refine aw_aload_n 1 dX9_since_25 rfl rfl ?_
  refine aw_iload 0 dX9_since_26 rfl ?_
  refine aw_eV [.int (-6)] [] lX9_130 vX9_refuse mX9_refuse dX9_since_28 (X9_refuse6 hM) hM.1 rfl rfl rfl (Nat.le_of_ble_eq_true rfl) (by decide) (by decide) rfl (fun h61 q62 => ?_)
  exact aw_iret rfl dX9_since_31 (by decide) (by decide) ⟨rfl, trivial⟩
set_option maxHeartbeats 4000000 in
theorem A19o {l : Launch} {G : xG} {h : List va_E} {t d k : Int32} (hF : xF8 G h) (ht : 0 ≤ t.toInt ∧ t.toInt < 12)(h0 : 0 ≤ d.toInt ∧ d.toInt < 80001) (h1 : 0 ≤ k.toInt ∧ k.toInt < 80001) : CE l G yX8_since cX8_since 5 (some .int) 3 0 0 [.ref (G.1 + 0), .int t, .int d, .int k] h (some (.int 0)) (kp h) := by
  refine cm_of rfl (Nat.le_of_ble_eq_true rfl) [(0, .ref (G.1 + 0)), (1, .int t), (2, .int d), (3, .int k)] rfl ?_
  refine aw_iload_n 1 dX8_since_0 rfl rfl ?_
  refine aw_dS [.int t] [] lX8_154 sX8_isThing mX8_isThing dX8_since_1 (X8_isThing_t (by omega)) rfl (Nat.le_of_ble_eq_true rfl) (by decide) (by decide) rfl ?_
  refine aw_if_ne 13 dX8_since_4 (by decide) (fun c4 => ?_) (fun c4 => absurd c4 (by decide))
  refine aw_iload_n 2 dX8_since_13 rfl rfl ?_
  refine aw_iload_n 3 dX8_since_14 rfl rfl ?_
  refine aw_dS [.int d, .int k] [] lX8_157 sX8_daysRefusal mX8_daysRefusal dX8_since_15 (X8_daysRefusal_o (by omega) (by omega)) rfl (Nat.le_of_ble_eq_true rfl) (by decide) (by decide) rfl ?_
  refine aw_istore [(4, .int 0), (0, .ref (G.1 + 0)), (1, .int t), (2, .int d), (3, .int k)] dX8_since_18 (by decide) rfl ?_
  refine aw_iload 0 dX8_since_20 rfl ?_
  refine aw_if_eq 32 dX8_since_22 (by decide) (fun c22 => ?_) (fun c22 => absurd (by decide) c22)
  refine aw_aload_n 1 dX8_since_32 rfl rfl ?_
  refine aw_get fX8_44 dX8_since_33 hF.1 rfl ?_
  refine aw_aload_n 1 dX8_since_36 rfl rfl ?_
  refine aw_get fX8_38 dX8_since_37 hF.1 rfl ?_
  refine aw_iload_n 2 dX8_since_40 rfl rfl ?_
  refine aw_iload_n 3 dX8_since_41 rfl rfl ?_
  refine aw_iload_n 4 dX8_since_42 rfl rfl ?_
  refine aw_eV [.ref (G.1 + 69), .int t, .int d, .int k] [] lX8_197 vX2_heldSince mX2_heldSince dX8_since_43 (X2_heldSince_o hF) hF.2.2.2.2.2.2.2.2.2.2.2.2.2.2.2.2.2.2.2.2.2.2.2.2.2.2.2.2.2.1 rfl rfl rfl (Nat.le_of_ble_eq_true rfl) (by decide) (by decide) rfl (fun h63 q64 => ?_)
  exact aw_iret rfl dX8_since_46 (by decide) (by decide) ⟨rfl, (kp_tr (kp_rf h) q64)⟩
set_option maxHeartbeats 4000000 in
theorem B19o {l : Launch} {G : xG} {h : List va_E} {t d k : Int32} (hM : xF9 G h) (ht : 0 ≤ t.toInt ∧ t.toInt < 12)(h0 : 0 ≤ d.toInt ∧ d.toInt < 80001) (h1 : 0 ≤ k.toInt ∧ k.toInt < 80001) : CE l G yX9_since cX9_since 7 (some .int) 2 0 0 [.ref (G.1 + 88), .int t, .int d, .int k] h (some (.int 0)) (fun _ => True) := by
  refine cm_of rfl (Nat.le_of_ble_eq_true rfl) [(0, .ref (G.1 + 88)), (1, .int t), (2, .int d), (3, .int k)] rfl ?_
  refine aw_iload_n 1 dX9_since_0 rfl rfl ?_
  refine aw_bipush (12) dX9_since_1 (by decide) ?_
  refine aw_dS [.int t, .int 12] [] lX9_126 sX9_isIn mX9_isIn dX9_since_3 (X9_isIn12_t (by omega)) rfl (Nat.le_of_ble_eq_true rfl) (by decide) (by decide) rfl ?_
  refine aw_if_eq 17 dX9_since_6 (by decide) (fun c6 => absurd c6 (by decide)) (fun c6 => ?_)
  refine aw_iload_n 2 dX9_since_9 rfl rfl ?_
  refine aw_iload_n 3 dX9_since_10 rfl rfl ?_
  refine aw_dS [.int d, .int k] [] lX9_195 sX9_wrongDays mX9_wrongDays dX9_since_11 (X9_wrongDays_o (by omega) (by omega)) rfl (Nat.le_of_ble_eq_true rfl) (by decide) (by decide) rfl ?_
  refine aw_goto 18 dX9_since_14 (by decide) ?_
  refine aw_istore [(4, .int 0), (0, .ref (G.1 + 88)), (1, .int t), (2, .int d), (3, .int k)] dX9_since_18 (by decide) rfl ?_
  refine aw_iload 0 dX9_since_20 rfl ?_
  refine aw_if_eq 32 dX9_since_22 (by decide) (fun c22 => ?_) (fun c22 => absurd (by decide) c22)
  refine aw_aload_n 1 dX9_since_32 rfl rfl ?_
  refine aw_iload_n 2 dX9_since_33 rfl rfl ?_
  refine aw_iload_n 3 dX9_since_34 rfl rfl ?_
  refine aw_iload_n 4 dX9_since_35 rfl rfl ?_
  refine aw_eW [.int t, .int d, .int k] [] lX9_220 vX9_goes mX9_goes dX9_since_36 (X9_goes_o hM) hM.1 rfl rfl rfl (Nat.le_of_ble_eq_true rfl) (by decide) (by decide) rfl (fun h65 q66 => ?_)
  refine aw_aload_n 1 dX9_since_39 rfl rfl ?_
  refine aw_get fX9_211 dX9_since_40 q66.1 rfl ?_
  refine aw_istore [(5, .int (-9)), (4, .int 0), (0, .ref (G.1 + 88)), (1, .int t), (2, .int d), (3, .int k)] dX9_since_43 (by decide) rfl ?_
  refine aw_aload_n 2 dX9_since_45 rfl rfl ?_
  refine aw_iload_n 3 dX9_since_46 rfl rfl ?_
  refine aw_iload_n 5 dX9_since_47 rfl rfl ?_
  refine aw_dV [.int t, .int k] [] lX9_224 vX9_changed mX9_changed dX9_since_48 (X9_changed_o q66.1) q66.1 rfl rfl rfl (Nat.le_of_ble_eq_true rfl) (by decide) (by decide) rfl ?_
  refine aw_istore [(6, .int 0), (5, .int (-9)), (4, .int 0), (0, .ref (G.1 + 88)), (1, .int t), (2, .int d), (3, .int k)] dX9_since_51 (by decide) rfl ?_
  refine aw_iload 0 dX9_since_53 rfl ?_
  refine aw_if_le 94 dX9_since_55 (by decide) (fun c55 => ?_) (fun c55 => absurd (by decide) c55)
  refine aw_iconst (0) dX9_since_94 (by decide) ?_
  exact aw_iret rfl dX9_since_95 (by decide) (by decide) ⟨rfl, trivial⟩
set_option maxHeartbeats 4000000 in
theorem X8_needsTwo_t0 {l : Launch} {G : xG} {h : List va_E} {s : Int32} (hs : s.toInt = 0) : CD l G yX8_needsTwo cX8_needsTwo 1 (some .boolean) 0 0 0 [.int s] h (some (.int 1)) h := by
  refine cm_of rfl (Nat.le_of_ble_eq_true rfl) [(0, .int s)] rfl ?_
  refine aw_iload_n 0 dX8_needsTwo_0 rfl rfl ?_
  refine aw_if_eq 9 dX8_needsTwo_1 (by decide) (fun c1 => ?_) (fun c1 => absurd (by simp only [i_eq, (show (0 : Int32).toInt = 0 from rfl)] <;> omega) c1)
  refine aw_iconst (1) dX8_needsTwo_9 (by decide) ?_
  refine aw_goto 14 dX8_needsTwo_10 (by decide) ?_
  exact aw_zret rfl rfl dX8_needsTwo_14 (by decide) (by decide) ⟨rfl, rfl⟩
set_option maxHeartbeats 4000000 in
theorem X8_needsTwo_t1 {l : Launch} {G : xG} {h : List va_E} {s : Int32} (hs : s.toInt = 1) : CD l G yX8_needsTwo cX8_needsTwo 1 (some .boolean) 0 0 0 [.int s] h (some (.int 1)) h := by
  refine cm_of rfl (Nat.le_of_ble_eq_true rfl) [(0, .int s)] rfl ?_
  refine aw_iload_n 0 dX8_needsTwo_0 rfl rfl ?_
  refine aw_if_eq 9 dX8_needsTwo_1 (by decide) (fun c1 => absurd c1 (by simp only [i_eq, (show (0 : Int32).toInt = 0 from rfl)] <;> omega)) (fun c1 => ?_)
  refine aw_iload_n 0 dX8_needsTwo_4 rfl rfl ?_
  refine aw_iconst (1) dX8_needsTwo_5 (by decide) ?_
  refine aw_icmp_ne 13 dX8_needsTwo_6 (by decide) (fun c6 => absurd (by simp only [i_eq, (show (1 : Int32).toInt = 1 from rfl)] <;> omega) c6) (fun c6 => ?_)
  refine aw_iconst (1) dX8_needsTwo_9 (by decide) ?_
  refine aw_goto 14 dX8_needsTwo_10 (by decide) ?_
  exact aw_zret rfl rfl dX8_needsTwo_14 (by decide) (by decide) ⟨rfl, rfl⟩
set_option maxHeartbeats 4000000 in
theorem X8_needsTwo_f {l : Launch} {G : xG} {h : List va_E} {s : Int32} (hs : 2 ≤ s.toInt) : CD l G yX8_needsTwo cX8_needsTwo 1 (some .boolean) 0 0 0 [.int s] h (some (.int 0)) h := by
  refine cm_of rfl (Nat.le_of_ble_eq_true rfl) [(0, .int s)] rfl ?_
  refine aw_iload_n 0 dX8_needsTwo_0 rfl rfl ?_
  refine aw_if_eq 9 dX8_needsTwo_1 (by decide) (fun c1 => absurd c1 (by simp only [i_eq, (show (0 : Int32).toInt = 0 from rfl)] <;> omega)) (fun c1 => ?_)
  refine aw_iload_n 0 dX8_needsTwo_4 rfl rfl ?_
  refine aw_iconst (1) dX8_needsTwo_5 (by decide) ?_
  refine aw_icmp_ne 13 dX8_needsTwo_6 (by decide) (fun c6 => ?_) (fun c6 => absurd c6 (by simp only [i_eq, (show (1 : Int32).toInt = 1 from rfl)] <;> omega))
  refine aw_iconst (0) dX8_needsTwo_13 (by decide) ?_
  exact aw_zret rfl rfl dX8_needsTwo_14 (by decide) (by decide) ⟨rfl, rfl⟩
set_option maxHeartbeats 4000000 in
theorem X6_addSaying_o {l : Launch} {G : xG} {h : List va_E} {s x y v : Int32} (hF : xF8 G h) : CE l G yX6_addSaying cX6_addSaying 6 (some .int) 0 0 0 [.ref (G.1 + 79), .int s, .int x, .int y, .int v] h (some (.int 0)) (kp h) := by
  refine cm_of rfl (Nat.le_of_ble_eq_true rfl) [(0, .ref (G.1 + 79)), (1, .int s), (2, .int x), (3, .int y), (4, .int v)] rfl ?_
  refine aw_aload_n 0 dX6_addSaying_0 rfl rfl ?_
  refine aw_get fX6_24 dX6_addSaying_1 hF.2.2.2.2.2.2.2.2.2.2.2.2.2.2.2.2.2.2.2.2.2.2.2.2.2.2.2.2.2.2.2.1 rfl ?_
  refine aw_istore [(5, .int 0), (0, .ref (G.1 + 79)), (1, .int s), (2, .int x), (3, .int y), (4, .int v)] dX6_addSaying_4 (by decide) rfl ?_
  refine aw_aload_n 1 dX6_addSaying_6 rfl rfl ?_
  refine aw_get fX6_9 dX6_addSaying_7 hF.2.2.2.2.2.2.2.2.2.2.2.2.2.2.2.2.2.2.2.2.2.2.2.2.2.2.2.2.2.2.2.1 rfl ?_
  refine aw_iload 0 dX6_addSaying_10 rfl ?_
  refine aw_iload_n 2 dX6_addSaying_12 rfl rfl ?_
  refine aw_iast 0 (rfl) (by decide) (by decide) dX6_addSaying_13 hF.2.2.2.2.2.2.2.2.2.2.2.2.2.2.2.2.2.2.2.2.2.2.2.2.2.2.2.2.2.2.2.2.1 ?_
  refine aw_aload_n 1 dX6_addSaying_14 rfl rfl ?_
  refine aw_get fX6_15 dX6_addSaying_15 (gn (by decide) (hF.2.2.2.2.2.2.2.2.2.2.2.2.2.2.2.2.2.2.2.2.2.2.2.2.2.2.2.2.2.2.2.1)) rfl ?_
  refine aw_iload 0 dX6_addSaying_18 rfl ?_
  refine aw_iload_n 3 dX6_addSaying_20 rfl rfl ?_
  refine aw_iast 0 (rfl) (by decide) (by decide) dX6_addSaying_21 (gn (by decide) (hF.2.2.2.2.2.2.2.2.2.2.2.2.2.2.2.2.2.2.2.2.2.2.2.2.2.2.2.2.2.2.2.2.2.1)) ?_
  refine aw_aload_n 1 dX6_addSaying_22 rfl rfl ?_
  refine aw_get fX6_18 dX6_addSaying_23 (gn (by decide) (gn (by decide) (hF.2.2.2.2.2.2.2.2.2.2.2.2.2.2.2.2.2.2.2.2.2.2.2.2.2.2.2.2.2.2.2.1))) rfl ?_
  refine aw_iload 0 dX6_addSaying_26 rfl ?_
  refine aw_iload_n 4 dX6_addSaying_28 rfl rfl ?_
  refine aw_iast 0 (rfl) (by decide) (by decide) dX6_addSaying_29 (gn (by decide) (gn (by decide) (hF.2.2.2.2.2.2.2.2.2.2.2.2.2.2.2.2.2.2.2.2.2.2.2.2.2.2.2.2.2.2.2.2.2.2.1))) ?_
  refine aw_aload_n 1 dX6_addSaying_30 rfl rfl ?_
  refine aw_get fX6_21 dX6_addSaying_31 (gn (by decide) (gn (by decide) (gn (by decide) (hF.2.2.2.2.2.2.2.2.2.2.2.2.2.2.2.2.2.2.2.2.2.2.2.2.2.2.2.2.2.2.2.1)))) rfl ?_
  refine aw_iload 0 dX6_addSaying_34 rfl ?_
  refine aw_iload 5 dX6_addSaying_36 rfl ?_
  refine aw_iast 0 (rfl) (by decide) (by decide) dX6_addSaying_38 (gn (by decide) (gn (by decide) (gn (by decide) (hF.2.2.2.2.2.2.2.2.2.2.2.2.2.2.2.2.2.2.2.2.2.2.2.2.2.2.2.2.2.2.2.2.2.2.2.1)))) ?_
  refine aw_aload_n 1 dX6_addSaying_39 rfl rfl ?_
  refine aw_iload 0 dX6_addSaying_40 rfl ?_
  refine aw_iconst (1) dX6_addSaying_42 (by decide) ?_
  refine aw_iadd dX6_addSaying_43 ?_
  refine aw_toe 1 (by decide) ?_
  refine aw_putQ fX6_24 dX6_addSaying_44 [.ref (G.1 + 80), .ref (G.1 + 81), .ref (G.1 + 82), .ref (G.1 + 83), .int 1] (gn (by decide) (gn (by decide) (gn (by decide) (gn (by decide) (hF.2.2.2.2.2.2.2.2.2.2.2.2.2.2.2.2.2.2.2.2.2.2.2.2.2.2.2.2.2.2.2.1))))) rfl rfl rfl (Nat.le_of_ble_eq_true rfl) rfl ?_
  refine aw_iload 0 dX6_addSaying_47 rfl ?_
  exact aw_iret rfl dX6_addSaying_49 (by decide) (by decide) ⟨rfl, kp_set (kp_set (kp_set (kp_set (kp_set (kp_rf h) (by decide)) (by decide)) (by decide)) (by decide)) (by decide)⟩
set_option maxHeartbeats 4000000 in
theorem A20s {l : Launch} {G : xG} {h : List va_E} {s x y v : Int32} (hF : xF8 G h) (hs : s.toInt < 0) : CE l G yX8_visitor cX8_visitor 5 (some .int) 2 0 0 [.ref (G.1 + 0), .int s, .int x, .int y, .int v] h (some (.int (-2))) (kp h) := by
  refine cm_of rfl (Nat.le_of_ble_eq_true rfl) [(0, .ref (G.1 + 0)), (1, .int s), (2, .int x), (3, .int y), (4, .int v)] rfl ?_
  refine aw_iload_n 1 dX8_visitor_0 rfl rfl ?_
  refine aw_if_lt 9 dX8_visitor_1 (by decide) (fun c1 => ?_) (fun c1 => absurd (by simp only [i_lt, (show (0 : Int32).toInt = 0 from rfl)] <;> omega) c1)
  refine aw_aload_n 0 dX8_visitor_9 rfl rfl ?_
  refine aw_bipush (-2) dX8_visitor_10 (by decide) ?_
  refine aw_eV [.int (-2)] [] lX8_70 vX8_refuse mX8_refuse dX8_visitor_12 (X8_refuse2 hF) hF.1 rfl rfl rfl (Nat.le_of_ble_eq_true rfl) (by decide) (by decide) rfl (fun h67 q68 => ?_)
  exact aw_iret rfl dX8_visitor_15 (by decide) (by decide) ⟨rfl, (kp_tr (kp_rf h) q68)⟩
set_option maxHeartbeats 4000000 in
theorem B20s {l : Launch} {G : xG} {h : List va_E} {s x y v : Int32} (hM : xF9 G h) (hs : s.toInt < 0) : CE l G yX9_visitor cX9_visitor 5 (some .int) 2 0 0 [.ref (G.1 + 88), .int s, .int x, .int y, .int v] h (some (.int (-2))) (fun _ => True) := by
  refine cm_of rfl (Nat.le_of_ble_eq_true rfl) [(0, .ref (G.1 + 88)), (1, .int s), (2, .int x), (3, .int y), (4, .int v)] rfl ?_
  refine aw_iload_n 1 dX9_visitor_0 rfl rfl ?_
  refine aw_iconst (4) dX9_visitor_1 (by decide) ?_
  refine aw_dS [.int s, .int 4] [] lX9_126 sX9_isIn mX9_isIn dX9_visitor_2 (X9_isIn4_f (by omega)) rfl (Nat.le_of_ble_eq_true rfl) (by decide) (by decide) rfl ?_
  refine aw_if_ne 15 dX9_visitor_5 (by decide) (fun c5 => absurd (by decide) c5) (fun c5 => ?_)
  refine aw_aload_n 0 dX9_visitor_8 rfl rfl ?_
  refine aw_bipush (-2) dX9_visitor_9 (by decide) ?_
  refine aw_eV [.int (-2)] [] lX9_130 vX9_refuse mX9_refuse dX9_visitor_11 (X9_refuse2 hM) hM.1 rfl rfl rfl (Nat.le_of_ble_eq_true rfl) (by decide) (by decide) rfl (fun h69 q70 => ?_)
  exact aw_iret rfl dX9_visitor_14 (by decide) (by decide) ⟨rfl, trivial⟩
set_option maxHeartbeats 4000000 in
theorem A20r {l : Launch} {G : xG} {h : List va_E} {s x y v : Int32} (hF : xF8 G h) (hs : 4 ≤ s.toInt) : CE l G yX8_visitor cX8_visitor 5 (some .int) 2 0 0 [.ref (G.1 + 0), .int s, .int x, .int y, .int v] h (some (.int (-2))) (kp h) := by
  refine cm_of rfl (Nat.le_of_ble_eq_true rfl) [(0, .ref (G.1 + 0)), (1, .int s), (2, .int x), (3, .int y), (4, .int v)] rfl ?_
  refine aw_iload_n 1 dX8_visitor_0 rfl rfl ?_
  refine aw_if_lt 9 dX8_visitor_1 (by decide) (fun c1 => absurd c1 (by simp only [i_lt, (show (0 : Int32).toInt = 0 from rfl)] <;> omega)) (fun c1 => ?_)
  refine aw_iload_n 1 dX8_visitor_4 rfl rfl ?_
  refine aw_iconst (3) dX8_visitor_5 (by decide) ?_
  refine aw_icmp_le 16 dX8_visitor_6 (by decide) (fun c6 => absurd c6 (by simp only [i_le, (show (3 : Int32).toInt = 3 from rfl)] <;> omega)) (fun c6 => ?_)
  refine aw_aload_n 0 dX8_visitor_9 rfl rfl ?_
  refine aw_bipush (-2) dX8_visitor_10 (by decide) ?_
  refine aw_eV [.int (-2)] [] lX8_70 vX8_refuse mX8_refuse dX8_visitor_12 (X8_refuse2 hF) hF.1 rfl rfl rfl (Nat.le_of_ble_eq_true rfl) (by decide) (by decide) rfl (fun h71 q72 => ?_)
  exact aw_iret rfl dX8_visitor_15 (by decide) (by decide) ⟨rfl, (kp_tr (kp_rf h) q72)⟩
set_option maxHeartbeats 4000000 in
theorem B20r {l : Launch} {G : xG} {h : List va_E} {s x y v : Int32} (hM : xF9 G h) (hs : 4 ≤ s.toInt) : CE l G yX9_visitor cX9_visitor 5 (some .int) 2 0 0 [.ref (G.1 + 88), .int s, .int x, .int y, .int v] h (some (.int (-2))) (fun _ => True) := by
  refine cm_of rfl (Nat.le_of_ble_eq_true rfl) [(0, .ref (G.1 + 88)), (1, .int s), (2, .int x), (3, .int y), (4, .int v)] rfl ?_
  refine aw_iload_n 1 dX9_visitor_0 rfl rfl ?_
  refine aw_iconst (4) dX9_visitor_1 (by decide) ?_
  refine aw_dS [.int s, .int 4] [] lX9_126 sX9_isIn mX9_isIn dX9_visitor_2 (X9_isIn4_f (by omega)) rfl (Nat.le_of_ble_eq_true rfl) (by decide) (by decide) rfl ?_
  refine aw_if_ne 15 dX9_visitor_5 (by decide) (fun c5 => absurd (by decide) c5) (fun c5 => ?_)
  refine aw_aload_n 0 dX9_visitor_8 rfl rfl ?_
  refine aw_bipush (-2) dX9_visitor_9 (by decide) ?_
  refine aw_eV [.int (-2)] [] lX9_130 vX9_refuse mX9_refuse dX9_visitor_11 (X9_refuse2 hM) hM.1 rfl rfl rfl (Nat.le_of_ble_eq_true rfl) (by decide) (by decide) rfl (fun h73 q74 => ?_)
  exact aw_iret rfl dX9_visitor_14 (by decide) (by decide) ⟨rfl, trivial⟩
set_option maxHeartbeats 4000000 in
theorem A20x {l : Launch} {G : xG} {h : List va_E} {s x y v : Int32} (hF : xF8 G h) (hs : 0 ≤ s.toInt ∧ s.toInt < 4)(hx : ¬ (0 ≤ x.toInt ∧ x.toInt < 12)) : CE l G yX8_visitor cX8_visitor 5 (some .int) 2 0 0 [.ref (G.1 + 0), .int s, .int x, .int y, .int v] h (some (.int (-1))) (kp h) := by
  refine cm_of rfl (Nat.le_of_ble_eq_true rfl) [(0, .ref (G.1 + 0)), (1, .int s), (2, .int x), (3, .int y), (4, .int v)] rfl ?_
  refine aw_iload_n 1 dX8_visitor_0 rfl rfl ?_
  refine aw_if_lt 9 dX8_visitor_1 (by decide) (fun c1 => absurd c1 (by simp only [i_lt, (show (0 : Int32).toInt = 0 from rfl)] <;> omega)) (fun c1 => ?_)
  refine aw_iload_n 1 dX8_visitor_4 rfl rfl ?_
  refine aw_iconst (3) dX8_visitor_5 (by decide) ?_
  refine aw_icmp_le 16 dX8_visitor_6 (by decide) (fun c6 => ?_) (fun c6 => absurd (by simp only [i_le, (show (3 : Int32).toInt = 3 from rfl)] <;> omega) c6)
  refine aw_iload_n 2 dX8_visitor_16 rfl rfl ?_
  refine aw_dS [.int x] [] lX8_154 sX8_isThing mX8_isThing dX8_visitor_17 (X8_isThing_f (by omega)) rfl (Nat.le_of_ble_eq_true rfl) (by decide) (by decide) rfl ?_
  refine aw_if_eq 42 dX8_visitor_20 (by decide) (fun c20 => ?_) (fun c20 => absurd (by decide) c20)
  refine aw_aload_n 0 dX8_visitor_42 rfl rfl ?_
  refine aw_iconst (-1) dX8_visitor_43 (by decide) ?_
  refine aw_eV [.int (-1)] [] lX8_70 vX8_refuse mX8_refuse dX8_visitor_44 (X8_refuse1 hF) hF.1 rfl rfl rfl (Nat.le_of_ble_eq_true rfl) (by decide) (by decide) rfl (fun h75 q76 => ?_)
  exact aw_iret rfl dX8_visitor_47 (by decide) (by decide) ⟨rfl, (kp_tr (kp_rf h) q76)⟩
set_option maxHeartbeats 4000000 in
theorem B20x {l : Launch} {G : xG} {h : List va_E} {s x y v : Int32} (hM : xF9 G h) (hs : 0 ≤ s.toInt ∧ s.toInt < 4)(hx : ¬ (0 ≤ x.toInt ∧ x.toInt < 12)) : CE l G yX9_visitor cX9_visitor 5 (some .int) 2 0 0 [.ref (G.1 + 88), .int s, .int x, .int y, .int v] h (some (.int (-1))) (fun _ => True) := by
  refine cm_of rfl (Nat.le_of_ble_eq_true rfl) [(0, .ref (G.1 + 88)), (1, .int s), (2, .int x), (3, .int y), (4, .int v)] rfl ?_
  refine aw_iload_n 1 dX9_visitor_0 rfl rfl ?_
  refine aw_iconst (4) dX9_visitor_1 (by decide) ?_
  refine aw_dS [.int s, .int 4] [] lX9_126 sX9_isIn mX9_isIn dX9_visitor_2 (X9_isIn4_t (by omega)) rfl (Nat.le_of_ble_eq_true rfl) (by decide) (by decide) rfl ?_
  refine aw_if_ne 15 dX9_visitor_5 (by decide) (fun c5 => ?_) (fun c5 => absurd c5 (by decide))
  refine aw_iload_n 2 dX9_visitor_15 rfl rfl ?_
  refine aw_bipush (12) dX9_visitor_16 (by decide) ?_
  refine aw_dS [.int x, .int 12] [] lX9_126 sX9_isIn mX9_isIn dX9_visitor_18 (X9_isIn12_f (by omega)) rfl (Nat.le_of_ble_eq_true rfl) (by decide) (by decide) rfl ?_
  refine aw_if_eq 43 dX9_visitor_21 (by decide) (fun c21 => ?_) (fun c21 => absurd (by decide) c21)
  refine aw_aload_n 0 dX9_visitor_43 rfl rfl ?_
  refine aw_iconst (-1) dX9_visitor_44 (by decide) ?_
  refine aw_eV [.int (-1)] [] lX9_130 vX9_refuse mX9_refuse dX9_visitor_45 (X9_refuse1 hM) hM.1 rfl rfl rfl (Nat.le_of_ble_eq_true rfl) (by decide) (by decide) rfl (fun h77 q78 => ?_)
  exact aw_iret rfl dX9_visitor_48 (by decide) (by decide) ⟨rfl, trivial⟩
set_option maxHeartbeats 4000000 in
theorem A20y0 {l : Launch} {G : xG} {h : List va_E} {s x y v : Int32} (hF : xF8 G h) (hs : s.toInt = 0)(hx : 0 ≤ x.toInt ∧ x.toInt < 12)(hy : ¬ (0 ≤ y.toInt ∧ y.toInt < 12)) : CE l G yX8_visitor cX8_visitor 5 (some .int) 2 0 0 [.ref (G.1 + 0), .int s, .int x, .int y, .int v] h (some (.int (-1))) (kp h) := by
  refine cm_of rfl (Nat.le_of_ble_eq_true rfl) [(0, .ref (G.1 + 0)), (1, .int s), (2, .int x), (3, .int y), (4, .int v)] rfl ?_
  refine aw_iload_n 1 dX8_visitor_0 rfl rfl ?_
  refine aw_if_lt 9 dX8_visitor_1 (by decide) (fun c1 => absurd c1 (by simp only [i_lt, (show (0 : Int32).toInt = 0 from rfl)] <;> omega)) (fun c1 => ?_)
  refine aw_iload_n 1 dX8_visitor_4 rfl rfl ?_
  refine aw_iconst (3) dX8_visitor_5 (by decide) ?_
  refine aw_icmp_le 16 dX8_visitor_6 (by decide) (fun c6 => ?_) (fun c6 => absurd (by simp only [i_le, (show (3 : Int32).toInt = 3 from rfl)] <;> omega) c6)
  refine aw_iload_n 2 dX8_visitor_16 rfl rfl ?_
  refine aw_dS [.int x] [] lX8_154 sX8_isThing mX8_isThing dX8_visitor_17 (X8_isThing_t (by omega)) rfl (Nat.le_of_ble_eq_true rfl) (by decide) (by decide) rfl ?_
  refine aw_if_eq 42 dX8_visitor_20 (by decide) (fun c20 => absurd c20 (by decide)) (fun c20 => ?_)
  refine aw_iload_n 1 dX8_visitor_23 rfl rfl ?_
  refine aw_dS [.int s] [] lX8_201 sX8_needsTwo mX8_needsTwo dX8_visitor_24 (X8_needsTwo_t0 (by omega)) rfl (Nat.le_of_ble_eq_true rfl) (by decide) (by decide) rfl ?_
  refine aw_if_eq 48 dX8_visitor_27 (by decide) (fun c27 => absurd c27 (by decide)) (fun c27 => ?_)
  refine aw_iload_n 3 dX8_visitor_30 rfl rfl ?_
  refine aw_dS [.int y] [] lX8_154 sX8_isThing mX8_isThing dX8_visitor_31 (X8_isThing_f (by omega)) rfl (Nat.le_of_ble_eq_true rfl) (by decide) (by decide) rfl ?_
  refine aw_if_eq 42 dX8_visitor_34 (by decide) (fun c34 => ?_) (fun c34 => absurd (by decide) c34)
  refine aw_aload_n 0 dX8_visitor_42 rfl rfl ?_
  refine aw_iconst (-1) dX8_visitor_43 (by decide) ?_
  refine aw_eV [.int (-1)] [] lX8_70 vX8_refuse mX8_refuse dX8_visitor_44 (X8_refuse1 hF) hF.1 rfl rfl rfl (Nat.le_of_ble_eq_true rfl) (by decide) (by decide) rfl (fun h79 q80 => ?_)
  exact aw_iret rfl dX8_visitor_47 (by decide) (by decide) ⟨rfl, (kp_tr (kp_rf h) q80)⟩
set_option maxHeartbeats 4000000 in
theorem B20y0 {l : Launch} {G : xG} {h : List va_E} {s x y v : Int32} (hM : xF9 G h) (hs : s.toInt = 0)(hx : 0 ≤ x.toInt ∧ x.toInt < 12)(hy : ¬ (0 ≤ y.toInt ∧ y.toInt < 12)) : CE l G yX9_visitor cX9_visitor 5 (some .int) 2 0 0 [.ref (G.1 + 88), .int s, .int x, .int y, .int v] h (some (.int (-1))) (fun _ => True) := by
  refine cm_of rfl (Nat.le_of_ble_eq_true rfl) [(0, .ref (G.1 + 88)), (1, .int s), (2, .int x), (3, .int y), (4, .int v)] rfl ?_
  refine aw_iload_n 1 dX9_visitor_0 rfl rfl ?_
  refine aw_iconst (4) dX9_visitor_1 (by decide) ?_
  refine aw_dS [.int s, .int 4] [] lX9_126 sX9_isIn mX9_isIn dX9_visitor_2 (X9_isIn4_t (by omega)) rfl (Nat.le_of_ble_eq_true rfl) (by decide) (by decide) rfl ?_
  refine aw_if_ne 15 dX9_visitor_5 (by decide) (fun c5 => ?_) (fun c5 => absurd c5 (by decide))
  refine aw_iload_n 2 dX9_visitor_15 rfl rfl ?_
  refine aw_bipush (12) dX9_visitor_16 (by decide) ?_
  refine aw_dS [.int x, .int 12] [] lX9_126 sX9_isIn mX9_isIn dX9_visitor_18 (X9_isIn12_t (by omega)) rfl (Nat.le_of_ble_eq_true rfl) (by decide) (by decide) rfl ?_
  refine aw_if_eq 43 dX9_visitor_21 (by decide) (fun c21 => absurd c21 (by decide)) (fun c21 => ?_)
  refine aw_iload_n 1 dX9_visitor_24 rfl rfl ?_
  refine aw_iconst (2) dX9_visitor_25 (by decide) ?_
  refine aw_icmp_ge 49 dX9_visitor_26 (by decide) (fun c26 => absurd c26 (by simp only [i_le, (show (2 : Int32).toInt = 2 from rfl)] <;> omega)) (fun c26 => ?_)
  refine aw_iload_n 3 dX9_visitor_29 rfl rfl ?_
  refine aw_bipush (12) dX9_visitor_30 (by decide) ?_
  refine aw_dS [.int y, .int 12] [] lX9_126 sX9_isIn mX9_isIn dX9_visitor_32 (X9_isIn12_f (by omega)) rfl (Nat.le_of_ble_eq_true rfl) (by decide) (by decide) rfl ?_
  refine aw_if_eq 43 dX9_visitor_35 (by decide) (fun c35 => ?_) (fun c35 => absurd (by decide) c35)
  refine aw_aload_n 0 dX9_visitor_43 rfl rfl ?_
  refine aw_iconst (-1) dX9_visitor_44 (by decide) ?_
  refine aw_eV [.int (-1)] [] lX9_130 vX9_refuse mX9_refuse dX9_visitor_45 (X9_refuse1 hM) hM.1 rfl rfl rfl (Nat.le_of_ble_eq_true rfl) (by decide) (by decide) rfl (fun h81 q82 => ?_)
  exact aw_iret rfl dX9_visitor_48 (by decide) (by decide) ⟨rfl, trivial⟩
set_option maxHeartbeats 4000000 in
theorem A20z0 {l : Launch} {G : xG} {h : List va_E} {s x y v : Int32} (hF : xF8 G h) (hs : s.toInt = 0)(hx : 0 ≤ x.toInt ∧ x.toInt < 12)(hy : 0 ≤ y.toInt ∧ y.toInt < 12)(hxy : x.toInt = y.toInt) : CE l G yX8_visitor cX8_visitor 5 (some .int) 2 0 0 [.ref (G.1 + 0), .int s, .int x, .int y, .int v] h (some (.int (-1))) (kp h) := by
  refine cm_of rfl (Nat.le_of_ble_eq_true rfl) [(0, .ref (G.1 + 0)), (1, .int s), (2, .int x), (3, .int y), (4, .int v)] rfl ?_
  refine aw_iload_n 1 dX8_visitor_0 rfl rfl ?_
  refine aw_if_lt 9 dX8_visitor_1 (by decide) (fun c1 => absurd c1 (by simp only [i_lt, (show (0 : Int32).toInt = 0 from rfl)] <;> omega)) (fun c1 => ?_)
  refine aw_iload_n 1 dX8_visitor_4 rfl rfl ?_
  refine aw_iconst (3) dX8_visitor_5 (by decide) ?_
  refine aw_icmp_le 16 dX8_visitor_6 (by decide) (fun c6 => ?_) (fun c6 => absurd (by simp only [i_le, (show (3 : Int32).toInt = 3 from rfl)] <;> omega) c6)
  refine aw_iload_n 2 dX8_visitor_16 rfl rfl ?_
  refine aw_dS [.int x] [] lX8_154 sX8_isThing mX8_isThing dX8_visitor_17 (X8_isThing_t (by omega)) rfl (Nat.le_of_ble_eq_true rfl) (by decide) (by decide) rfl ?_
  refine aw_if_eq 42 dX8_visitor_20 (by decide) (fun c20 => absurd c20 (by decide)) (fun c20 => ?_)
  refine aw_iload_n 1 dX8_visitor_23 rfl rfl ?_
  refine aw_dS [.int s] [] lX8_201 sX8_needsTwo mX8_needsTwo dX8_visitor_24 (X8_needsTwo_t0 (by omega)) rfl (Nat.le_of_ble_eq_true rfl) (by decide) (by decide) rfl ?_
  refine aw_if_eq 48 dX8_visitor_27 (by decide) (fun c27 => absurd c27 (by decide)) (fun c27 => ?_)
  refine aw_iload_n 3 dX8_visitor_30 rfl rfl ?_
  refine aw_dS [.int y] [] lX8_154 sX8_isThing mX8_isThing dX8_visitor_31 (X8_isThing_t (by omega)) rfl (Nat.le_of_ble_eq_true rfl) (by decide) (by decide) rfl ?_
  refine aw_if_eq 42 dX8_visitor_34 (by decide) (fun c34 => absurd c34 (by decide)) (fun c34 => ?_)
  refine aw_iload_n 2 dX8_visitor_37 rfl rfl ?_
  refine aw_iload_n 3 dX8_visitor_38 rfl rfl ?_
  refine aw_icmp_ne 48 dX8_visitor_39 (by decide) (fun c39 => absurd (by simp only [i_eq] <;> omega) c39) (fun c39 => ?_)
  refine aw_aload_n 0 dX8_visitor_42 rfl rfl ?_
  refine aw_iconst (-1) dX8_visitor_43 (by decide) ?_
  refine aw_eV [.int (-1)] [] lX8_70 vX8_refuse mX8_refuse dX8_visitor_44 (X8_refuse1 hF) hF.1 rfl rfl rfl (Nat.le_of_ble_eq_true rfl) (by decide) (by decide) rfl (fun h83 q84 => ?_)
  exact aw_iret rfl dX8_visitor_47 (by decide) (by decide) ⟨rfl, (kp_tr (kp_rf h) q84)⟩
set_option maxHeartbeats 4000000 in
theorem B20z0 {l : Launch} {G : xG} {h : List va_E} {s x y v : Int32} (hM : xF9 G h) (hs : s.toInt = 0)(hx : 0 ≤ x.toInt ∧ x.toInt < 12)(hy : 0 ≤ y.toInt ∧ y.toInt < 12)(hxy : x.toInt = y.toInt) : CE l G yX9_visitor cX9_visitor 5 (some .int) 2 0 0 [.ref (G.1 + 88), .int s, .int x, .int y, .int v] h (some (.int (-1))) (fun _ => True) := by
  refine cm_of rfl (Nat.le_of_ble_eq_true rfl) [(0, .ref (G.1 + 88)), (1, .int s), (2, .int x), (3, .int y), (4, .int v)] rfl ?_
  refine aw_iload_n 1 dX9_visitor_0 rfl rfl ?_
  refine aw_iconst (4) dX9_visitor_1 (by decide) ?_
  refine aw_dS [.int s, .int 4] [] lX9_126 sX9_isIn mX9_isIn dX9_visitor_2 (X9_isIn4_t (by omega)) rfl (Nat.le_of_ble_eq_true rfl) (by decide) (by decide) rfl ?_
  refine aw_if_ne 15 dX9_visitor_5 (by decide) (fun c5 => ?_) (fun c5 => absurd c5 (by decide))
  refine aw_iload_n 2 dX9_visitor_15 rfl rfl ?_
  refine aw_bipush (12) dX9_visitor_16 (by decide) ?_
  refine aw_dS [.int x, .int 12] [] lX9_126 sX9_isIn mX9_isIn dX9_visitor_18 (X9_isIn12_t (by omega)) rfl (Nat.le_of_ble_eq_true rfl) (by decide) (by decide) rfl ?_
  refine aw_if_eq 43 dX9_visitor_21 (by decide) (fun c21 => absurd c21 (by decide)) (fun c21 => ?_)
  refine aw_iload_n 1 dX9_visitor_24 rfl rfl ?_
  refine aw_iconst (2) dX9_visitor_25 (by decide) ?_
  refine aw_icmp_ge 49 dX9_visitor_26 (by decide) (fun c26 => absurd c26 (by simp only [i_le, (show (2 : Int32).toInt = 2 from rfl)] <;> omega)) (fun c26 => ?_)
  refine aw_iload_n 3 dX9_visitor_29 rfl rfl ?_
  refine aw_bipush (12) dX9_visitor_30 (by decide) ?_
  refine aw_dS [.int y, .int 12] [] lX9_126 sX9_isIn mX9_isIn dX9_visitor_32 (X9_isIn12_t (by omega)) rfl (Nat.le_of_ble_eq_true rfl) (by decide) (by decide) rfl ?_
  refine aw_if_eq 43 dX9_visitor_35 (by decide) (fun c35 => absurd c35 (by decide)) (fun c35 => ?_)
  refine aw_iload_n 2 dX9_visitor_38 rfl rfl ?_
  refine aw_iload_n 3 dX9_visitor_39 rfl rfl ?_
  refine aw_icmp_ne 49 dX9_visitor_40 (by decide) (fun c40 => absurd (by simp only [i_eq] <;> omega) c40) (fun c40 => ?_)
  refine aw_aload_n 0 dX9_visitor_43 rfl rfl ?_
  refine aw_iconst (-1) dX9_visitor_44 (by decide) ?_
  refine aw_eV [.int (-1)] [] lX9_130 vX9_refuse mX9_refuse dX9_visitor_45 (X9_refuse1 hM) hM.1 rfl rfl rfl (Nat.le_of_ble_eq_true rfl) (by decide) (by decide) rfl (fun h85 q86 => ?_)
  exact aw_iret rfl dX9_visitor_48 (by decide) (by decide) ⟨rfl, trivial⟩
set_option maxHeartbeats 4000000 in
theorem A20a0 {l : Launch} {G : xG} {h : List va_E} {s x y v : Int32} (hF : xF8 G h) (hs : s.toInt = 0)(hx : 0 ≤ x.toInt ∧ x.toInt < 12)(hy : 0 ≤ y.toInt ∧ y.toInt < 12)(hxy : x.toInt ≠ y.toInt)(hv : v.toInt < 1) : CE l G yX8_visitor cX8_visitor 5 (some .int) 2 0 0 [.ref (G.1 + 0), .int s, .int x, .int y, .int v] h (some (.int (-4))) (kp h) := by
  refine cm_of rfl (Nat.le_of_ble_eq_true rfl) [(0, .ref (G.1 + 0)), (1, .int s), (2, .int x), (3, .int y), (4, .int v)] rfl ?_
  refine aw_iload_n 1 dX8_visitor_0 rfl rfl ?_
  refine aw_if_lt 9 dX8_visitor_1 (by decide) (fun c1 => absurd c1 (by simp only [i_lt, (show (0 : Int32).toInt = 0 from rfl)] <;> omega)) (fun c1 => ?_)
  refine aw_iload_n 1 dX8_visitor_4 rfl rfl ?_
  refine aw_iconst (3) dX8_visitor_5 (by decide) ?_
  refine aw_icmp_le 16 dX8_visitor_6 (by decide) (fun c6 => ?_) (fun c6 => absurd (by simp only [i_le, (show (3 : Int32).toInt = 3 from rfl)] <;> omega) c6)
  refine aw_iload_n 2 dX8_visitor_16 rfl rfl ?_
  refine aw_dS [.int x] [] lX8_154 sX8_isThing mX8_isThing dX8_visitor_17 (X8_isThing_t (by omega)) rfl (Nat.le_of_ble_eq_true rfl) (by decide) (by decide) rfl ?_
  refine aw_if_eq 42 dX8_visitor_20 (by decide) (fun c20 => absurd c20 (by decide)) (fun c20 => ?_)
  refine aw_iload_n 1 dX8_visitor_23 rfl rfl ?_
  refine aw_dS [.int s] [] lX8_201 sX8_needsTwo mX8_needsTwo dX8_visitor_24 (X8_needsTwo_t0 (by omega)) rfl (Nat.le_of_ble_eq_true rfl) (by decide) (by decide) rfl ?_
  refine aw_if_eq 48 dX8_visitor_27 (by decide) (fun c27 => absurd c27 (by decide)) (fun c27 => ?_)
  refine aw_iload_n 3 dX8_visitor_30 rfl rfl ?_
  refine aw_dS [.int y] [] lX8_154 sX8_isThing mX8_isThing dX8_visitor_31 (X8_isThing_t (by omega)) rfl (Nat.le_of_ble_eq_true rfl) (by decide) (by decide) rfl ?_
  refine aw_if_eq 42 dX8_visitor_34 (by decide) (fun c34 => absurd c34 (by decide)) (fun c34 => ?_)
  refine aw_iload_n 2 dX8_visitor_37 rfl rfl ?_
  refine aw_iload_n 3 dX8_visitor_38 rfl rfl ?_
  refine aw_icmp_ne 48 dX8_visitor_39 (by decide) (fun c39 => ?_) (fun c39 => absurd c39 (by simp only [i_eq] <;> omega))
  refine aw_iload 4 dX8_visitor_48 rfl ?_
  refine aw_iconst (1) dX8_visitor_50 (by decide) ?_
  refine aw_icmp_ge 61 dX8_visitor_51 (by decide) (fun c51 => absurd c51 (by simp only [i_le, (show (1 : Int32).toInt = 1 from rfl)] <;> omega)) (fun c51 => ?_)
  refine aw_aload_n 0 dX8_visitor_54 rfl rfl ?_
  refine aw_bipush (-4) dX8_visitor_55 (by decide) ?_
  refine aw_eV [.int (-4)] [] lX8_70 vX8_refuse mX8_refuse dX8_visitor_57 (X8_refuse4 hF) hF.1 rfl rfl rfl (Nat.le_of_ble_eq_true rfl) (by decide) (by decide) rfl (fun h87 q88 => ?_)
  exact aw_iret rfl dX8_visitor_60 (by decide) (by decide) ⟨rfl, (kp_tr (kp_rf h) q88)⟩
set_option maxHeartbeats 4000000 in
theorem B20a0 {l : Launch} {G : xG} {h : List va_E} {s x y v : Int32} (hM : xF9 G h) (hs : s.toInt = 0)(hx : 0 ≤ x.toInt ∧ x.toInt < 12)(hy : 0 ≤ y.toInt ∧ y.toInt < 12)(hxy : x.toInt ≠ y.toInt)(hv : v.toInt < 1) : CE l G yX9_visitor cX9_visitor 5 (some .int) 2 0 0 [.ref (G.1 + 88), .int s, .int x, .int y, .int v] h (some (.int (-4))) (fun _ => True) := by
  refine cm_of rfl (Nat.le_of_ble_eq_true rfl) [(0, .ref (G.1 + 88)), (1, .int s), (2, .int x), (3, .int y), (4, .int v)] rfl ?_
  refine aw_iload_n 1 dX9_visitor_0 rfl rfl ?_
  refine aw_iconst (4) dX9_visitor_1 (by decide) ?_
  refine aw_dS [.int s, .int 4] [] lX9_126 sX9_isIn mX9_isIn dX9_visitor_2 (X9_isIn4_t (by omega)) rfl (Nat.le_of_ble_eq_true rfl) (by decide) (by decide) rfl ?_
  refine aw_if_ne 15 dX9_visitor_5 (by decide) (fun c5 => ?_) (fun c5 => absurd c5 (by decide))
  refine aw_iload_n 2 dX9_visitor_15 rfl rfl ?_
  refine aw_bipush (12) dX9_visitor_16 (by decide) ?_
  refine aw_dS [.int x, .int 12] [] lX9_126 sX9_isIn mX9_isIn dX9_visitor_18 (X9_isIn12_t (by omega)) rfl (Nat.le_of_ble_eq_true rfl) (by decide) (by decide) rfl ?_
  refine aw_if_eq 43 dX9_visitor_21 (by decide) (fun c21 => absurd c21 (by decide)) (fun c21 => ?_)
  refine aw_iload_n 1 dX9_visitor_24 rfl rfl ?_
  refine aw_iconst (2) dX9_visitor_25 (by decide) ?_
  refine aw_icmp_ge 49 dX9_visitor_26 (by decide) (fun c26 => absurd c26 (by simp only [i_le, (show (2 : Int32).toInt = 2 from rfl)] <;> omega)) (fun c26 => ?_)
  refine aw_iload_n 3 dX9_visitor_29 rfl rfl ?_
  refine aw_bipush (12) dX9_visitor_30 (by decide) ?_
  refine aw_dS [.int y, .int 12] [] lX9_126 sX9_isIn mX9_isIn dX9_visitor_32 (X9_isIn12_t (by omega)) rfl (Nat.le_of_ble_eq_true rfl) (by decide) (by decide) rfl ?_
  refine aw_if_eq 43 dX9_visitor_35 (by decide) (fun c35 => absurd c35 (by decide)) (fun c35 => ?_)
  refine aw_iload_n 2 dX9_visitor_38 rfl rfl ?_
  refine aw_iload_n 3 dX9_visitor_39 rfl rfl ?_
  refine aw_icmp_ne 49 dX9_visitor_40 (by decide) (fun c40 => ?_) (fun c40 => absurd c40 (by simp only [i_eq] <;> omega))
  refine aw_iload 4 dX9_visitor_49 rfl ?_
  refine aw_iconst (1) dX9_visitor_51 (by decide) ?_
  refine aw_icmp_ge 62 dX9_visitor_52 (by decide) (fun c52 => absurd c52 (by simp only [i_le, (show (1 : Int32).toInt = 1 from rfl)] <;> omega)) (fun c52 => ?_)
  refine aw_aload_n 0 dX9_visitor_55 rfl rfl ?_
  refine aw_bipush (-4) dX9_visitor_56 (by decide) ?_
  refine aw_eV [.int (-4)] [] lX9_130 vX9_refuse mX9_refuse dX9_visitor_58 (X9_refuse4 hM) hM.1 rfl rfl rfl (Nat.le_of_ble_eq_true rfl) (by decide) (by decide) rfl (fun h89 q90 => ?_)
  exact aw_iret rfl dX9_visitor_61 (by decide) (by decide) ⟨rfl, trivial⟩
set_option maxHeartbeats 4000000 in
theorem A20b0 {l : Launch} {G : xG} {h : List va_E} {s x y v : Int32} (hF : xF8 G h) (hs : s.toInt = 0)(hx : 0 ≤ x.toInt ∧ x.toInt < 12)(hy : 0 ≤ y.toInt ∧ y.toInt < 12)(hxy : x.toInt ≠ y.toInt)(hv : 9 < v.toInt) : CE l G yX8_visitor cX8_visitor 5 (some .int) 2 0 0 [.ref (G.1 + 0), .int s, .int x, .int y, .int v] h (some (.int (-6))) (kp h) := by
  refine cm_of rfl (Nat.le_of_ble_eq_true rfl) [(0, .ref (G.1 + 0)), (1, .int s), (2, .int x), (3, .int y), (4, .int v)] rfl ?_
  refine aw_iload_n 1 dX8_visitor_0 rfl rfl ?_
  refine aw_if_lt 9 dX8_visitor_1 (by decide) (fun c1 => absurd c1 (by simp only [i_lt, (show (0 : Int32).toInt = 0 from rfl)] <;> omega)) (fun c1 => ?_)
  refine aw_iload_n 1 dX8_visitor_4 rfl rfl ?_
  refine aw_iconst (3) dX8_visitor_5 (by decide) ?_
  refine aw_icmp_le 16 dX8_visitor_6 (by decide) (fun c6 => ?_) (fun c6 => absurd (by simp only [i_le, (show (3 : Int32).toInt = 3 from rfl)] <;> omega) c6)
  refine aw_iload_n 2 dX8_visitor_16 rfl rfl ?_
  refine aw_dS [.int x] [] lX8_154 sX8_isThing mX8_isThing dX8_visitor_17 (X8_isThing_t (by omega)) rfl (Nat.le_of_ble_eq_true rfl) (by decide) (by decide) rfl ?_
  refine aw_if_eq 42 dX8_visitor_20 (by decide) (fun c20 => absurd c20 (by decide)) (fun c20 => ?_)
  refine aw_iload_n 1 dX8_visitor_23 rfl rfl ?_
  refine aw_dS [.int s] [] lX8_201 sX8_needsTwo mX8_needsTwo dX8_visitor_24 (X8_needsTwo_t0 (by omega)) rfl (Nat.le_of_ble_eq_true rfl) (by decide) (by decide) rfl ?_
  refine aw_if_eq 48 dX8_visitor_27 (by decide) (fun c27 => absurd c27 (by decide)) (fun c27 => ?_)
  refine aw_iload_n 3 dX8_visitor_30 rfl rfl ?_
  refine aw_dS [.int y] [] lX8_154 sX8_isThing mX8_isThing dX8_visitor_31 (X8_isThing_t (by omega)) rfl (Nat.le_of_ble_eq_true rfl) (by decide) (by decide) rfl ?_
  refine aw_if_eq 42 dX8_visitor_34 (by decide) (fun c34 => absurd c34 (by decide)) (fun c34 => ?_)
  refine aw_iload_n 2 dX8_visitor_37 rfl rfl ?_
  refine aw_iload_n 3 dX8_visitor_38 rfl rfl ?_
  refine aw_icmp_ne 48 dX8_visitor_39 (by decide) (fun c39 => ?_) (fun c39 => absurd c39 (by simp only [i_eq] <;> omega))
  refine aw_iload 4 dX8_visitor_48 rfl ?_
  refine aw_iconst (1) dX8_visitor_50 (by decide) ?_
  refine aw_icmp_ge 61 dX8_visitor_51 (by decide) (fun c51 => ?_) (fun c51 => absurd (by simp only [i_le, (show (1 : Int32).toInt = 1 from rfl)] <;> omega) c51)
  refine aw_iload 4 dX8_visitor_61 rfl ?_
  refine aw_bipush (9) dX8_visitor_63 (by decide) ?_
  refine aw_icmp_gt 80 dX8_visitor_65 (by decide) (fun c65 => ?_) (fun c65 => absurd (by simp only [i_lt, (show (9 : Int32).toInt = 9 from rfl)] <;> omega) c65)
  refine aw_aload_n 0 dX8_visitor_80 rfl rfl ?_
  refine aw_bipush (-6) dX8_visitor_81 (by decide) ?_
  refine aw_eV [.int (-6)] [] lX8_70 vX8_refuse mX8_refuse dX8_visitor_83 (X8_refuse6 hF) hF.1 rfl rfl rfl (Nat.le_of_ble_eq_true rfl) (by decide) (by decide) rfl (fun h91 q92 => ?_)
  exact aw_iret rfl dX8_visitor_86 (by decide) (by decide) ⟨rfl, (kp_tr (kp_rf h) q92)⟩
set_option maxHeartbeats 4000000 in
theorem B20b0 {l : Launch} {G : xG} {h : List va_E} {s x y v : Int32} (hM : xF9 G h) (hs : s.toInt = 0)(hx : 0 ≤ x.toInt ∧ x.toInt < 12)(hy : 0 ≤ y.toInt ∧ y.toInt < 12)(hxy : x.toInt ≠ y.toInt)(hv : 9 < v.toInt) : CE l G yX9_visitor cX9_visitor 5 (some .int) 2 0 0 [.ref (G.1 + 88), .int s, .int x, .int y, .int v] h (some (.int (-6))) (fun _ => True) := by
  refine cm_of rfl (Nat.le_of_ble_eq_true rfl) [(0, .ref (G.1 + 88)), (1, .int s), (2, .int x), (3, .int y), (4, .int v)] rfl ?_
  refine aw_iload_n 1 dX9_visitor_0 rfl rfl ?_
  refine aw_iconst (4) dX9_visitor_1 (by decide) ?_
  refine aw_dS [.int s, .int 4] [] lX9_126 sX9_isIn mX9_isIn dX9_visitor_2 (X9_isIn4_t (by omega)) rfl (Nat.le_of_ble_eq_true rfl) (by decide) (by decide) rfl ?_
  refine aw_if_ne 15 dX9_visitor_5 (by decide) (fun c5 => ?_) (fun c5 => absurd c5 (by decide))
  refine aw_iload_n 2 dX9_visitor_15 rfl rfl ?_
  refine aw_bipush (12) dX9_visitor_16 (by decide) ?_
  refine aw_dS [.int x, .int 12] [] lX9_126 sX9_isIn mX9_isIn dX9_visitor_18 (X9_isIn12_t (by omega)) rfl (Nat.le_of_ble_eq_true rfl) (by decide) (by decide) rfl ?_
  refine aw_if_eq 43 dX9_visitor_21 (by decide) (fun c21 => absurd c21 (by decide)) (fun c21 => ?_)
  refine aw_iload_n 1 dX9_visitor_24 rfl rfl ?_
  refine aw_iconst (2) dX9_visitor_25 (by decide) ?_
  refine aw_icmp_ge 49 dX9_visitor_26 (by decide) (fun c26 => absurd c26 (by simp only [i_le, (show (2 : Int32).toInt = 2 from rfl)] <;> omega)) (fun c26 => ?_)
  refine aw_iload_n 3 dX9_visitor_29 rfl rfl ?_
  refine aw_bipush (12) dX9_visitor_30 (by decide) ?_
  refine aw_dS [.int y, .int 12] [] lX9_126 sX9_isIn mX9_isIn dX9_visitor_32 (X9_isIn12_t (by omega)) rfl (Nat.le_of_ble_eq_true rfl) (by decide) (by decide) rfl ?_
  refine aw_if_eq 43 dX9_visitor_35 (by decide) (fun c35 => absurd c35 (by decide)) (fun c35 => ?_)
  refine aw_iload_n 2 dX9_visitor_38 rfl rfl ?_
  refine aw_iload_n 3 dX9_visitor_39 rfl rfl ?_
  refine aw_icmp_ne 49 dX9_visitor_40 (by decide) (fun c40 => ?_) (fun c40 => absurd c40 (by simp only [i_eq] <;> omega))
  refine aw_iload 4 dX9_visitor_49 rfl ?_
  refine aw_iconst (1) dX9_visitor_51 (by decide) ?_
  refine aw_icmp_ge 62 dX9_visitor_52 (by decide) (fun c52 => ?_) (fun c52 => absurd (by simp only [i_le, (show (1 : Int32).toInt = 1 from rfl)] <;> omega) c52)
  refine aw_iload 4 dX9_visitor_62 rfl ?_
  refine aw_bipush (9) dX9_visitor_64 (by decide) ?_
  refine aw_icmp_gt 78 dX9_visitor_66 (by decide) (fun c66 => ?_) (fun c66 => absurd (by simp only [i_lt, (show (9 : Int32).toInt = 9 from rfl)] <;> omega) c66)
  refine aw_aload_n 0 dX9_visitor_78 rfl rfl ?_
  refine aw_bipush (-6) dX9_visitor_79 (by decide) ?_
  refine aw_eV [.int (-6)] [] lX9_130 vX9_refuse mX9_refuse dX9_visitor_81 (X9_refuse6 hM) hM.1 rfl rfl rfl (Nat.le_of_ble_eq_true rfl) (by decide) (by decide) rfl (fun h93 q94 => ?_)
  exact aw_iret rfl dX9_visitor_84 (by decide) (by decide) ⟨rfl, trivial⟩
set_option maxHeartbeats 4000000 in
theorem A20o0 {l : Launch} {G : xG} {h : List va_E} {s x y v : Int32} (hF : xF8 G h) (hs : s.toInt = 0)(hx : 0 ≤ x.toInt ∧ x.toInt < 12)(hy : 0 ≤ y.toInt ∧ y.toInt < 12)(hxy : x.toInt ≠ y.toInt)(hv : 1 ≤ v.toInt ∧ v.toInt ≤ 9) : CE l G yX8_visitor cX8_visitor 5 (some .int) 2 0 0 [.ref (G.1 + 0), .int s, .int x, .int y, .int v] h (some (.int 0)) (kp h) := by
  refine cm_of rfl (Nat.le_of_ble_eq_true rfl) [(0, .ref (G.1 + 0)), (1, .int s), (2, .int x), (3, .int y), (4, .int v)] rfl ?_
  refine aw_iload_n 1 dX8_visitor_0 rfl rfl ?_
  refine aw_if_lt 9 dX8_visitor_1 (by decide) (fun c1 => absurd c1 (by simp only [i_lt, (show (0 : Int32).toInt = 0 from rfl)] <;> omega)) (fun c1 => ?_)
  refine aw_iload_n 1 dX8_visitor_4 rfl rfl ?_
  refine aw_iconst (3) dX8_visitor_5 (by decide) ?_
  refine aw_icmp_le 16 dX8_visitor_6 (by decide) (fun c6 => ?_) (fun c6 => absurd (by simp only [i_le, (show (3 : Int32).toInt = 3 from rfl)] <;> omega) c6)
  refine aw_iload_n 2 dX8_visitor_16 rfl rfl ?_
  refine aw_dS [.int x] [] lX8_154 sX8_isThing mX8_isThing dX8_visitor_17 (X8_isThing_t (by omega)) rfl (Nat.le_of_ble_eq_true rfl) (by decide) (by decide) rfl ?_
  refine aw_if_eq 42 dX8_visitor_20 (by decide) (fun c20 => absurd c20 (by decide)) (fun c20 => ?_)
  refine aw_iload_n 1 dX8_visitor_23 rfl rfl ?_
  refine aw_dS [.int s] [] lX8_201 sX8_needsTwo mX8_needsTwo dX8_visitor_24 (X8_needsTwo_t0 (by omega)) rfl (Nat.le_of_ble_eq_true rfl) (by decide) (by decide) rfl ?_
  refine aw_if_eq 48 dX8_visitor_27 (by decide) (fun c27 => absurd c27 (by decide)) (fun c27 => ?_)
  refine aw_iload_n 3 dX8_visitor_30 rfl rfl ?_
  refine aw_dS [.int y] [] lX8_154 sX8_isThing mX8_isThing dX8_visitor_31 (X8_isThing_t (by omega)) rfl (Nat.le_of_ble_eq_true rfl) (by decide) (by decide) rfl ?_
  refine aw_if_eq 42 dX8_visitor_34 (by decide) (fun c34 => absurd c34 (by decide)) (fun c34 => ?_)
  refine aw_iload_n 2 dX8_visitor_37 rfl rfl ?_
  refine aw_iload_n 3 dX8_visitor_38 rfl rfl ?_
  refine aw_icmp_ne 48 dX8_visitor_39 (by decide) (fun c39 => ?_) (fun c39 => absurd c39 (by simp only [i_eq] <;> omega))
  refine aw_iload 4 dX8_visitor_48 rfl ?_
  refine aw_iconst (1) dX8_visitor_50 (by decide) ?_
  refine aw_icmp_ge 61 dX8_visitor_51 (by decide) (fun c51 => ?_) (fun c51 => absurd (by simp only [i_le, (show (1 : Int32).toInt = 1 from rfl)] <;> omega) c51)
  refine aw_iload 4 dX8_visitor_61 rfl ?_
  refine aw_bipush (9) dX8_visitor_63 (by decide) ?_
  refine aw_icmp_gt 80 dX8_visitor_65 (by decide) (fun c65 => absurd c65 (by simp only [i_lt, (show (9 : Int32).toInt = 9 from rfl)] <;> omega)) (fun c65 => ?_)
  refine aw_aload_n 0 dX8_visitor_68 rfl rfl ?_
  refine aw_get fX8_51 dX8_visitor_69 hF.1 rfl ?_
  refine aw_get fX8_204 dX8_visitor_72 hF.2.2.2.2.2.2.2.2.2.2.2.2.2.2.2.2.2.2.2.2.2.2.2.2.2.2.2.2.2.2.2.1 rfl ?_
  refine aw_bipush (40) dX8_visitor_75 (by decide) ?_
  refine aw_icmp_lt 87 dX8_visitor_77 (by decide) (fun c77 => ?_) (fun c77 => absurd (by decide) c77)
  refine aw_aload_n 0 dX8_visitor_87 rfl rfl ?_
  refine aw_get fX8_51 dX8_visitor_88 hF.1 rfl ?_
  refine aw_iload_n 1 dX8_visitor_91 rfl rfl ?_
  refine aw_iload_n 2 dX8_visitor_92 rfl rfl ?_
  refine aw_iload_n 1 dX8_visitor_93 rfl rfl ?_
  refine aw_dS [.int s] [.int x, .int s, .ref (G.1 + 79)] lX8_201 sX8_needsTwo mX8_needsTwo dX8_visitor_94 (X8_needsTwo_t0 (by omega)) rfl (Nat.le_of_ble_eq_true rfl) (by decide) (by decide) rfl ?_
  refine aw_if_eq 104 dX8_visitor_97 (by decide) (fun c97 => absurd c97 (by decide)) (fun c97 => ?_)
  refine aw_iload_n 3 dX8_visitor_100 rfl rfl ?_
  refine aw_goto 105 dX8_visitor_101 (by decide) ?_
  refine aw_iload 4 dX8_visitor_105 rfl ?_
  refine aw_eV [.int s, .int x, .int y, .int v] [] lX8_205 vX6_addSaying mX6_addSaying dX8_visitor_107 (X6_addSaying_o hF) hF.2.2.2.2.2.2.2.2.2.2.2.2.2.2.2.2.2.2.2.2.2.2.2.2.2.2.2.2.2.2.2.1 rfl rfl rfl (Nat.le_of_ble_eq_true rfl) (by decide) (by decide) rfl (fun h95 q96 => ?_)
  exact aw_iret rfl dX8_visitor_110 (by decide) (by decide) ⟨rfl, (kp_tr (kp_rf h) q96)⟩
set_option maxHeartbeats 4000000 in
theorem B20o0 {l : Launch} {G : xG} {h : List va_E} {s x y v : Int32} (hM : xF9 G h) (hs : s.toInt = 0)(hx : 0 ≤ x.toInt ∧ x.toInt < 12)(hy : 0 ≤ y.toInt ∧ y.toInt < 12)(hxy : x.toInt ≠ y.toInt)(hv : 1 ≤ v.toInt ∧ v.toInt ≤ 9) : CE l G yX9_visitor cX9_visitor 5 (some .int) 2 0 0 [.ref (G.1 + 88), .int s, .int x, .int y, .int v] h (some (.int 0)) (fun _ => True) := by
  refine cm_of rfl (Nat.le_of_ble_eq_true rfl) [(0, .ref (G.1 + 88)), (1, .int s), (2, .int x), (3, .int y), (4, .int v)] rfl ?_
  refine aw_iload_n 1 dX9_visitor_0 rfl rfl ?_
  refine aw_iconst (4) dX9_visitor_1 (by decide) ?_
  refine aw_dS [.int s, .int 4] [] lX9_126 sX9_isIn mX9_isIn dX9_visitor_2 (X9_isIn4_t (by omega)) rfl (Nat.le_of_ble_eq_true rfl) (by decide) (by decide) rfl ?_
  refine aw_if_ne 15 dX9_visitor_5 (by decide) (fun c5 => ?_) (fun c5 => absurd c5 (by decide))
  refine aw_iload_n 2 dX9_visitor_15 rfl rfl ?_
  refine aw_bipush (12) dX9_visitor_16 (by decide) ?_
  refine aw_dS [.int x, .int 12] [] lX9_126 sX9_isIn mX9_isIn dX9_visitor_18 (X9_isIn12_t (by omega)) rfl (Nat.le_of_ble_eq_true rfl) (by decide) (by decide) rfl ?_
  refine aw_if_eq 43 dX9_visitor_21 (by decide) (fun c21 => absurd c21 (by decide)) (fun c21 => ?_)
  refine aw_iload_n 1 dX9_visitor_24 rfl rfl ?_
  refine aw_iconst (2) dX9_visitor_25 (by decide) ?_
  refine aw_icmp_ge 49 dX9_visitor_26 (by decide) (fun c26 => absurd c26 (by simp only [i_le, (show (2 : Int32).toInt = 2 from rfl)] <;> omega)) (fun c26 => ?_)
  refine aw_iload_n 3 dX9_visitor_29 rfl rfl ?_
  refine aw_bipush (12) dX9_visitor_30 (by decide) ?_
  refine aw_dS [.int y, .int 12] [] lX9_126 sX9_isIn mX9_isIn dX9_visitor_32 (X9_isIn12_t (by omega)) rfl (Nat.le_of_ble_eq_true rfl) (by decide) (by decide) rfl ?_
  refine aw_if_eq 43 dX9_visitor_35 (by decide) (fun c35 => absurd c35 (by decide)) (fun c35 => ?_)
  refine aw_iload_n 2 dX9_visitor_38 rfl rfl ?_
  refine aw_iload_n 3 dX9_visitor_39 rfl rfl ?_
  refine aw_icmp_ne 49 dX9_visitor_40 (by decide) (fun c40 => ?_) (fun c40 => absurd c40 (by simp only [i_eq] <;> omega))
  refine aw_iload 4 dX9_visitor_49 rfl ?_
  refine aw_iconst (1) dX9_visitor_51 (by decide) ?_
  refine aw_icmp_ge 62 dX9_visitor_52 (by decide) (fun c52 => ?_) (fun c52 => absurd (by simp only [i_le, (show (1 : Int32).toInt = 1 from rfl)] <;> omega) c52)
  refine aw_iload 4 dX9_visitor_62 rfl ?_
  refine aw_bipush (9) dX9_visitor_64 (by decide) ?_
  refine aw_icmp_gt 78 dX9_visitor_66 (by decide) (fun c66 => absurd c66 (by simp only [i_lt, (show (9 : Int32).toInt = 9 from rfl)] <;> omega)) (fun c66 => ?_)
  refine aw_aload_n 0 dX9_visitor_69 rfl rfl ?_
  refine aw_get fX9_227 dX9_visitor_70 hM.1 rfl ?_
  refine aw_bipush (40) dX9_visitor_73 (by decide) ?_
  refine aw_icmp_ne 85 dX9_visitor_75 (by decide) (fun c75 => ?_) (fun c75 => absurd c75 (by decide))
  refine aw_aload_n 0 dX9_visitor_85 rfl rfl ?_
  refine aw_get fX9_98 dX9_visitor_86 hM.1 rfl ?_
  refine aw_aload_n 0 dX9_visitor_89 rfl rfl ?_
  refine aw_get fX9_227 dX9_visitor_90 hM.1 rfl ?_
  refine aw_iload_n 1 dX9_visitor_93 rfl rfl ?_
  refine aw_iast 0 (rfl) (by decide) (by decide) dX9_visitor_94 hM.2.2.2.2.2.2.2.2.2.2.2.2.2.2.2.2.2.2.2.2.2.2.2.2.2.2.2.2.1 ?_
  refine aw_aload_n 0 dX9_visitor_95 rfl rfl ?_
  refine aw_get fX9_101 dX9_visitor_96 (gn (by decide) (hM.1)) rfl ?_
  refine aw_aload_n 0 dX9_visitor_99 rfl rfl ?_
  refine aw_get fX9_227 dX9_visitor_100 (gn (by decide) (hM.1)) rfl ?_
  refine aw_iload_n 2 dX9_visitor_103 rfl rfl ?_
  refine aw_iast 0 (rfl) (by decide) (by decide) dX9_visitor_104 (gn (by decide) (hM.2.2.2.2.2.2.2.2.2.2.2.2.2.2.2.2.2.2.2.2.2.2.2.2.2.2.2.2.2.1)) ?_
  refine aw_aload_n 0 dX9_visitor_105 rfl rfl ?_
  refine aw_get fX9_104 dX9_visitor_106 (gn (by decide) (gn (by decide) (hM.1))) rfl ?_
  refine aw_aload_n 0 dX9_visitor_109 rfl rfl ?_
  refine aw_get fX9_227 dX9_visitor_110 (gn (by decide) (gn (by decide) (hM.1))) rfl ?_
  refine aw_iload_n 3 dX9_visitor_113 rfl rfl ?_
  refine aw_iast 0 (rfl) (by decide) (by decide) dX9_visitor_114 (gn (by decide) (gn (by decide) (hM.2.2.2.2.2.2.2.2.2.2.2.2.2.2.2.2.2.2.2.2.2.2.2.2.2.2.2.2.2.2.1))) ?_
  refine aw_aload_n 0 dX9_visitor_115 rfl rfl ?_
  refine aw_get fX9_107 dX9_visitor_116 (gn (by decide) (gn (by decide) (gn (by decide) (hM.1)))) rfl ?_
  refine aw_aload_n 0 dX9_visitor_119 rfl rfl ?_
  refine aw_get fX9_227 dX9_visitor_120 (gn (by decide) (gn (by decide) (gn (by decide) (hM.1)))) rfl ?_
  refine aw_iload 4 dX9_visitor_123 rfl ?_
  refine aw_iast 0 (rfl) (by decide) (by decide) dX9_visitor_125 (gn (by decide) (gn (by decide) (gn (by decide) (hM.2.2.2.2.2.2.2.2.2.2.2.2.2.2.2.2.2.2.2.2.2.2.2.2.2.2.2.2.2.2.2.1)))) ?_
  refine aw_aload_n 0 dX9_visitor_126 rfl rfl ?_
  refine aw_dup dX9_visitor_127 rfl ?_
  refine aw_get fX9_227 dX9_visitor_128 (gn (by decide) (gn (by decide) (gn (by decide) (gn (by decide) (hM.1))))) rfl ?_
  refine aw_iconst (1) dX9_visitor_131 (by decide) ?_
  refine aw_iadd dX9_visitor_132 ?_
  refine aw_toe 1 (by decide) ?_
  refine aw_putQ fX9_227 dX9_visitor_133 [.ref (G.1 + 89), .ref (G.1 + 90), .ref (G.1 + 91), .ref (G.1 + 92), .ref (G.1 + 93), .ref (G.1 + 94), .ref (G.1 + 95), .ref (G.1 + 96), .ref (G.1 + 97), .ref (G.1 + 98), .int 5, .int 1, .int 0, .ref (G.1 + 99), .ref (G.1 + 100), .ref (G.1 + 101), .ref (G.1 + 102), .int 0, .int 0, .ref (G.1 + 103), .ref (G.1 + 104), .ref (G.1 + 105), .ref (G.1 + 106), .ref (G.1 + 107), .ref (G.1 + 108), .ref (G.1 + 109), .ref (G.1 + 110), .ref (G.1 + 111), .ref (G.1 + 112), .ref (G.1 + 113), .ref (G.1 + 114), .ref (G.1 + 115), .int 0, .int 0, .int 0, .int 1, .ref (G.1 + 116), .ref (G.1 + 117), .ref (G.1 + 118), .ref (G.1 + 119), .ref (G.1 + 120), .ref (G.1 + 121), .ref (G.1 + 122), .int 0, .ref (G.1 + 123), .ref (G.1 + 124)] (gn (by decide) (gn (by decide) (gn (by decide) (gn (by decide) (hM.1))))) rfl rfl rfl (Nat.le_of_ble_eq_true rfl) rfl ?_
  refine aw_aload_n 0 dX9_visitor_136 rfl rfl ?_
  refine aw_get fX9_227 dX9_visitor_137 (gs (gn (by decide) (gn (by decide) (gn (by decide) (gn (by decide) (hM.1)))))) rfl ?_
  refine aw_iconst (1) dX9_visitor_140 (by decide) ?_
  refine aw_isub dX9_visitor_141 ?_
  refine aw_toe 0 (by decide) ?_
  exact aw_iret rfl dX9_visitor_142 (by decide) (by decide) ⟨rfl, trivial⟩
set_option maxHeartbeats 4000000 in
theorem A20y1 {l : Launch} {G : xG} {h : List va_E} {s x y v : Int32} (hF : xF8 G h) (hs : s.toInt = 1)(hx : 0 ≤ x.toInt ∧ x.toInt < 12)(hy : ¬ (0 ≤ y.toInt ∧ y.toInt < 12)) : CE l G yX8_visitor cX8_visitor 5 (some .int) 2 0 0 [.ref (G.1 + 0), .int s, .int x, .int y, .int v] h (some (.int (-1))) (kp h) := by
  refine cm_of rfl (Nat.le_of_ble_eq_true rfl) [(0, .ref (G.1 + 0)), (1, .int s), (2, .int x), (3, .int y), (4, .int v)] rfl ?_
  refine aw_iload_n 1 dX8_visitor_0 rfl rfl ?_
  refine aw_if_lt 9 dX8_visitor_1 (by decide) (fun c1 => absurd c1 (by simp only [i_lt, (show (0 : Int32).toInt = 0 from rfl)] <;> omega)) (fun c1 => ?_)
  refine aw_iload_n 1 dX8_visitor_4 rfl rfl ?_
  refine aw_iconst (3) dX8_visitor_5 (by decide) ?_
  refine aw_icmp_le 16 dX8_visitor_6 (by decide) (fun c6 => ?_) (fun c6 => absurd (by simp only [i_le, (show (3 : Int32).toInt = 3 from rfl)] <;> omega) c6)
  refine aw_iload_n 2 dX8_visitor_16 rfl rfl ?_
  refine aw_dS [.int x] [] lX8_154 sX8_isThing mX8_isThing dX8_visitor_17 (X8_isThing_t (by omega)) rfl (Nat.le_of_ble_eq_true rfl) (by decide) (by decide) rfl ?_
  refine aw_if_eq 42 dX8_visitor_20 (by decide) (fun c20 => absurd c20 (by decide)) (fun c20 => ?_)
  refine aw_iload_n 1 dX8_visitor_23 rfl rfl ?_
  refine aw_dS [.int s] [] lX8_201 sX8_needsTwo mX8_needsTwo dX8_visitor_24 (X8_needsTwo_t1 (by omega)) rfl (Nat.le_of_ble_eq_true rfl) (by decide) (by decide) rfl ?_
  refine aw_if_eq 48 dX8_visitor_27 (by decide) (fun c27 => absurd c27 (by decide)) (fun c27 => ?_)
  refine aw_iload_n 3 dX8_visitor_30 rfl rfl ?_
  refine aw_dS [.int y] [] lX8_154 sX8_isThing mX8_isThing dX8_visitor_31 (X8_isThing_f (by omega)) rfl (Nat.le_of_ble_eq_true rfl) (by decide) (by decide) rfl ?_
  refine aw_if_eq 42 dX8_visitor_34 (by decide) (fun c34 => ?_) (fun c34 => absurd (by decide) c34)
  refine aw_aload_n 0 dX8_visitor_42 rfl rfl ?_
  refine aw_iconst (-1) dX8_visitor_43 (by decide) ?_
  refine aw_eV [.int (-1)] [] lX8_70 vX8_refuse mX8_refuse dX8_visitor_44 (X8_refuse1 hF) hF.1 rfl rfl rfl (Nat.le_of_ble_eq_true rfl) (by decide) (by decide) rfl (fun h97 q98 => ?_)
  exact aw_iret rfl dX8_visitor_47 (by decide) (by decide) ⟨rfl, (kp_tr (kp_rf h) q98)⟩
set_option maxHeartbeats 4000000 in
theorem B20y1 {l : Launch} {G : xG} {h : List va_E} {s x y v : Int32} (hM : xF9 G h) (hs : s.toInt = 1)(hx : 0 ≤ x.toInt ∧ x.toInt < 12)(hy : ¬ (0 ≤ y.toInt ∧ y.toInt < 12)) : CE l G yX9_visitor cX9_visitor 5 (some .int) 2 0 0 [.ref (G.1 + 88), .int s, .int x, .int y, .int v] h (some (.int (-1))) (fun _ => True) := by
  refine cm_of rfl (Nat.le_of_ble_eq_true rfl) [(0, .ref (G.1 + 88)), (1, .int s), (2, .int x), (3, .int y), (4, .int v)] rfl ?_
  refine aw_iload_n 1 dX9_visitor_0 rfl rfl ?_
  refine aw_iconst (4) dX9_visitor_1 (by decide) ?_
  refine aw_dS [.int s, .int 4] [] lX9_126 sX9_isIn mX9_isIn dX9_visitor_2 (X9_isIn4_t (by omega)) rfl (Nat.le_of_ble_eq_true rfl) (by decide) (by decide) rfl ?_
  refine aw_if_ne 15 dX9_visitor_5 (by decide) (fun c5 => ?_) (fun c5 => absurd c5 (by decide))
  refine aw_iload_n 2 dX9_visitor_15 rfl rfl ?_
  refine aw_bipush (12) dX9_visitor_16 (by decide) ?_
  refine aw_dS [.int x, .int 12] [] lX9_126 sX9_isIn mX9_isIn dX9_visitor_18 (X9_isIn12_t (by omega)) rfl (Nat.le_of_ble_eq_true rfl) (by decide) (by decide) rfl ?_
  refine aw_if_eq 43 dX9_visitor_21 (by decide) (fun c21 => absurd c21 (by decide)) (fun c21 => ?_)
  refine aw_iload_n 1 dX9_visitor_24 rfl rfl ?_
  refine aw_iconst (2) dX9_visitor_25 (by decide) ?_
  refine aw_icmp_ge 49 dX9_visitor_26 (by decide) (fun c26 => absurd c26 (by simp only [i_le, (show (2 : Int32).toInt = 2 from rfl)] <;> omega)) (fun c26 => ?_)
  refine aw_iload_n 3 dX9_visitor_29 rfl rfl ?_
  refine aw_bipush (12) dX9_visitor_30 (by decide) ?_
  refine aw_dS [.int y, .int 12] [] lX9_126 sX9_isIn mX9_isIn dX9_visitor_32 (X9_isIn12_f (by omega)) rfl (Nat.le_of_ble_eq_true rfl) (by decide) (by decide) rfl ?_
  refine aw_if_eq 43 dX9_visitor_35 (by decide) (fun c35 => ?_) (fun c35 => absurd (by decide) c35)
  refine aw_aload_n 0 dX9_visitor_43 rfl rfl ?_
  refine aw_iconst (-1) dX9_visitor_44 (by decide) ?_
  refine aw_eV [.int (-1)] [] lX9_130 vX9_refuse mX9_refuse dX9_visitor_45 (X9_refuse1 hM) hM.1 rfl rfl rfl (Nat.le_of_ble_eq_true rfl) (by decide) (by decide) rfl (fun h99 q100 => ?_)
  exact aw_iret rfl dX9_visitor_48 (by decide) (by decide) ⟨rfl, trivial⟩
set_option maxHeartbeats 4000000 in
theorem A20z1 {l : Launch} {G : xG} {h : List va_E} {s x y v : Int32} (hF : xF8 G h) (hs : s.toInt = 1)(hx : 0 ≤ x.toInt ∧ x.toInt < 12)(hy : 0 ≤ y.toInt ∧ y.toInt < 12)(hxy : x.toInt = y.toInt) : CE l G yX8_visitor cX8_visitor 5 (some .int) 2 0 0 [.ref (G.1 + 0), .int s, .int x, .int y, .int v] h (some (.int (-1))) (kp h) := by
  refine cm_of rfl (Nat.le_of_ble_eq_true rfl) [(0, .ref (G.1 + 0)), (1, .int s), (2, .int x), (3, .int y), (4, .int v)] rfl ?_
  refine aw_iload_n 1 dX8_visitor_0 rfl rfl ?_
  refine aw_if_lt 9 dX8_visitor_1 (by decide) (fun c1 => absurd c1 (by simp only [i_lt, (show (0 : Int32).toInt = 0 from rfl)] <;> omega)) (fun c1 => ?_)
  refine aw_iload_n 1 dX8_visitor_4 rfl rfl ?_
  refine aw_iconst (3) dX8_visitor_5 (by decide) ?_
  refine aw_icmp_le 16 dX8_visitor_6 (by decide) (fun c6 => ?_) (fun c6 => absurd (by simp only [i_le, (show (3 : Int32).toInt = 3 from rfl)] <;> omega) c6)
  refine aw_iload_n 2 dX8_visitor_16 rfl rfl ?_
  refine aw_dS [.int x] [] lX8_154 sX8_isThing mX8_isThing dX8_visitor_17 (X8_isThing_t (by omega)) rfl (Nat.le_of_ble_eq_true rfl) (by decide) (by decide) rfl ?_
  refine aw_if_eq 42 dX8_visitor_20 (by decide) (fun c20 => absurd c20 (by decide)) (fun c20 => ?_)
  refine aw_iload_n 1 dX8_visitor_23 rfl rfl ?_
  refine aw_dS [.int s] [] lX8_201 sX8_needsTwo mX8_needsTwo dX8_visitor_24 (X8_needsTwo_t1 (by omega)) rfl (Nat.le_of_ble_eq_true rfl) (by decide) (by decide) rfl ?_
  refine aw_if_eq 48 dX8_visitor_27 (by decide) (fun c27 => absurd c27 (by decide)) (fun c27 => ?_)
  refine aw_iload_n 3 dX8_visitor_30 rfl rfl ?_
  refine aw_dS [.int y] [] lX8_154 sX8_isThing mX8_isThing dX8_visitor_31 (X8_isThing_t (by omega)) rfl (Nat.le_of_ble_eq_true rfl) (by decide) (by decide) rfl ?_
  refine aw_if_eq 42 dX8_visitor_34 (by decide) (fun c34 => absurd c34 (by decide)) (fun c34 => ?_)
  refine aw_iload_n 2 dX8_visitor_37 rfl rfl ?_
  refine aw_iload_n 3 dX8_visitor_38 rfl rfl ?_
  refine aw_icmp_ne 48 dX8_visitor_39 (by decide) (fun c39 => absurd (by simp only [i_eq] <;> omega) c39) (fun c39 => ?_)
  refine aw_aload_n 0 dX8_visitor_42 rfl rfl ?_
  refine aw_iconst (-1) dX8_visitor_43 (by decide) ?_
  refine aw_eV [.int (-1)] [] lX8_70 vX8_refuse mX8_refuse dX8_visitor_44 (X8_refuse1 hF) hF.1 rfl rfl rfl (Nat.le_of_ble_eq_true rfl) (by decide) (by decide) rfl (fun h101 q102 => ?_)
  exact aw_iret rfl dX8_visitor_47 (by decide) (by decide) ⟨rfl, (kp_tr (kp_rf h) q102)⟩
set_option maxHeartbeats 4000000 in
theorem B20z1 {l : Launch} {G : xG} {h : List va_E} {s x y v : Int32} (hM : xF9 G h) (hs : s.toInt = 1)(hx : 0 ≤ x.toInt ∧ x.toInt < 12)(hy : 0 ≤ y.toInt ∧ y.toInt < 12)(hxy : x.toInt = y.toInt) : CE l G yX9_visitor cX9_visitor 5 (some .int) 2 0 0 [.ref (G.1 + 88), .int s, .int x, .int y, .int v] h (some (.int (-1))) (fun _ => True) := by
  refine cm_of rfl (Nat.le_of_ble_eq_true rfl) [(0, .ref (G.1 + 88)), (1, .int s), (2, .int x), (3, .int y), (4, .int v)] rfl ?_
  refine aw_iload_n 1 dX9_visitor_0 rfl rfl ?_
  refine aw_iconst (4) dX9_visitor_1 (by decide) ?_
  refine aw_dS [.int s, .int 4] [] lX9_126 sX9_isIn mX9_isIn dX9_visitor_2 (X9_isIn4_t (by omega)) rfl (Nat.le_of_ble_eq_true rfl) (by decide) (by decide) rfl ?_
  refine aw_if_ne 15 dX9_visitor_5 (by decide) (fun c5 => ?_) (fun c5 => absurd c5 (by decide))
  refine aw_iload_n 2 dX9_visitor_15 rfl rfl ?_
  refine aw_bipush (12) dX9_visitor_16 (by decide) ?_
  refine aw_dS [.int x, .int 12] [] lX9_126 sX9_isIn mX9_isIn dX9_visitor_18 (X9_isIn12_t (by omega)) rfl (Nat.le_of_ble_eq_true rfl) (by decide) (by decide) rfl ?_
  refine aw_if_eq 43 dX9_visitor_21 (by decide) (fun c21 => absurd c21 (by decide)) (fun c21 => ?_)
  refine aw_iload_n 1 dX9_visitor_24 rfl rfl ?_
  refine aw_iconst (2) dX9_visitor_25 (by decide) ?_
  refine aw_icmp_ge 49 dX9_visitor_26 (by decide) (fun c26 => absurd c26 (by simp only [i_le, (show (2 : Int32).toInt = 2 from rfl)] <;> omega)) (fun c26 => ?_)
  refine aw_iload_n 3 dX9_visitor_29 rfl rfl ?_
  refine aw_bipush (12) dX9_visitor_30 (by decide) ?_
  refine aw_dS [.int y, .int 12] [] lX9_126 sX9_isIn mX9_isIn dX9_visitor_32 (X9_isIn12_t (by omega)) rfl (Nat.le_of_ble_eq_true rfl) (by decide) (by decide) rfl ?_
  refine aw_if_eq 43 dX9_visitor_35 (by decide) (fun c35 => absurd c35 (by decide)) (fun c35 => ?_)
  refine aw_iload_n 2 dX9_visitor_38 rfl rfl ?_
  refine aw_iload_n 3 dX9_visitor_39 rfl rfl ?_
  refine aw_icmp_ne 49 dX9_visitor_40 (by decide) (fun c40 => absurd (by simp only [i_eq] <;> omega) c40) (fun c40 => ?_)
  refine aw_aload_n 0 dX9_visitor_43 rfl rfl ?_
  refine aw_iconst (-1) dX9_visitor_44 (by decide) ?_
  refine aw_eV [.int (-1)] [] lX9_130 vX9_refuse mX9_refuse dX9_visitor_45 (X9_refuse1 hM) hM.1 rfl rfl rfl (Nat.le_of_ble_eq_true rfl) (by decide) (by decide) rfl (fun h103 q104 => ?_)
  exact aw_iret rfl dX9_visitor_48 (by decide) (by decide) ⟨rfl, trivial⟩
set_option maxHeartbeats 4000000 in
theorem A20a1 {l : Launch} {G : xG} {h : List va_E} {s x y v : Int32} (hF : xF8 G h) (hs : s.toInt = 1)(hx : 0 ≤ x.toInt ∧ x.toInt < 12)(hy : 0 ≤ y.toInt ∧ y.toInt < 12)(hxy : x.toInt ≠ y.toInt)(hv : v.toInt < 1) : CE l G yX8_visitor cX8_visitor 5 (some .int) 2 0 0 [.ref (G.1 + 0), .int s, .int x, .int y, .int v] h (some (.int (-4))) (kp h) := by
  refine cm_of rfl (Nat.le_of_ble_eq_true rfl) [(0, .ref (G.1 + 0)), (1, .int s), (2, .int x), (3, .int y), (4, .int v)] rfl ?_
  refine aw_iload_n 1 dX8_visitor_0 rfl rfl ?_
  refine aw_if_lt 9 dX8_visitor_1 (by decide) (fun c1 => absurd c1 (by simp only [i_lt, (show (0 : Int32).toInt = 0 from rfl)] <;> omega)) (fun c1 => ?_)
  refine aw_iload_n 1 dX8_visitor_4 rfl rfl ?_
  refine aw_iconst (3) dX8_visitor_5 (by decide) ?_
  refine aw_icmp_le 16 dX8_visitor_6 (by decide) (fun c6 => ?_) (fun c6 => absurd (by simp only [i_le, (show (3 : Int32).toInt = 3 from rfl)] <;> omega) c6)
  refine aw_iload_n 2 dX8_visitor_16 rfl rfl ?_
  refine aw_dS [.int x] [] lX8_154 sX8_isThing mX8_isThing dX8_visitor_17 (X8_isThing_t (by omega)) rfl (Nat.le_of_ble_eq_true rfl) (by decide) (by decide) rfl ?_
  refine aw_if_eq 42 dX8_visitor_20 (by decide) (fun c20 => absurd c20 (by decide)) (fun c20 => ?_)
  refine aw_iload_n 1 dX8_visitor_23 rfl rfl ?_
  refine aw_dS [.int s] [] lX8_201 sX8_needsTwo mX8_needsTwo dX8_visitor_24 (X8_needsTwo_t1 (by omega)) rfl (Nat.le_of_ble_eq_true rfl) (by decide) (by decide) rfl ?_
  refine aw_if_eq 48 dX8_visitor_27 (by decide) (fun c27 => absurd c27 (by decide)) (fun c27 => ?_)
  refine aw_iload_n 3 dX8_visitor_30 rfl rfl ?_
  refine aw_dS [.int y] [] lX8_154 sX8_isThing mX8_isThing dX8_visitor_31 (X8_isThing_t (by omega)) rfl (Nat.le_of_ble_eq_true rfl) (by decide) (by decide) rfl ?_
  refine aw_if_eq 42 dX8_visitor_34 (by decide) (fun c34 => absurd c34 (by decide)) (fun c34 => ?_)
  refine aw_iload_n 2 dX8_visitor_37 rfl rfl ?_
  refine aw_iload_n 3 dX8_visitor_38 rfl rfl ?_
  refine aw_icmp_ne 48 dX8_visitor_39 (by decide) (fun c39 => ?_) (fun c39 => absurd c39 (by simp only [i_eq] <;> omega))
  refine aw_iload 4 dX8_visitor_48 rfl ?_
  refine aw_iconst (1) dX8_visitor_50 (by decide) ?_
  refine aw_icmp_ge 61 dX8_visitor_51 (by decide) (fun c51 => absurd c51 (by simp only [i_le, (show (1 : Int32).toInt = 1 from rfl)] <;> omega)) (fun c51 => ?_)
  refine aw_aload_n 0 dX8_visitor_54 rfl rfl ?_
  refine aw_bipush (-4) dX8_visitor_55 (by decide) ?_
  refine aw_eV [.int (-4)] [] lX8_70 vX8_refuse mX8_refuse dX8_visitor_57 (X8_refuse4 hF) hF.1 rfl rfl rfl (Nat.le_of_ble_eq_true rfl) (by decide) (by decide) rfl (fun h105 q106 => ?_)
  exact aw_iret rfl dX8_visitor_60 (by decide) (by decide) ⟨rfl, (kp_tr (kp_rf h) q106)⟩
set_option maxHeartbeats 4000000 in
theorem B20a1 {l : Launch} {G : xG} {h : List va_E} {s x y v : Int32} (hM : xF9 G h) (hs : s.toInt = 1)(hx : 0 ≤ x.toInt ∧ x.toInt < 12)(hy : 0 ≤ y.toInt ∧ y.toInt < 12)(hxy : x.toInt ≠ y.toInt)(hv : v.toInt < 1) : CE l G yX9_visitor cX9_visitor 5 (some .int) 2 0 0 [.ref (G.1 + 88), .int s, .int x, .int y, .int v] h (some (.int (-4))) (fun _ => True) := by
  refine cm_of rfl (Nat.le_of_ble_eq_true rfl) [(0, .ref (G.1 + 88)), (1, .int s), (2, .int x), (3, .int y), (4, .int v)] rfl ?_
  refine aw_iload_n 1 dX9_visitor_0 rfl rfl ?_
  refine aw_iconst (4) dX9_visitor_1 (by decide) ?_
  refine aw_dS [.int s, .int 4] [] lX9_126 sX9_isIn mX9_isIn dX9_visitor_2 (X9_isIn4_t (by omega)) rfl (Nat.le_of_ble_eq_true rfl) (by decide) (by decide) rfl ?_
  refine aw_if_ne 15 dX9_visitor_5 (by decide) (fun c5 => ?_) (fun c5 => absurd c5 (by decide))
  refine aw_iload_n 2 dX9_visitor_15 rfl rfl ?_
  refine aw_bipush (12) dX9_visitor_16 (by decide) ?_
  refine aw_dS [.int x, .int 12] [] lX9_126 sX9_isIn mX9_isIn dX9_visitor_18 (X9_isIn12_t (by omega)) rfl (Nat.le_of_ble_eq_true rfl) (by decide) (by decide) rfl ?_
  refine aw_if_eq 43 dX9_visitor_21 (by decide) (fun c21 => absurd c21 (by decide)) (fun c21 => ?_)
  refine aw_iload_n 1 dX9_visitor_24 rfl rfl ?_
  refine aw_iconst (2) dX9_visitor_25 (by decide) ?_
  refine aw_icmp_ge 49 dX9_visitor_26 (by decide) (fun c26 => absurd c26 (by simp only [i_le, (show (2 : Int32).toInt = 2 from rfl)] <;> omega)) (fun c26 => ?_)
  refine aw_iload_n 3 dX9_visitor_29 rfl rfl ?_
  refine aw_bipush (12) dX9_visitor_30 (by decide) ?_
  refine aw_dS [.int y, .int 12] [] lX9_126 sX9_isIn mX9_isIn dX9_visitor_32 (X9_isIn12_t (by omega)) rfl (Nat.le_of_ble_eq_true rfl) (by decide) (by decide) rfl ?_
  refine aw_if_eq 43 dX9_visitor_35 (by decide) (fun c35 => absurd c35 (by decide)) (fun c35 => ?_)
  refine aw_iload_n 2 dX9_visitor_38 rfl rfl ?_
  refine aw_iload_n 3 dX9_visitor_39 rfl rfl ?_
  refine aw_icmp_ne 49 dX9_visitor_40 (by decide) (fun c40 => ?_) (fun c40 => absurd c40 (by simp only [i_eq] <;> omega))
  refine aw_iload 4 dX9_visitor_49 rfl ?_
  refine aw_iconst (1) dX9_visitor_51 (by decide) ?_
  refine aw_icmp_ge 62 dX9_visitor_52 (by decide) (fun c52 => absurd c52 (by simp only [i_le, (show (1 : Int32).toInt = 1 from rfl)] <;> omega)) (fun c52 => ?_)
  refine aw_aload_n 0 dX9_visitor_55 rfl rfl ?_
  refine aw_bipush (-4) dX9_visitor_56 (by decide) ?_
  refine aw_eV [.int (-4)] [] lX9_130 vX9_refuse mX9_refuse dX9_visitor_58 (X9_refuse4 hM) hM.1 rfl rfl rfl (Nat.le_of_ble_eq_true rfl) (by decide) (by decide) rfl (fun h107 q108 => ?_)
  exact aw_iret rfl dX9_visitor_61 (by decide) (by decide) ⟨rfl, trivial⟩
set_option maxHeartbeats 4000000 in
theorem A20b1 {l : Launch} {G : xG} {h : List va_E} {s x y v : Int32} (hF : xF8 G h) (hs : s.toInt = 1)(hx : 0 ≤ x.toInt ∧ x.toInt < 12)(hy : 0 ≤ y.toInt ∧ y.toInt < 12)(hxy : x.toInt ≠ y.toInt)(hv : 9 < v.toInt) : CE l G yX8_visitor cX8_visitor 5 (some .int) 2 0 0 [.ref (G.1 + 0), .int s, .int x, .int y, .int v] h (some (.int (-6))) (kp h) := by
  refine cm_of rfl (Nat.le_of_ble_eq_true rfl) [(0, .ref (G.1 + 0)), (1, .int s), (2, .int x), (3, .int y), (4, .int v)] rfl ?_
  refine aw_iload_n 1 dX8_visitor_0 rfl rfl ?_
  refine aw_if_lt 9 dX8_visitor_1 (by decide) (fun c1 => absurd c1 (by simp only [i_lt, (show (0 : Int32).toInt = 0 from rfl)] <;> omega)) (fun c1 => ?_)
  refine aw_iload_n 1 dX8_visitor_4 rfl rfl ?_
  refine aw_iconst (3) dX8_visitor_5 (by decide) ?_
  refine aw_icmp_le 16 dX8_visitor_6 (by decide) (fun c6 => ?_) (fun c6 => absurd (by simp only [i_le, (show (3 : Int32).toInt = 3 from rfl)] <;> omega) c6)
  refine aw_iload_n 2 dX8_visitor_16 rfl rfl ?_
  refine aw_dS [.int x] [] lX8_154 sX8_isThing mX8_isThing dX8_visitor_17 (X8_isThing_t (by omega)) rfl (Nat.le_of_ble_eq_true rfl) (by decide) (by decide) rfl ?_
  refine aw_if_eq 42 dX8_visitor_20 (by decide) (fun c20 => absurd c20 (by decide)) (fun c20 => ?_)
  refine aw_iload_n 1 dX8_visitor_23 rfl rfl ?_
  refine aw_dS [.int s] [] lX8_201 sX8_needsTwo mX8_needsTwo dX8_visitor_24 (X8_needsTwo_t1 (by omega)) rfl (Nat.le_of_ble_eq_true rfl) (by decide) (by decide) rfl ?_
  refine aw_if_eq 48 dX8_visitor_27 (by decide) (fun c27 => absurd c27 (by decide)) (fun c27 => ?_)
  refine aw_iload_n 3 dX8_visitor_30 rfl rfl ?_
  refine aw_dS [.int y] [] lX8_154 sX8_isThing mX8_isThing dX8_visitor_31 (X8_isThing_t (by omega)) rfl (Nat.le_of_ble_eq_true rfl) (by decide) (by decide) rfl ?_
  refine aw_if_eq 42 dX8_visitor_34 (by decide) (fun c34 => absurd c34 (by decide)) (fun c34 => ?_)
  refine aw_iload_n 2 dX8_visitor_37 rfl rfl ?_
  refine aw_iload_n 3 dX8_visitor_38 rfl rfl ?_
  refine aw_icmp_ne 48 dX8_visitor_39 (by decide) (fun c39 => ?_) (fun c39 => absurd c39 (by simp only [i_eq] <;> omega))
  refine aw_iload 4 dX8_visitor_48 rfl ?_
  refine aw_iconst (1) dX8_visitor_50 (by decide) ?_
  refine aw_icmp_ge 61 dX8_visitor_51 (by decide) (fun c51 => ?_) (fun c51 => absurd (by simp only [i_le, (show (1 : Int32).toInt = 1 from rfl)] <;> omega) c51)
  refine aw_iload 4 dX8_visitor_61 rfl ?_
  refine aw_bipush (9) dX8_visitor_63 (by decide) ?_
  refine aw_icmp_gt 80 dX8_visitor_65 (by decide) (fun c65 => ?_) (fun c65 => absurd (by simp only [i_lt, (show (9 : Int32).toInt = 9 from rfl)] <;> omega) c65)
  refine aw_aload_n 0 dX8_visitor_80 rfl rfl ?_
  refine aw_bipush (-6) dX8_visitor_81 (by decide) ?_
  refine aw_eV [.int (-6)] [] lX8_70 vX8_refuse mX8_refuse dX8_visitor_83 (X8_refuse6 hF) hF.1 rfl rfl rfl (Nat.le_of_ble_eq_true rfl) (by decide) (by decide) rfl (fun h109 q110 => ?_)
  exact aw_iret rfl dX8_visitor_86 (by decide) (by decide) ⟨rfl, (kp_tr (kp_rf h) q110)⟩
set_option maxHeartbeats 4000000 in
theorem B20b1 {l : Launch} {G : xG} {h : List va_E} {s x y v : Int32} (hM : xF9 G h) (hs : s.toInt = 1)(hx : 0 ≤ x.toInt ∧ x.toInt < 12)(hy : 0 ≤ y.toInt ∧ y.toInt < 12)(hxy : x.toInt ≠ y.toInt)(hv : 9 < v.toInt) : CE l G yX9_visitor cX9_visitor 5 (some .int) 2 0 0 [.ref (G.1 + 88), .int s, .int x, .int y, .int v] h (some (.int (-6))) (fun _ => True) := by
  refine cm_of rfl (Nat.le_of_ble_eq_true rfl) [(0, .ref (G.1 + 88)), (1, .int s), (2, .int x), (3, .int y), (4, .int v)] rfl ?_
  refine aw_iload_n 1 dX9_visitor_0 rfl rfl ?_
  refine aw_iconst (4) dX9_visitor_1 (by decide) ?_
  refine aw_dS [.int s, .int 4] [] lX9_126 sX9_isIn mX9_isIn dX9_visitor_2 (X9_isIn4_t (by omega)) rfl (Nat.le_of_ble_eq_true rfl) (by decide) (by decide) rfl ?_
  refine aw_if_ne 15 dX9_visitor_5 (by decide) (fun c5 => ?_) (fun c5 => absurd c5 (by decide))
  refine aw_iload_n 2 dX9_visitor_15 rfl rfl ?_
  refine aw_bipush (12) dX9_visitor_16 (by decide) ?_
  refine aw_dS [.int x, .int 12] [] lX9_126 sX9_isIn mX9_isIn dX9_visitor_18 (X9_isIn12_t (by omega)) rfl (Nat.le_of_ble_eq_true rfl) (by decide) (by decide) rfl ?_
  refine aw_if_eq 43 dX9_visitor_21 (by decide) (fun c21 => absurd c21 (by decide)) (fun c21 => ?_)
  refine aw_iload_n 1 dX9_visitor_24 rfl rfl ?_
  refine aw_iconst (2) dX9_visitor_25 (by decide) ?_
  refine aw_icmp_ge 49 dX9_visitor_26 (by decide) (fun c26 => absurd c26 (by simp only [i_le, (show (2 : Int32).toInt = 2 from rfl)] <;> omega)) (fun c26 => ?_)
  refine aw_iload_n 3 dX9_visitor_29 rfl rfl ?_
  refine aw_bipush (12) dX9_visitor_30 (by decide) ?_
  refine aw_dS [.int y, .int 12] [] lX9_126 sX9_isIn mX9_isIn dX9_visitor_32 (X9_isIn12_t (by omega)) rfl (Nat.le_of_ble_eq_true rfl) (by decide) (by decide) rfl ?_
  refine aw_if_eq 43 dX9_visitor_35 (by decide) (fun c35 => absurd c35 (by decide)) (fun c35 => ?_)
  refine aw_iload_n 2 dX9_visitor_38 rfl rfl ?_
  refine aw_iload_n 3 dX9_visitor_39 rfl rfl ?_
  refine aw_icmp_ne 49 dX9_visitor_40 (by decide) (fun c40 => ?_) (fun c40 => absurd c40 (by simp only [i_eq] <;> omega))
  refine aw_iload 4 dX9_visitor_49 rfl ?_
  refine aw_iconst (1) dX9_visitor_51 (by decide) ?_
  refine aw_icmp_ge 62 dX9_visitor_52 (by decide) (fun c52 => ?_) (fun c52 => absurd (by simp only [i_le, (show (1 : Int32).toInt = 1 from rfl)] <;> omega) c52)
  refine aw_iload 4 dX9_visitor_62 rfl ?_
  refine aw_bipush (9) dX9_visitor_64 (by decide) ?_
  refine aw_icmp_gt 78 dX9_visitor_66 (by decide) (fun c66 => ?_) (fun c66 => absurd (by simp only [i_lt, (show (9 : Int32).toInt = 9 from rfl)] <;> omega) c66)
  refine aw_aload_n 0 dX9_visitor_78 rfl rfl ?_
  refine aw_bipush (-6) dX9_visitor_79 (by decide) ?_
  refine aw_eV [.int (-6)] [] lX9_130 vX9_refuse mX9_refuse dX9_visitor_81 (X9_refuse6 hM) hM.1 rfl rfl rfl (Nat.le_of_ble_eq_true rfl) (by decide) (by decide) rfl (fun h111 q112 => ?_)
  exact aw_iret rfl dX9_visitor_84 (by decide) (by decide) ⟨rfl, trivial⟩
set_option maxHeartbeats 4000000 in
theorem A20o1 {l : Launch} {G : xG} {h : List va_E} {s x y v : Int32} (hF : xF8 G h) (hs : s.toInt = 1)(hx : 0 ≤ x.toInt ∧ x.toInt < 12)(hy : 0 ≤ y.toInt ∧ y.toInt < 12)(hxy : x.toInt ≠ y.toInt)(hv : 1 ≤ v.toInt ∧ v.toInt ≤ 9) : CE l G yX8_visitor cX8_visitor 5 (some .int) 2 0 0 [.ref (G.1 + 0), .int s, .int x, .int y, .int v] h (some (.int 0)) (kp h) := by
  refine cm_of rfl (Nat.le_of_ble_eq_true rfl) [(0, .ref (G.1 + 0)), (1, .int s), (2, .int x), (3, .int y), (4, .int v)] rfl ?_
  refine aw_iload_n 1 dX8_visitor_0 rfl rfl ?_
  refine aw_if_lt 9 dX8_visitor_1 (by decide) (fun c1 => absurd c1 (by simp only [i_lt, (show (0 : Int32).toInt = 0 from rfl)] <;> omega)) (fun c1 => ?_)
  refine aw_iload_n 1 dX8_visitor_4 rfl rfl ?_
  refine aw_iconst (3) dX8_visitor_5 (by decide) ?_
  refine aw_icmp_le 16 dX8_visitor_6 (by decide) (fun c6 => ?_) (fun c6 => absurd (by simp only [i_le, (show (3 : Int32).toInt = 3 from rfl)] <;> omega) c6)
  refine aw_iload_n 2 dX8_visitor_16 rfl rfl ?_
  refine aw_dS [.int x] [] lX8_154 sX8_isThing mX8_isThing dX8_visitor_17 (X8_isThing_t (by omega)) rfl (Nat.le_of_ble_eq_true rfl) (by decide) (by decide) rfl ?_
  refine aw_if_eq 42 dX8_visitor_20 (by decide) (fun c20 => absurd c20 (by decide)) (fun c20 => ?_)
  refine aw_iload_n 1 dX8_visitor_23 rfl rfl ?_
  refine aw_dS [.int s] [] lX8_201 sX8_needsTwo mX8_needsTwo dX8_visitor_24 (X8_needsTwo_t1 (by omega)) rfl (Nat.le_of_ble_eq_true rfl) (by decide) (by decide) rfl ?_
  refine aw_if_eq 48 dX8_visitor_27 (by decide) (fun c27 => absurd c27 (by decide)) (fun c27 => ?_)
  refine aw_iload_n 3 dX8_visitor_30 rfl rfl ?_
  refine aw_dS [.int y] [] lX8_154 sX8_isThing mX8_isThing dX8_visitor_31 (X8_isThing_t (by omega)) rfl (Nat.le_of_ble_eq_true rfl) (by decide) (by decide) rfl ?_
  refine aw_if_eq 42 dX8_visitor_34 (by decide) (fun c34 => absurd c34 (by decide)) (fun c34 => ?_)
  refine aw_iload_n 2 dX8_visitor_37 rfl rfl ?_
  refine aw_iload_n 3 dX8_visitor_38 rfl rfl ?_
  refine aw_icmp_ne 48 dX8_visitor_39 (by decide) (fun c39 => ?_) (fun c39 => absurd c39 (by simp only [i_eq] <;> omega))
  refine aw_iload 4 dX8_visitor_48 rfl ?_
  refine aw_iconst (1) dX8_visitor_50 (by decide) ?_
  refine aw_icmp_ge 61 dX8_visitor_51 (by decide) (fun c51 => ?_) (fun c51 => absurd (by simp only [i_le, (show (1 : Int32).toInt = 1 from rfl)] <;> omega) c51)
  refine aw_iload 4 dX8_visitor_61 rfl ?_
  refine aw_bipush (9) dX8_visitor_63 (by decide) ?_
  refine aw_icmp_gt 80 dX8_visitor_65 (by decide) (fun c65 => absurd c65 (by simp only [i_lt, (show (9 : Int32).toInt = 9 from rfl)] <;> omega)) (fun c65 => ?_)
  refine aw_aload_n 0 dX8_visitor_68 rfl rfl ?_
  refine aw_get fX8_51 dX8_visitor_69 hF.1 rfl ?_
  refine aw_get fX8_204 dX8_visitor_72 hF.2.2.2.2.2.2.2.2.2.2.2.2.2.2.2.2.2.2.2.2.2.2.2.2.2.2.2.2.2.2.2.1 rfl ?_
  refine aw_bipush (40) dX8_visitor_75 (by decide) ?_
  refine aw_icmp_lt 87 dX8_visitor_77 (by decide) (fun c77 => ?_) (fun c77 => absurd (by decide) c77)
  refine aw_aload_n 0 dX8_visitor_87 rfl rfl ?_
  refine aw_get fX8_51 dX8_visitor_88 hF.1 rfl ?_
  refine aw_iload_n 1 dX8_visitor_91 rfl rfl ?_
  refine aw_iload_n 2 dX8_visitor_92 rfl rfl ?_
  refine aw_iload_n 1 dX8_visitor_93 rfl rfl ?_
  refine aw_dS [.int s] [.int x, .int s, .ref (G.1 + 79)] lX8_201 sX8_needsTwo mX8_needsTwo dX8_visitor_94 (X8_needsTwo_t1 (by omega)) rfl (Nat.le_of_ble_eq_true rfl) (by decide) (by decide) rfl ?_
  refine aw_if_eq 104 dX8_visitor_97 (by decide) (fun c97 => absurd c97 (by decide)) (fun c97 => ?_)
  refine aw_iload_n 3 dX8_visitor_100 rfl rfl ?_
  refine aw_goto 105 dX8_visitor_101 (by decide) ?_
  refine aw_iload 4 dX8_visitor_105 rfl ?_
  refine aw_eV [.int s, .int x, .int y, .int v] [] lX8_205 vX6_addSaying mX6_addSaying dX8_visitor_107 (X6_addSaying_o hF) hF.2.2.2.2.2.2.2.2.2.2.2.2.2.2.2.2.2.2.2.2.2.2.2.2.2.2.2.2.2.2.2.1 rfl rfl rfl (Nat.le_of_ble_eq_true rfl) (by decide) (by decide) rfl (fun h113 q114 => ?_)
  exact aw_iret rfl dX8_visitor_110 (by decide) (by decide) ⟨rfl, (kp_tr (kp_rf h) q114)⟩
set_option maxHeartbeats 4000000 in
theorem B20o1 {l : Launch} {G : xG} {h : List va_E} {s x y v : Int32} (hM : xF9 G h) (hs : s.toInt = 1)(hx : 0 ≤ x.toInt ∧ x.toInt < 12)(hy : 0 ≤ y.toInt ∧ y.toInt < 12)(hxy : x.toInt ≠ y.toInt)(hv : 1 ≤ v.toInt ∧ v.toInt ≤ 9) : CE l G yX9_visitor cX9_visitor 5 (some .int) 2 0 0 [.ref (G.1 + 88), .int s, .int x, .int y, .int v] h (some (.int 0)) (fun _ => True) := by
  refine cm_of rfl (Nat.le_of_ble_eq_true rfl) [(0, .ref (G.1 + 88)), (1, .int s), (2, .int x), (3, .int y), (4, .int v)] rfl ?_
  refine aw_iload_n 1 dX9_visitor_0 rfl rfl ?_
  refine aw_iconst (4) dX9_visitor_1 (by decide) ?_
  refine aw_dS [.int s, .int 4] [] lX9_126 sX9_isIn mX9_isIn dX9_visitor_2 (X9_isIn4_t (by omega)) rfl (Nat.le_of_ble_eq_true rfl) (by decide) (by decide) rfl ?_
  refine aw_if_ne 15 dX9_visitor_5 (by decide) (fun c5 => ?_) (fun c5 => absurd c5 (by decide))
  refine aw_iload_n 2 dX9_visitor_15 rfl rfl ?_
  refine aw_bipush (12) dX9_visitor_16 (by decide) ?_
  refine aw_dS [.int x, .int 12] [] lX9_126 sX9_isIn mX9_isIn dX9_visitor_18 (X9_isIn12_t (by omega)) rfl (Nat.le_of_ble_eq_true rfl) (by decide) (by decide) rfl ?_
  refine aw_if_eq 43 dX9_visitor_21 (by decide) (fun c21 => absurd c21 (by decide)) (fun c21 => ?_)
  refine aw_iload_n 1 dX9_visitor_24 rfl rfl ?_
  refine aw_iconst (2) dX9_visitor_25 (by decide) ?_
  refine aw_icmp_ge 49 dX9_visitor_26 (by decide) (fun c26 => absurd c26 (by simp only [i_le, (show (2 : Int32).toInt = 2 from rfl)] <;> omega)) (fun c26 => ?_)
  refine aw_iload_n 3 dX9_visitor_29 rfl rfl ?_
  refine aw_bipush (12) dX9_visitor_30 (by decide) ?_
  refine aw_dS [.int y, .int 12] [] lX9_126 sX9_isIn mX9_isIn dX9_visitor_32 (X9_isIn12_t (by omega)) rfl (Nat.le_of_ble_eq_true rfl) (by decide) (by decide) rfl ?_
  refine aw_if_eq 43 dX9_visitor_35 (by decide) (fun c35 => absurd c35 (by decide)) (fun c35 => ?_)
  refine aw_iload_n 2 dX9_visitor_38 rfl rfl ?_
  refine aw_iload_n 3 dX9_visitor_39 rfl rfl ?_
  refine aw_icmp_ne 49 dX9_visitor_40 (by decide) (fun c40 => ?_) (fun c40 => absurd c40 (by simp only [i_eq] <;> omega))
  refine aw_iload 4 dX9_visitor_49 rfl ?_
  refine aw_iconst (1) dX9_visitor_51 (by decide) ?_
  refine aw_icmp_ge 62 dX9_visitor_52 (by decide) (fun c52 => ?_) (fun c52 => absurd (by simp only [i_le, (show (1 : Int32).toInt = 1 from rfl)] <;> omega) c52)
  refine aw_iload 4 dX9_visitor_62 rfl ?_
  refine aw_bipush (9) dX9_visitor_64 (by decide) ?_
  refine aw_icmp_gt 78 dX9_visitor_66 (by decide) (fun c66 => absurd c66 (by simp only [i_lt, (show (9 : Int32).toInt = 9 from rfl)] <;> omega)) (fun c66 => ?_)
  refine aw_aload_n 0 dX9_visitor_69 rfl rfl ?_
  refine aw_get fX9_227 dX9_visitor_70 hM.1 rfl ?_
  refine aw_bipush (40) dX9_visitor_73 (by decide) ?_
  refine aw_icmp_ne 85 dX9_visitor_75 (by decide) (fun c75 => ?_) (fun c75 => absurd c75 (by decide))
  refine aw_aload_n 0 dX9_visitor_85 rfl rfl ?_
  refine aw_get fX9_98 dX9_visitor_86 hM.1 rfl ?_
  refine aw_aload_n 0 dX9_visitor_89 rfl rfl ?_
  refine aw_get fX9_227 dX9_visitor_90 hM.1 rfl ?_
  refine aw_iload_n 1 dX9_visitor_93 rfl rfl ?_
  refine aw_iast 0 (rfl) (by decide) (by decide) dX9_visitor_94 hM.2.2.2.2.2.2.2.2.2.2.2.2.2.2.2.2.2.2.2.2.2.2.2.2.2.2.2.2.1 ?_
  refine aw_aload_n 0 dX9_visitor_95 rfl rfl ?_
  refine aw_get fX9_101 dX9_visitor_96 (gn (by decide) (hM.1)) rfl ?_
  refine aw_aload_n 0 dX9_visitor_99 rfl rfl ?_
  refine aw_get fX9_227 dX9_visitor_100 (gn (by decide) (hM.1)) rfl ?_
  refine aw_iload_n 2 dX9_visitor_103 rfl rfl ?_
  refine aw_iast 0 (rfl) (by decide) (by decide) dX9_visitor_104 (gn (by decide) (hM.2.2.2.2.2.2.2.2.2.2.2.2.2.2.2.2.2.2.2.2.2.2.2.2.2.2.2.2.2.1)) ?_
  refine aw_aload_n 0 dX9_visitor_105 rfl rfl ?_
  refine aw_get fX9_104 dX9_visitor_106 (gn (by decide) (gn (by decide) (hM.1))) rfl ?_
  refine aw_aload_n 0 dX9_visitor_109 rfl rfl ?_
  refine aw_get fX9_227 dX9_visitor_110 (gn (by decide) (gn (by decide) (hM.1))) rfl ?_
  refine aw_iload_n 3 dX9_visitor_113 rfl rfl ?_
  refine aw_iast 0 (rfl) (by decide) (by decide) dX9_visitor_114 (gn (by decide) (gn (by decide) (hM.2.2.2.2.2.2.2.2.2.2.2.2.2.2.2.2.2.2.2.2.2.2.2.2.2.2.2.2.2.2.1))) ?_
  refine aw_aload_n 0 dX9_visitor_115 rfl rfl ?_
  refine aw_get fX9_107 dX9_visitor_116 (gn (by decide) (gn (by decide) (gn (by decide) (hM.1)))) rfl ?_
  refine aw_aload_n 0 dX9_visitor_119 rfl rfl ?_
  refine aw_get fX9_227 dX9_visitor_120 (gn (by decide) (gn (by decide) (gn (by decide) (hM.1)))) rfl ?_
  refine aw_iload 4 dX9_visitor_123 rfl ?_
  refine aw_iast 0 (rfl) (by decide) (by decide) dX9_visitor_125 (gn (by decide) (gn (by decide) (gn (by decide) (hM.2.2.2.2.2.2.2.2.2.2.2.2.2.2.2.2.2.2.2.2.2.2.2.2.2.2.2.2.2.2.2.1)))) ?_
  refine aw_aload_n 0 dX9_visitor_126 rfl rfl ?_
  refine aw_dup dX9_visitor_127 rfl ?_
  refine aw_get fX9_227 dX9_visitor_128 (gn (by decide) (gn (by decide) (gn (by decide) (gn (by decide) (hM.1))))) rfl ?_
  refine aw_iconst (1) dX9_visitor_131 (by decide) ?_
  refine aw_iadd dX9_visitor_132 ?_
  refine aw_toe 1 (by decide) ?_
  refine aw_putQ fX9_227 dX9_visitor_133 [.ref (G.1 + 89), .ref (G.1 + 90), .ref (G.1 + 91), .ref (G.1 + 92), .ref (G.1 + 93), .ref (G.1 + 94), .ref (G.1 + 95), .ref (G.1 + 96), .ref (G.1 + 97), .ref (G.1 + 98), .int 5, .int 1, .int 0, .ref (G.1 + 99), .ref (G.1 + 100), .ref (G.1 + 101), .ref (G.1 + 102), .int 0, .int 0, .ref (G.1 + 103), .ref (G.1 + 104), .ref (G.1 + 105), .ref (G.1 + 106), .ref (G.1 + 107), .ref (G.1 + 108), .ref (G.1 + 109), .ref (G.1 + 110), .ref (G.1 + 111), .ref (G.1 + 112), .ref (G.1 + 113), .ref (G.1 + 114), .ref (G.1 + 115), .int 0, .int 0, .int 0, .int 1, .ref (G.1 + 116), .ref (G.1 + 117), .ref (G.1 + 118), .ref (G.1 + 119), .ref (G.1 + 120), .ref (G.1 + 121), .ref (G.1 + 122), .int 0, .ref (G.1 + 123), .ref (G.1 + 124)] (gn (by decide) (gn (by decide) (gn (by decide) (gn (by decide) (hM.1))))) rfl rfl rfl (Nat.le_of_ble_eq_true rfl) rfl ?_
  refine aw_aload_n 0 dX9_visitor_136 rfl rfl ?_
  refine aw_get fX9_227 dX9_visitor_137 (gs (gn (by decide) (gn (by decide) (gn (by decide) (gn (by decide) (hM.1)))))) rfl ?_
  refine aw_iconst (1) dX9_visitor_140 (by decide) ?_
  refine aw_isub dX9_visitor_141 ?_
  refine aw_toe 0 (by decide) ?_
  exact aw_iret rfl dX9_visitor_142 (by decide) (by decide) ⟨rfl, trivial⟩
set_option maxHeartbeats 4000000 in
theorem A20a2 {l : Launch} {G : xG} {h : List va_E} {s x y v : Int32} (hF : xF8 G h) (hs : 2 ≤ s.toInt ∧ s.toInt ≤ 3)(hx : 0 ≤ x.toInt ∧ x.toInt < 12)(hv : v.toInt < 1) : CE l G yX8_visitor cX8_visitor 5 (some .int) 2 0 0 [.ref (G.1 + 0), .int s, .int x, .int y, .int v] h (some (.int (-4))) (kp h) := by
  refine cm_of rfl (Nat.le_of_ble_eq_true rfl) [(0, .ref (G.1 + 0)), (1, .int s), (2, .int x), (3, .int y), (4, .int v)] rfl ?_
  refine aw_iload_n 1 dX8_visitor_0 rfl rfl ?_
  refine aw_if_lt 9 dX8_visitor_1 (by decide) (fun c1 => absurd c1 (by simp only [i_lt, (show (0 : Int32).toInt = 0 from rfl)] <;> omega)) (fun c1 => ?_)
  refine aw_iload_n 1 dX8_visitor_4 rfl rfl ?_
  refine aw_iconst (3) dX8_visitor_5 (by decide) ?_
  refine aw_icmp_le 16 dX8_visitor_6 (by decide) (fun c6 => ?_) (fun c6 => absurd (by simp only [i_le, (show (3 : Int32).toInt = 3 from rfl)] <;> omega) c6)
  refine aw_iload_n 2 dX8_visitor_16 rfl rfl ?_
  refine aw_dS [.int x] [] lX8_154 sX8_isThing mX8_isThing dX8_visitor_17 (X8_isThing_t (by omega)) rfl (Nat.le_of_ble_eq_true rfl) (by decide) (by decide) rfl ?_
  refine aw_if_eq 42 dX8_visitor_20 (by decide) (fun c20 => absurd c20 (by decide)) (fun c20 => ?_)
  refine aw_iload_n 1 dX8_visitor_23 rfl rfl ?_
  refine aw_dS [.int s] [] lX8_201 sX8_needsTwo mX8_needsTwo dX8_visitor_24 (X8_needsTwo_f (by omega)) rfl (Nat.le_of_ble_eq_true rfl) (by decide) (by decide) rfl ?_
  refine aw_if_eq 48 dX8_visitor_27 (by decide) (fun c27 => ?_) (fun c27 => absurd (by decide) c27)
  refine aw_iload 4 dX8_visitor_48 rfl ?_
  refine aw_iconst (1) dX8_visitor_50 (by decide) ?_
  refine aw_icmp_ge 61 dX8_visitor_51 (by decide) (fun c51 => absurd c51 (by simp only [i_le, (show (1 : Int32).toInt = 1 from rfl)] <;> omega)) (fun c51 => ?_)
  refine aw_aload_n 0 dX8_visitor_54 rfl rfl ?_
  refine aw_bipush (-4) dX8_visitor_55 (by decide) ?_
  refine aw_eV [.int (-4)] [] lX8_70 vX8_refuse mX8_refuse dX8_visitor_57 (X8_refuse4 hF) hF.1 rfl rfl rfl (Nat.le_of_ble_eq_true rfl) (by decide) (by decide) rfl (fun h115 q116 => ?_)
  exact aw_iret rfl dX8_visitor_60 (by decide) (by decide) ⟨rfl, (kp_tr (kp_rf h) q116)⟩
set_option maxHeartbeats 4000000 in
theorem B20a2 {l : Launch} {G : xG} {h : List va_E} {s x y v : Int32} (hM : xF9 G h) (hs : 2 ≤ s.toInt ∧ s.toInt ≤ 3)(hx : 0 ≤ x.toInt ∧ x.toInt < 12)(hv : v.toInt < 1) : CE l G yX9_visitor cX9_visitor 5 (some .int) 2 0 0 [.ref (G.1 + 88), .int s, .int x, .int y, .int v] h (some (.int (-4))) (fun _ => True) := by
  refine cm_of rfl (Nat.le_of_ble_eq_true rfl) [(0, .ref (G.1 + 88)), (1, .int s), (2, .int x), (3, .int y), (4, .int v)] rfl ?_
  refine aw_iload_n 1 dX9_visitor_0 rfl rfl ?_
  refine aw_iconst (4) dX9_visitor_1 (by decide) ?_
  refine aw_dS [.int s, .int 4] [] lX9_126 sX9_isIn mX9_isIn dX9_visitor_2 (X9_isIn4_t (by omega)) rfl (Nat.le_of_ble_eq_true rfl) (by decide) (by decide) rfl ?_
  refine aw_if_ne 15 dX9_visitor_5 (by decide) (fun c5 => ?_) (fun c5 => absurd c5 (by decide))
  refine aw_iload_n 2 dX9_visitor_15 rfl rfl ?_
  refine aw_bipush (12) dX9_visitor_16 (by decide) ?_
  refine aw_dS [.int x, .int 12] [] lX9_126 sX9_isIn mX9_isIn dX9_visitor_18 (X9_isIn12_t (by omega)) rfl (Nat.le_of_ble_eq_true rfl) (by decide) (by decide) rfl ?_
  refine aw_if_eq 43 dX9_visitor_21 (by decide) (fun c21 => absurd c21 (by decide)) (fun c21 => ?_)
  refine aw_iload_n 1 dX9_visitor_24 rfl rfl ?_
  refine aw_iconst (2) dX9_visitor_25 (by decide) ?_
  refine aw_icmp_ge 49 dX9_visitor_26 (by decide) (fun c26 => ?_) (fun c26 => absurd (by simp only [i_le, (show (2 : Int32).toInt = 2 from rfl)] <;> omega) c26)
  refine aw_iload 4 dX9_visitor_49 rfl ?_
  refine aw_iconst (1) dX9_visitor_51 (by decide) ?_
  refine aw_icmp_ge 62 dX9_visitor_52 (by decide) (fun c52 => absurd c52 (by simp only [i_le, (show (1 : Int32).toInt = 1 from rfl)] <;> omega)) (fun c52 => ?_)
  refine aw_aload_n 0 dX9_visitor_55 rfl rfl ?_
  refine aw_bipush (-4) dX9_visitor_56 (by decide) ?_
  refine aw_eV [.int (-4)] [] lX9_130 vX9_refuse mX9_refuse dX9_visitor_58 (X9_refuse4 hM) hM.1 rfl rfl rfl (Nat.le_of_ble_eq_true rfl) (by decide) (by decide) rfl (fun h117 q118 => ?_)
  exact aw_iret rfl dX9_visitor_61 (by decide) (by decide) ⟨rfl, trivial⟩
set_option maxHeartbeats 4000000 in
theorem A20b2 {l : Launch} {G : xG} {h : List va_E} {s x y v : Int32} (hF : xF8 G h) (hs : 2 ≤ s.toInt ∧ s.toInt ≤ 3)(hx : 0 ≤ x.toInt ∧ x.toInt < 12)(hv : 9 < v.toInt) : CE l G yX8_visitor cX8_visitor 5 (some .int) 2 0 0 [.ref (G.1 + 0), .int s, .int x, .int y, .int v] h (some (.int (-6))) (kp h) := by
  refine cm_of rfl (Nat.le_of_ble_eq_true rfl) [(0, .ref (G.1 + 0)), (1, .int s), (2, .int x), (3, .int y), (4, .int v)] rfl ?_
  refine aw_iload_n 1 dX8_visitor_0 rfl rfl ?_
  refine aw_if_lt 9 dX8_visitor_1 (by decide) (fun c1 => absurd c1 (by simp only [i_lt, (show (0 : Int32).toInt = 0 from rfl)] <;> omega)) (fun c1 => ?_)
  refine aw_iload_n 1 dX8_visitor_4 rfl rfl ?_
  refine aw_iconst (3) dX8_visitor_5 (by decide) ?_
  refine aw_icmp_le 16 dX8_visitor_6 (by decide) (fun c6 => ?_) (fun c6 => absurd (by simp only [i_le, (show (3 : Int32).toInt = 3 from rfl)] <;> omega) c6)
  refine aw_iload_n 2 dX8_visitor_16 rfl rfl ?_
  refine aw_dS [.int x] [] lX8_154 sX8_isThing mX8_isThing dX8_visitor_17 (X8_isThing_t (by omega)) rfl (Nat.le_of_ble_eq_true rfl) (by decide) (by decide) rfl ?_
  refine aw_if_eq 42 dX8_visitor_20 (by decide) (fun c20 => absurd c20 (by decide)) (fun c20 => ?_)
  refine aw_iload_n 1 dX8_visitor_23 rfl rfl ?_
  refine aw_dS [.int s] [] lX8_201 sX8_needsTwo mX8_needsTwo dX8_visitor_24 (X8_needsTwo_f (by omega)) rfl (Nat.le_of_ble_eq_true rfl) (by decide) (by decide) rfl ?_
  refine aw_if_eq 48 dX8_visitor_27 (by decide) (fun c27 => ?_) (fun c27 => absurd (by decide) c27)
  refine aw_iload 4 dX8_visitor_48 rfl ?_
  refine aw_iconst (1) dX8_visitor_50 (by decide) ?_
  refine aw_icmp_ge 61 dX8_visitor_51 (by decide) (fun c51 => ?_) (fun c51 => absurd (by simp only [i_le, (show (1 : Int32).toInt = 1 from rfl)] <;> omega) c51)
  refine aw_iload 4 dX8_visitor_61 rfl ?_
  refine aw_bipush (9) dX8_visitor_63 (by decide) ?_
  refine aw_icmp_gt 80 dX8_visitor_65 (by decide) (fun c65 => ?_) (fun c65 => absurd (by simp only [i_lt, (show (9 : Int32).toInt = 9 from rfl)] <;> omega) c65)
  refine aw_aload_n 0 dX8_visitor_80 rfl rfl ?_
  refine aw_bipush (-6) dX8_visitor_81 (by decide) ?_
  refine aw_eV [.int (-6)] [] lX8_70 vX8_refuse mX8_refuse dX8_visitor_83 (X8_refuse6 hF) hF.1 rfl rfl rfl (Nat.le_of_ble_eq_true rfl) (by decide) (by decide) rfl (fun h119 q120 => ?_)
  exact aw_iret rfl dX8_visitor_86 (by decide) (by decide) ⟨rfl, (kp_tr (kp_rf h) q120)⟩
set_option maxHeartbeats 4000000 in
theorem B20b2 {l : Launch} {G : xG} {h : List va_E} {s x y v : Int32} (hM : xF9 G h) (hs : 2 ≤ s.toInt ∧ s.toInt ≤ 3)(hx : 0 ≤ x.toInt ∧ x.toInt < 12)(hv : 9 < v.toInt) : CE l G yX9_visitor cX9_visitor 5 (some .int) 2 0 0 [.ref (G.1 + 88), .int s, .int x, .int y, .int v] h (some (.int (-6))) (fun _ => True) := by
  refine cm_of rfl (Nat.le_of_ble_eq_true rfl) [(0, .ref (G.1 + 88)), (1, .int s), (2, .int x), (3, .int y), (4, .int v)] rfl ?_
  refine aw_iload_n 1 dX9_visitor_0 rfl rfl ?_
  refine aw_iconst (4) dX9_visitor_1 (by decide) ?_
  refine aw_dS [.int s, .int 4] [] lX9_126 sX9_isIn mX9_isIn dX9_visitor_2 (X9_isIn4_t (by omega)) rfl (Nat.le_of_ble_eq_true rfl) (by decide) (by decide) rfl ?_
  refine aw_if_ne 15 dX9_visitor_5 (by decide) (fun c5 => ?_) (fun c5 => absurd c5 (by decide))
  refine aw_iload_n 2 dX9_visitor_15 rfl rfl ?_
  refine aw_bipush (12) dX9_visitor_16 (by decide) ?_
  refine aw_dS [.int x, .int 12] [] lX9_126 sX9_isIn mX9_isIn dX9_visitor_18 (X9_isIn12_t (by omega)) rfl (Nat.le_of_ble_eq_true rfl) (by decide) (by decide) rfl ?_
  refine aw_if_eq 43 dX9_visitor_21 (by decide) (fun c21 => absurd c21 (by decide)) (fun c21 => ?_)
  refine aw_iload_n 1 dX9_visitor_24 rfl rfl ?_
  refine aw_iconst (2) dX9_visitor_25 (by decide) ?_
  refine aw_icmp_ge 49 dX9_visitor_26 (by decide) (fun c26 => ?_) (fun c26 => absurd (by simp only [i_le, (show (2 : Int32).toInt = 2 from rfl)] <;> omega) c26)
  refine aw_iload 4 dX9_visitor_49 rfl ?_
  refine aw_iconst (1) dX9_visitor_51 (by decide) ?_
  refine aw_icmp_ge 62 dX9_visitor_52 (by decide) (fun c52 => ?_) (fun c52 => absurd (by simp only [i_le, (show (1 : Int32).toInt = 1 from rfl)] <;> omega) c52)
  refine aw_iload 4 dX9_visitor_62 rfl ?_
  refine aw_bipush (9) dX9_visitor_64 (by decide) ?_
  refine aw_icmp_gt 78 dX9_visitor_66 (by decide) (fun c66 => ?_) (fun c66 => absurd (by simp only [i_lt, (show (9 : Int32).toInt = 9 from rfl)] <;> omega) c66)
  refine aw_aload_n 0 dX9_visitor_78 rfl rfl ?_
  refine aw_bipush (-6) dX9_visitor_79 (by decide) ?_
  refine aw_eV [.int (-6)] [] lX9_130 vX9_refuse mX9_refuse dX9_visitor_81 (X9_refuse6 hM) hM.1 rfl rfl rfl (Nat.le_of_ble_eq_true rfl) (by decide) (by decide) rfl (fun h121 q122 => ?_)
  exact aw_iret rfl dX9_visitor_84 (by decide) (by decide) ⟨rfl, trivial⟩
set_option maxHeartbeats 4000000 in
theorem A20o2 {l : Launch} {G : xG} {h : List va_E} {s x y v : Int32} (hF : xF8 G h) (hs : 2 ≤ s.toInt ∧ s.toInt ≤ 3)(hx : 0 ≤ x.toInt ∧ x.toInt < 12)(hv : 1 ≤ v.toInt ∧ v.toInt ≤ 9) : CE l G yX8_visitor cX8_visitor 5 (some .int) 2 0 0 [.ref (G.1 + 0), .int s, .int x, .int y, .int v] h (some (.int 0)) (kp h) := by
  refine cm_of rfl (Nat.le_of_ble_eq_true rfl) [(0, .ref (G.1 + 0)), (1, .int s), (2, .int x), (3, .int y), (4, .int v)] rfl ?_
  refine aw_iload_n 1 dX8_visitor_0 rfl rfl ?_
  refine aw_if_lt 9 dX8_visitor_1 (by decide) (fun c1 => absurd c1 (by simp only [i_lt, (show (0 : Int32).toInt = 0 from rfl)] <;> omega)) (fun c1 => ?_)
  refine aw_iload_n 1 dX8_visitor_4 rfl rfl ?_
  refine aw_iconst (3) dX8_visitor_5 (by decide) ?_
  refine aw_icmp_le 16 dX8_visitor_6 (by decide) (fun c6 => ?_) (fun c6 => absurd (by simp only [i_le, (show (3 : Int32).toInt = 3 from rfl)] <;> omega) c6)
  refine aw_iload_n 2 dX8_visitor_16 rfl rfl ?_
  refine aw_dS [.int x] [] lX8_154 sX8_isThing mX8_isThing dX8_visitor_17 (X8_isThing_t (by omega)) rfl (Nat.le_of_ble_eq_true rfl) (by decide) (by decide) rfl ?_
  refine aw_if_eq 42 dX8_visitor_20 (by decide) (fun c20 => absurd c20 (by decide)) (fun c20 => ?_)
  refine aw_iload_n 1 dX8_visitor_23 rfl rfl ?_
  refine aw_dS [.int s] [] lX8_201 sX8_needsTwo mX8_needsTwo dX8_visitor_24 (X8_needsTwo_f (by omega)) rfl (Nat.le_of_ble_eq_true rfl) (by decide) (by decide) rfl ?_
  refine aw_if_eq 48 dX8_visitor_27 (by decide) (fun c27 => ?_) (fun c27 => absurd (by decide) c27)
  refine aw_iload 4 dX8_visitor_48 rfl ?_
  refine aw_iconst (1) dX8_visitor_50 (by decide) ?_
  refine aw_icmp_ge 61 dX8_visitor_51 (by decide) (fun c51 => ?_) (fun c51 => absurd (by simp only [i_le, (show (1 : Int32).toInt = 1 from rfl)] <;> omega) c51)
  refine aw_iload 4 dX8_visitor_61 rfl ?_
  refine aw_bipush (9) dX8_visitor_63 (by decide) ?_
  refine aw_icmp_gt 80 dX8_visitor_65 (by decide) (fun c65 => absurd c65 (by simp only [i_lt, (show (9 : Int32).toInt = 9 from rfl)] <;> omega)) (fun c65 => ?_)
  refine aw_aload_n 0 dX8_visitor_68 rfl rfl ?_
  refine aw_get fX8_51 dX8_visitor_69 hF.1 rfl ?_
  refine aw_get fX8_204 dX8_visitor_72 hF.2.2.2.2.2.2.2.2.2.2.2.2.2.2.2.2.2.2.2.2.2.2.2.2.2.2.2.2.2.2.2.1 rfl ?_
  refine aw_bipush (40) dX8_visitor_75 (by decide) ?_
  refine aw_icmp_lt 87 dX8_visitor_77 (by decide) (fun c77 => ?_) (fun c77 => absurd (by decide) c77)
  refine aw_aload_n 0 dX8_visitor_87 rfl rfl ?_
  refine aw_get fX8_51 dX8_visitor_88 hF.1 rfl ?_
  refine aw_iload_n 1 dX8_visitor_91 rfl rfl ?_
  refine aw_iload_n 2 dX8_visitor_92 rfl rfl ?_
  refine aw_iload_n 1 dX8_visitor_93 rfl rfl ?_
  refine aw_dS [.int s] [.int x, .int s, .ref (G.1 + 79)] lX8_201 sX8_needsTwo mX8_needsTwo dX8_visitor_94 (X8_needsTwo_f (by omega)) rfl (Nat.le_of_ble_eq_true rfl) (by decide) (by decide) rfl ?_
  refine aw_if_eq 104 dX8_visitor_97 (by decide) (fun c97 => ?_) (fun c97 => absurd (by decide) c97)
  refine aw_iload_n 2 dX8_visitor_104 rfl rfl ?_
  refine aw_iload 4 dX8_visitor_105 rfl ?_
  refine aw_eV [.int s, .int x, .int x, .int v] [] lX8_205 vX6_addSaying mX6_addSaying dX8_visitor_107 (X6_addSaying_o hF) hF.2.2.2.2.2.2.2.2.2.2.2.2.2.2.2.2.2.2.2.2.2.2.2.2.2.2.2.2.2.2.2.1 rfl rfl rfl (Nat.le_of_ble_eq_true rfl) (by decide) (by decide) rfl (fun h123 q124 => ?_)
  exact aw_iret rfl dX8_visitor_110 (by decide) (by decide) ⟨rfl, (kp_tr (kp_rf h) q124)⟩
set_option maxHeartbeats 4000000 in
theorem B20o2 {l : Launch} {G : xG} {h : List va_E} {s x y v : Int32} (hM : xF9 G h) (hs : 2 ≤ s.toInt ∧ s.toInt ≤ 3)(hx : 0 ≤ x.toInt ∧ x.toInt < 12)(hv : 1 ≤ v.toInt ∧ v.toInt ≤ 9) : CE l G yX9_visitor cX9_visitor 5 (some .int) 2 0 0 [.ref (G.1 + 88), .int s, .int x, .int y, .int v] h (some (.int 0)) (fun _ => True) := by
  refine cm_of rfl (Nat.le_of_ble_eq_true rfl) [(0, .ref (G.1 + 88)), (1, .int s), (2, .int x), (3, .int y), (4, .int v)] rfl ?_
  refine aw_iload_n 1 dX9_visitor_0 rfl rfl ?_
  refine aw_iconst (4) dX9_visitor_1 (by decide) ?_
  refine aw_dS [.int s, .int 4] [] lX9_126 sX9_isIn mX9_isIn dX9_visitor_2 (X9_isIn4_t (by omega)) rfl (Nat.le_of_ble_eq_true rfl) (by decide) (by decide) rfl ?_
  refine aw_if_ne 15 dX9_visitor_5 (by decide) (fun c5 => ?_) (fun c5 => absurd c5 (by decide))
  refine aw_iload_n 2 dX9_visitor_15 rfl rfl ?_
  refine aw_bipush (12) dX9_visitor_16 (by decide) ?_
  refine aw_dS [.int x, .int 12] [] lX9_126 sX9_isIn mX9_isIn dX9_visitor_18 (X9_isIn12_t (by omega)) rfl (Nat.le_of_ble_eq_true rfl) (by decide) (by decide) rfl ?_
  refine aw_if_eq 43 dX9_visitor_21 (by decide) (fun c21 => absurd c21 (by decide)) (fun c21 => ?_)
  refine aw_iload_n 1 dX9_visitor_24 rfl rfl ?_
  refine aw_iconst (2) dX9_visitor_25 (by decide) ?_
  refine aw_icmp_ge 49 dX9_visitor_26 (by decide) (fun c26 => ?_) (fun c26 => absurd (by simp only [i_le, (show (2 : Int32).toInt = 2 from rfl)] <;> omega) c26)
  refine aw_iload 4 dX9_visitor_49 rfl ?_
  refine aw_iconst (1) dX9_visitor_51 (by decide) ?_
  refine aw_icmp_ge 62 dX9_visitor_52 (by decide) (fun c52 => ?_) (fun c52 => absurd (by simp only [i_le, (show (1 : Int32).toInt = 1 from rfl)] <;> omega) c52)
  refine aw_iload 4 dX9_visitor_62 rfl ?_
  refine aw_bipush (9) dX9_visitor_64 (by decide) ?_
  refine aw_icmp_gt 78 dX9_visitor_66 (by decide) (fun c66 => absurd c66 (by simp only [i_lt, (show (9 : Int32).toInt = 9 from rfl)] <;> omega)) (fun c66 => ?_)
  refine aw_aload_n 0 dX9_visitor_69 rfl rfl ?_
  refine aw_get fX9_227 dX9_visitor_70 hM.1 rfl ?_
  refine aw_bipush (40) dX9_visitor_73 (by decide) ?_
  refine aw_icmp_ne 85 dX9_visitor_75 (by decide) (fun c75 => ?_) (fun c75 => absurd c75 (by decide))
  refine aw_aload_n 0 dX9_visitor_85 rfl rfl ?_
  refine aw_get fX9_98 dX9_visitor_86 hM.1 rfl ?_
  refine aw_aload_n 0 dX9_visitor_89 rfl rfl ?_
  refine aw_get fX9_227 dX9_visitor_90 hM.1 rfl ?_
  refine aw_iload_n 1 dX9_visitor_93 rfl rfl ?_
  refine aw_iast 0 (rfl) (by decide) (by decide) dX9_visitor_94 hM.2.2.2.2.2.2.2.2.2.2.2.2.2.2.2.2.2.2.2.2.2.2.2.2.2.2.2.2.1 ?_
  refine aw_aload_n 0 dX9_visitor_95 rfl rfl ?_
  refine aw_get fX9_101 dX9_visitor_96 (gn (by decide) (hM.1)) rfl ?_
  refine aw_aload_n 0 dX9_visitor_99 rfl rfl ?_
  refine aw_get fX9_227 dX9_visitor_100 (gn (by decide) (hM.1)) rfl ?_
  refine aw_iload_n 2 dX9_visitor_103 rfl rfl ?_
  refine aw_iast 0 (rfl) (by decide) (by decide) dX9_visitor_104 (gn (by decide) (hM.2.2.2.2.2.2.2.2.2.2.2.2.2.2.2.2.2.2.2.2.2.2.2.2.2.2.2.2.2.1)) ?_
  refine aw_aload_n 0 dX9_visitor_105 rfl rfl ?_
  refine aw_get fX9_104 dX9_visitor_106 (gn (by decide) (gn (by decide) (hM.1))) rfl ?_
  refine aw_aload_n 0 dX9_visitor_109 rfl rfl ?_
  refine aw_get fX9_227 dX9_visitor_110 (gn (by decide) (gn (by decide) (hM.1))) rfl ?_
  refine aw_iload_n 3 dX9_visitor_113 rfl rfl ?_
  refine aw_iast 0 (rfl) (by decide) (by decide) dX9_visitor_114 (gn (by decide) (gn (by decide) (hM.2.2.2.2.2.2.2.2.2.2.2.2.2.2.2.2.2.2.2.2.2.2.2.2.2.2.2.2.2.2.1))) ?_
  refine aw_aload_n 0 dX9_visitor_115 rfl rfl ?_
  refine aw_get fX9_107 dX9_visitor_116 (gn (by decide) (gn (by decide) (gn (by decide) (hM.1)))) rfl ?_
  refine aw_aload_n 0 dX9_visitor_119 rfl rfl ?_
  refine aw_get fX9_227 dX9_visitor_120 (gn (by decide) (gn (by decide) (gn (by decide) (hM.1)))) rfl ?_
  refine aw_iload 4 dX9_visitor_123 rfl ?_
  refine aw_iast 0 (rfl) (by decide) (by decide) dX9_visitor_125 (gn (by decide) (gn (by decide) (gn (by decide) (hM.2.2.2.2.2.2.2.2.2.2.2.2.2.2.2.2.2.2.2.2.2.2.2.2.2.2.2.2.2.2.2.1)))) ?_
  refine aw_aload_n 0 dX9_visitor_126 rfl rfl ?_
  refine aw_dup dX9_visitor_127 rfl ?_
  refine aw_get fX9_227 dX9_visitor_128 (gn (by decide) (gn (by decide) (gn (by decide) (gn (by decide) (hM.1))))) rfl ?_
  refine aw_iconst (1) dX9_visitor_131 (by decide) ?_
  refine aw_iadd dX9_visitor_132 ?_
  refine aw_toe 1 (by decide) ?_
  refine aw_putQ fX9_227 dX9_visitor_133 [.ref (G.1 + 89), .ref (G.1 + 90), .ref (G.1 + 91), .ref (G.1 + 92), .ref (G.1 + 93), .ref (G.1 + 94), .ref (G.1 + 95), .ref (G.1 + 96), .ref (G.1 + 97), .ref (G.1 + 98), .int 5, .int 1, .int 0, .ref (G.1 + 99), .ref (G.1 + 100), .ref (G.1 + 101), .ref (G.1 + 102), .int 0, .int 0, .ref (G.1 + 103), .ref (G.1 + 104), .ref (G.1 + 105), .ref (G.1 + 106), .ref (G.1 + 107), .ref (G.1 + 108), .ref (G.1 + 109), .ref (G.1 + 110), .ref (G.1 + 111), .ref (G.1 + 112), .ref (G.1 + 113), .ref (G.1 + 114), .ref (G.1 + 115), .int 0, .int 0, .int 0, .int 1, .ref (G.1 + 116), .ref (G.1 + 117), .ref (G.1 + 118), .ref (G.1 + 119), .ref (G.1 + 120), .ref (G.1 + 121), .ref (G.1 + 122), .int 0, .ref (G.1 + 123), .ref (G.1 + 124)] (gn (by decide) (gn (by decide) (gn (by decide) (gn (by decide) (hM.1))))) rfl rfl rfl (Nat.le_of_ble_eq_true rfl) rfl ?_
  refine aw_aload_n 0 dX9_visitor_136 rfl rfl ?_
  refine aw_get fX9_227 dX9_visitor_137 (gs (gn (by decide) (gn (by decide) (gn (by decide) (gn (by decide) (hM.1)))))) rfl ?_
  refine aw_iconst (1) dX9_visitor_140 (by decide) ?_
  refine aw_isub dX9_visitor_141 ?_
  refine aw_toe 0 (by decide) ?_
  exact aw_iret rfl dX9_visitor_142 (by decide) (by decide) ⟨rfl, trivial⟩
set_option maxHeartbeats 4000000 in
theorem X0_tellKind_o {l : Launch} {G : xG} {h : List va_E} {p v : Int32} (hF : xF8 G h)(hp : 0 ≤ p.toInt ∧ p.toInt < 10) : CE l G yX0_tellKind cX0_tellKind 4 (some .int) 0 0 0 [.ref (G.1 + 84), .int p, .int v] h (some (.int 0)) (kp h) := by
  refine cm_of rfl (Nat.le_of_ble_eq_true rfl) [(0, .ref (G.1 + 84)), (1, .int p), (2, .int v)] rfl ?_
  obtain ⟨p0, bp, ep⟩ := i_nat (N := 10) hp.1 hp.2
  refine aw_aload_n 0 dX0_tellKind_0 rfl rfl ?_
  refine aw_get fX0_9 dX0_tellKind_1 hF.2.2.2.2.2.2.2.2.2.2.2.2.2.2.2.2.2.2.2.2.2.2.2.2.2.2.2.2.2.2.2.2.2.2.2.2.1 rfl ?_
  refine aw_iload_n 1 dX0_tellKind_4 rfl rfl ?_
  refine aw_iald p0 (ep) (by omega) (by decide) dX0_tellKind_5 hF.2.2.2.2.2.2.2.2.2.2.2.2.2.2.2.2.2.2.2.2.2.2.2.2.2.2.2.2.2.2.2.2.2.2.2.2.2.1 ?_
  refine aw_toe 0 (rfl) ?_
  refine aw_istore_n [(3, .int 0), (0, .ref (G.1 + 84)), (1, .int p), (2, .int v)] dX0_tellKind_6 rfl (by decide) rfl ?_
  refine aw_aload_n 1 dX0_tellKind_7 rfl rfl ?_
  refine aw_get fX0_9 dX0_tellKind_8 hF.2.2.2.2.2.2.2.2.2.2.2.2.2.2.2.2.2.2.2.2.2.2.2.2.2.2.2.2.2.2.2.2.2.2.2.2.1 rfl ?_
  refine aw_iload_n 2 dX0_tellKind_11 rfl rfl ?_
  refine aw_iload_n 3 dX0_tellKind_12 rfl rfl ?_
  refine aw_iast p0 (ep) (by omega) (by decide) dX0_tellKind_13 hF.2.2.2.2.2.2.2.2.2.2.2.2.2.2.2.2.2.2.2.2.2.2.2.2.2.2.2.2.2.2.2.2.2.2.2.2.2.1 ?_
  refine aw_iload_n 0 dX0_tellKind_14 rfl rfl ?_
  exact aw_iret rfl dX0_tellKind_15 (by decide) (by decide) ⟨rfl, kp_set (kp_rf h) (by decide)⟩
set_option maxHeartbeats 4000000 in
theorem A24p {l : Launch} {G : xG} {h : List va_E} {p v : Int32} (hF : xF8 G h) (hp : p.toInt < 0) : CE l G yX8_part cX8_part 3 (some .int) 2 0 0 [.ref (G.1 + 0), .int p, .int v] h (some (.int (-1))) (kp h) := by
  refine cm_of rfl (Nat.le_of_ble_eq_true rfl) [(0, .ref (G.1 + 0)), (1, .int p), (2, .int v)] rfl ?_
  refine aw_iload_n 1 dX8_part_0 rfl rfl ?_
  refine aw_if_lt 10 dX8_part_1 (by decide) (fun c1 => ?_) (fun c1 => absurd (by simp only [i_lt, (show (0 : Int32).toInt = 0 from rfl)] <;> omega) c1)
  refine aw_aload_n 0 dX8_part_10 rfl rfl ?_
  refine aw_iconst (-1) dX8_part_11 (by decide) ?_
  refine aw_eV [.int (-1)] [] lX8_70 vX8_refuse mX8_refuse dX8_part_12 (X8_refuse1 hF) hF.1 rfl rfl rfl (Nat.le_of_ble_eq_true rfl) (by decide) (by decide) rfl (fun h125 q126 => ?_)
  exact aw_iret rfl dX8_part_15 (by decide) (by decide) ⟨rfl, (kp_tr (kp_rf h) q126)⟩
set_option maxHeartbeats 4000000 in
theorem B24p {l : Launch} {G : xG} {h : List va_E} {p v : Int32} (hM : xF9 G h) (hp : p.toInt < 0) : CE l G yX9_part cX9_part 5 (some .int) 2 0 0 [.ref (G.1 + 88), .int p, .int v] h (some (.int (-1))) (fun _ => True) := by
  refine cm_of rfl (Nat.le_of_ble_eq_true rfl) [(0, .ref (G.1 + 88)), (1, .int p), (2, .int v)] rfl ?_
  refine aw_iload_n 1 dX9_part_0 rfl rfl ?_
  refine aw_bipush (10) dX9_part_1 (by decide) ?_
  refine aw_dS [.int p, .int 10] [] lX9_126 sX9_isIn mX9_isIn dX9_part_3 (X9_isIn10_f (by omega)) rfl (Nat.le_of_ble_eq_true rfl) (by decide) (by decide) rfl ?_
  refine aw_if_eq 18 dX9_part_6 (by decide) (fun c6 => ?_) (fun c6 => absurd (by decide) c6)
  refine aw_iconst (-1) dX9_part_18 (by decide) ?_
  refine aw_istore_n [(3, .int (-1)), (0, .ref (G.1 + 88)), (1, .int p), (2, .int v)] dX9_part_19 rfl (by decide) rfl ?_
  refine aw_iload_n 0 dX9_part_20 rfl rfl ?_
  refine aw_if_eq 30 dX9_part_21 (by decide) (fun c21 => absurd c21 (by decide)) (fun c21 => ?_)
  refine aw_aload_n 1 dX9_part_24 rfl rfl ?_
  refine aw_iload_n 0 dX9_part_25 rfl rfl ?_
  refine aw_eV [.int (-1)] [] lX9_130 vX9_refuse mX9_refuse dX9_part_26 (X9_refuse1 hM) hM.1 rfl rfl rfl (Nat.le_of_ble_eq_true rfl) (by decide) (by decide) rfl (fun h127 q128 => ?_)
  exact aw_iret rfl dX9_part_29 (by decide) (by decide) ⟨rfl, trivial⟩
set_option maxHeartbeats 4000000 in
theorem A24q {l : Launch} {G : xG} {h : List va_E} {p v : Int32} (hF : xF8 G h) (hp : 10 ≤ p.toInt) : CE l G yX8_part cX8_part 3 (some .int) 2 0 0 [.ref (G.1 + 0), .int p, .int v] h (some (.int (-1))) (kp h) := by
  refine cm_of rfl (Nat.le_of_ble_eq_true rfl) [(0, .ref (G.1 + 0)), (1, .int p), (2, .int v)] rfl ?_
  refine aw_iload_n 1 dX8_part_0 rfl rfl ?_
  refine aw_if_lt 10 dX8_part_1 (by decide) (fun c1 => absurd c1 (by simp only [i_lt, (show (0 : Int32).toInt = 0 from rfl)] <;> omega)) (fun c1 => ?_)
  refine aw_iload_n 1 dX8_part_4 rfl rfl ?_
  refine aw_bipush (10) dX8_part_5 (by decide) ?_
  refine aw_icmp_lt 16 dX8_part_7 (by decide) (fun c7 => absurd c7 (by simp only [i_lt, (show (10 : Int32).toInt = 10 from rfl)] <;> omega)) (fun c7 => ?_)
  refine aw_aload_n 0 dX8_part_10 rfl rfl ?_
  refine aw_iconst (-1) dX8_part_11 (by decide) ?_
  refine aw_eV [.int (-1)] [] lX8_70 vX8_refuse mX8_refuse dX8_part_12 (X8_refuse1 hF) hF.1 rfl rfl rfl (Nat.le_of_ble_eq_true rfl) (by decide) (by decide) rfl (fun h129 q130 => ?_)
  exact aw_iret rfl dX8_part_15 (by decide) (by decide) ⟨rfl, (kp_tr (kp_rf h) q130)⟩
set_option maxHeartbeats 4000000 in
theorem B24q {l : Launch} {G : xG} {h : List va_E} {p v : Int32} (hM : xF9 G h) (hp : 10 ≤ p.toInt) : CE l G yX9_part cX9_part 5 (some .int) 2 0 0 [.ref (G.1 + 88), .int p, .int v] h (some (.int (-1))) (fun _ => True) := by
  refine cm_of rfl (Nat.le_of_ble_eq_true rfl) [(0, .ref (G.1 + 88)), (1, .int p), (2, .int v)] rfl ?_
  refine aw_iload_n 1 dX9_part_0 rfl rfl ?_
  refine aw_bipush (10) dX9_part_1 (by decide) ?_
  refine aw_dS [.int p, .int 10] [] lX9_126 sX9_isIn mX9_isIn dX9_part_3 (X9_isIn10_f (by omega)) rfl (Nat.le_of_ble_eq_true rfl) (by decide) (by decide) rfl ?_
  refine aw_if_eq 18 dX9_part_6 (by decide) (fun c6 => ?_) (fun c6 => absurd (by decide) c6)
  refine aw_iconst (-1) dX9_part_18 (by decide) ?_
  refine aw_istore_n [(3, .int (-1)), (0, .ref (G.1 + 88)), (1, .int p), (2, .int v)] dX9_part_19 rfl (by decide) rfl ?_
  refine aw_iload_n 0 dX9_part_20 rfl rfl ?_
  refine aw_if_eq 30 dX9_part_21 (by decide) (fun c21 => absurd c21 (by decide)) (fun c21 => ?_)
  refine aw_aload_n 1 dX9_part_24 rfl rfl ?_
  refine aw_iload_n 0 dX9_part_25 rfl rfl ?_
  refine aw_eV [.int (-1)] [] lX9_130 vX9_refuse mX9_refuse dX9_part_26 (X9_refuse1 hM) hM.1 rfl rfl rfl (Nat.le_of_ble_eq_true rfl) (by decide) (by decide) rfl (fun h131 q132 => ?_)
  exact aw_iret rfl dX9_part_29 (by decide) (by decide) ⟨rfl, trivial⟩
set_option maxHeartbeats 4000000 in
theorem A24a {l : Launch} {G : xG} {h : List va_E} {p v : Int32} (hF : xF8 G h) (hp : 0 ≤ p.toInt ∧ p.toInt < 10)(hv : v.toInt < 0) : CE l G yX8_part cX8_part 3 (some .int) 2 0 0 [.ref (G.1 + 0), .int p, .int v] h (some (.int (-4))) (kp h) := by
  refine cm_of rfl (Nat.le_of_ble_eq_true rfl) [(0, .ref (G.1 + 0)), (1, .int p), (2, .int v)] rfl ?_
  obtain ⟨p0, bp, ep⟩ := i_nat (N := 10) hp.1 hp.2
  refine aw_iload_n 1 dX8_part_0 rfl rfl ?_
  refine aw_if_lt 10 dX8_part_1 (by decide) (fun c1 => absurd c1 (by simp only [i_lt, (i_toNat (ep) (by omega)), (show (0 : Int32).toInt = 0 from rfl)] <;> omega)) (fun c1 => ?_)
  refine aw_iload_n 1 dX8_part_4 rfl rfl ?_
  refine aw_bipush (10) dX8_part_5 (by decide) ?_
  refine aw_icmp_lt 16 dX8_part_7 (by decide) (fun c7 => ?_) (fun c7 => absurd (by simp only [i_lt, (i_toNat (ep) (by omega)), (show (10 : Int32).toInt = 10 from rfl)] <;> omega) c7)
  refine aw_iload_n 2 dX8_part_16 rfl rfl ?_
  refine aw_if_ge 27 dX8_part_17 (by decide) (fun c17 => absurd c17 (by simp only [i_le, (show (0 : Int32).toInt = 0 from rfl)] <;> omega)) (fun c17 => ?_)
  refine aw_aload_n 0 dX8_part_20 rfl rfl ?_
  refine aw_bipush (-4) dX8_part_21 (by decide) ?_
  refine aw_eV [.int (-4)] [] lX8_70 vX8_refuse mX8_refuse dX8_part_23 (X8_refuse4 hF) hF.1 rfl rfl rfl (Nat.le_of_ble_eq_true rfl) (by decide) (by decide) rfl (fun h133 q134 => ?_)
  exact aw_iret rfl dX8_part_26 (by decide) (by decide) ⟨rfl, (kp_tr (kp_rf h) q134)⟩
set_option maxHeartbeats 4000000 in
theorem B24a {l : Launch} {G : xG} {h : List va_E} {p v : Int32} (hM : xF9 G h) (hp : 0 ≤ p.toInt ∧ p.toInt < 10)(hv : v.toInt < 0) : CE l G yX9_part cX9_part 5 (some .int) 2 0 0 [.ref (G.1 + 88), .int p, .int v] h (some (.int (-4))) (fun _ => True) := by
  refine cm_of rfl (Nat.le_of_ble_eq_true rfl) [(0, .ref (G.1 + 88)), (1, .int p), (2, .int v)] rfl ?_
  obtain ⟨p0, bp, ep⟩ := i_nat (N := 10) hp.1 hp.2
  refine aw_iload_n 1 dX9_part_0 rfl rfl ?_
  refine aw_bipush (10) dX9_part_1 (by decide) ?_
  refine aw_dS [.int p, .int 10] [] lX9_126 sX9_isIn mX9_isIn dX9_part_3 (X9_isIn10_t (by omega)) rfl (Nat.le_of_ble_eq_true rfl) (by decide) (by decide) rfl ?_
  refine aw_if_eq 18 dX9_part_6 (by decide) (fun c6 => absurd c6 (by decide)) (fun c6 => ?_)
  refine aw_iload_n 2 dX9_part_9 rfl rfl ?_
  refine aw_iconst (0) dX9_part_10 (by decide) ?_
  refine aw_iconst (5) dX9_part_11 (by decide) ?_
  refine aw_dS [.int v, .int 0, .int 5] [] lX9_137 sX9_wrong mX9_wrong dX9_part_12 (X9_wrong_0_5_a (by omega)) rfl (Nat.le_of_ble_eq_true rfl) (by decide) (by decide) rfl ?_
  refine aw_goto 19 dX9_part_15 (by decide) ?_
  refine aw_istore_n [(3, .int (-4)), (0, .ref (G.1 + 88)), (1, .int p), (2, .int v)] dX9_part_19 rfl (by decide) rfl ?_
  refine aw_iload_n 0 dX9_part_20 rfl rfl ?_
  refine aw_if_eq 30 dX9_part_21 (by decide) (fun c21 => absurd c21 (by decide)) (fun c21 => ?_)
  refine aw_aload_n 1 dX9_part_24 rfl rfl ?_
  refine aw_iload_n 0 dX9_part_25 rfl rfl ?_
  refine aw_eV [.int (-4)] [] lX9_130 vX9_refuse mX9_refuse dX9_part_26 (X9_refuse4 hM) hM.1 rfl rfl rfl (Nat.le_of_ble_eq_true rfl) (by decide) (by decide) rfl (fun h135 q136 => ?_)
  exact aw_iret rfl dX9_part_29 (by decide) (by decide) ⟨rfl, trivial⟩
set_option maxHeartbeats 4000000 in
theorem A24b {l : Launch} {G : xG} {h : List va_E} {p v : Int32} (hF : xF8 G h) (hp : 0 ≤ p.toInt ∧ p.toInt < 10)(hv : 5 < v.toInt) : CE l G yX8_part cX8_part 3 (some .int) 2 0 0 [.ref (G.1 + 0), .int p, .int v] h (some (.int (-6))) (kp h) := by
  refine cm_of rfl (Nat.le_of_ble_eq_true rfl) [(0, .ref (G.1 + 0)), (1, .int p), (2, .int v)] rfl ?_
  obtain ⟨p0, bp, ep⟩ := i_nat (N := 10) hp.1 hp.2
  refine aw_iload_n 1 dX8_part_0 rfl rfl ?_
  refine aw_if_lt 10 dX8_part_1 (by decide) (fun c1 => absurd c1 (by simp only [i_lt, (i_toNat (ep) (by omega)), (show (0 : Int32).toInt = 0 from rfl)] <;> omega)) (fun c1 => ?_)
  refine aw_iload_n 1 dX8_part_4 rfl rfl ?_
  refine aw_bipush (10) dX8_part_5 (by decide) ?_
  refine aw_icmp_lt 16 dX8_part_7 (by decide) (fun c7 => ?_) (fun c7 => absurd (by simp only [i_lt, (i_toNat (ep) (by omega)), (show (10 : Int32).toInt = 10 from rfl)] <;> omega) c7)
  refine aw_iload_n 2 dX8_part_16 rfl rfl ?_
  refine aw_if_ge 27 dX8_part_17 (by decide) (fun c17 => ?_) (fun c17 => absurd (by simp only [i_le, (show (0 : Int32).toInt = 0 from rfl)] <;> omega) c17)
  refine aw_iload_n 2 dX8_part_27 rfl rfl ?_
  refine aw_bipush (6) dX8_part_28 (by decide) ?_
  refine aw_icmp_lt 40 dX8_part_30 (by decide) (fun c30 => absurd c30 (by simp only [i_lt, (show (6 : Int32).toInt = 6 from rfl)] <;> omega)) (fun c30 => ?_)
  refine aw_aload_n 0 dX8_part_33 rfl rfl ?_
  refine aw_bipush (-6) dX8_part_34 (by decide) ?_
  refine aw_eV [.int (-6)] [] lX8_70 vX8_refuse mX8_refuse dX8_part_36 (X8_refuse6 hF) hF.1 rfl rfl rfl (Nat.le_of_ble_eq_true rfl) (by decide) (by decide) rfl (fun h137 q138 => ?_)
  exact aw_iret rfl dX8_part_39 (by decide) (by decide) ⟨rfl, (kp_tr (kp_rf h) q138)⟩
set_option maxHeartbeats 4000000 in
theorem B24b {l : Launch} {G : xG} {h : List va_E} {p v : Int32} (hM : xF9 G h) (hp : 0 ≤ p.toInt ∧ p.toInt < 10)(hv : 5 < v.toInt) : CE l G yX9_part cX9_part 5 (some .int) 2 0 0 [.ref (G.1 + 88), .int p, .int v] h (some (.int (-6))) (fun _ => True) := by
  refine cm_of rfl (Nat.le_of_ble_eq_true rfl) [(0, .ref (G.1 + 88)), (1, .int p), (2, .int v)] rfl ?_
  obtain ⟨p0, bp, ep⟩ := i_nat (N := 10) hp.1 hp.2
  refine aw_iload_n 1 dX9_part_0 rfl rfl ?_
  refine aw_bipush (10) dX9_part_1 (by decide) ?_
  refine aw_dS [.int p, .int 10] [] lX9_126 sX9_isIn mX9_isIn dX9_part_3 (X9_isIn10_t (by omega)) rfl (Nat.le_of_ble_eq_true rfl) (by decide) (by decide) rfl ?_
  refine aw_if_eq 18 dX9_part_6 (by decide) (fun c6 => absurd c6 (by decide)) (fun c6 => ?_)
  refine aw_iload_n 2 dX9_part_9 rfl rfl ?_
  refine aw_iconst (0) dX9_part_10 (by decide) ?_
  refine aw_iconst (5) dX9_part_11 (by decide) ?_
  refine aw_dS [.int v, .int 0, .int 5] [] lX9_137 sX9_wrong mX9_wrong dX9_part_12 (X9_wrong_0_5_b (by omega)) rfl (Nat.le_of_ble_eq_true rfl) (by decide) (by decide) rfl ?_
  refine aw_goto 19 dX9_part_15 (by decide) ?_
  refine aw_istore_n [(3, .int (-6)), (0, .ref (G.1 + 88)), (1, .int p), (2, .int v)] dX9_part_19 rfl (by decide) rfl ?_
  refine aw_iload_n 0 dX9_part_20 rfl rfl ?_
  refine aw_if_eq 30 dX9_part_21 (by decide) (fun c21 => absurd c21 (by decide)) (fun c21 => ?_)
  refine aw_aload_n 1 dX9_part_24 rfl rfl ?_
  refine aw_iload_n 0 dX9_part_25 rfl rfl ?_
  refine aw_eV [.int (-6)] [] lX9_130 vX9_refuse mX9_refuse dX9_part_26 (X9_refuse6 hM) hM.1 rfl rfl rfl (Nat.le_of_ble_eq_true rfl) (by decide) (by decide) rfl (fun h139 q140 => ?_)
  exact aw_iret rfl dX9_part_29 (by decide) (by decide) ⟨rfl, trivial⟩
set_option maxHeartbeats 4000000 in
theorem A24o {l : Launch} {G : xG} {h : List va_E} {p v : Int32} (hF : xF8 G h) (hp : 0 ≤ p.toInt ∧ p.toInt < 10)(hv : 0 ≤ v.toInt ∧ v.toInt ≤ 5) : CE l G yX8_part cX8_part 3 (some .int) 2 0 0 [.ref (G.1 + 0), .int p, .int v] h (some (.int 0)) (kp h) := by
  refine cm_of rfl (Nat.le_of_ble_eq_true rfl) [(0, .ref (G.1 + 0)), (1, .int p), (2, .int v)] rfl ?_
  obtain ⟨p0, bp, ep⟩ := i_nat (N := 10) hp.1 hp.2
  refine aw_iload_n 1 dX8_part_0 rfl rfl ?_
  refine aw_if_lt 10 dX8_part_1 (by decide) (fun c1 => absurd c1 (by simp only [i_lt, (i_toNat (ep) (by omega)), (show (0 : Int32).toInt = 0 from rfl)] <;> omega)) (fun c1 => ?_)
  refine aw_iload_n 1 dX8_part_4 rfl rfl ?_
  refine aw_bipush (10) dX8_part_5 (by decide) ?_
  refine aw_icmp_lt 16 dX8_part_7 (by decide) (fun c7 => ?_) (fun c7 => absurd (by simp only [i_lt, (i_toNat (ep) (by omega)), (show (10 : Int32).toInt = 10 from rfl)] <;> omega) c7)
  refine aw_iload_n 2 dX8_part_16 rfl rfl ?_
  refine aw_if_ge 27 dX8_part_17 (by decide) (fun c17 => ?_) (fun c17 => absurd (by simp only [i_le, (show (0 : Int32).toInt = 0 from rfl)] <;> omega) c17)
  refine aw_iload_n 2 dX8_part_27 rfl rfl ?_
  refine aw_bipush (6) dX8_part_28 (by decide) ?_
  refine aw_icmp_lt 40 dX8_part_30 (by decide) (fun c30 => ?_) (fun c30 => absurd (by simp only [i_lt, (show (6 : Int32).toInt = 6 from rfl)] <;> omega) c30)
  refine aw_aload_n 0 dX8_part_40 rfl rfl ?_
  refine aw_get fX8_58 dX8_part_41 hF.1 rfl ?_
  refine aw_iload_n 1 dX8_part_44 rfl rfl ?_
  refine aw_iload_n 2 dX8_part_45 rfl rfl ?_
  refine aw_eV [.int p, .int v] [] lX8_227 vX0_tellKind mX0_tellKind dX8_part_46 (X0_tellKind_o hF hp) hF.2.2.2.2.2.2.2.2.2.2.2.2.2.2.2.2.2.2.2.2.2.2.2.2.2.2.2.2.2.2.2.2.2.2.2.2.1 rfl rfl rfl (Nat.le_of_ble_eq_true rfl) (by decide) (by decide) rfl (fun h141 q142 => ?_)
  exact aw_iret rfl dX8_part_49 (by decide) (by decide) ⟨rfl, (kp_tr (kp_rf h) q142)⟩
set_option maxHeartbeats 4000000 in
theorem B24o {l : Launch} {G : xG} {h : List va_E} {p v : Int32} (hM : xF9 G h) (hp : 0 ≤ p.toInt ∧ p.toInt < 10)(hv : 0 ≤ v.toInt ∧ v.toInt ≤ 5) : CE l G yX9_part cX9_part 5 (some .int) 2 0 0 [.ref (G.1 + 88), .int p, .int v] h (some (.int 0)) (fun _ => True) := by
  refine cm_of rfl (Nat.le_of_ble_eq_true rfl) [(0, .ref (G.1 + 88)), (1, .int p), (2, .int v)] rfl ?_
  obtain ⟨p0, bp, ep⟩ := i_nat (N := 10) hp.1 hp.2
  refine aw_iload_n 1 dX9_part_0 rfl rfl ?_
  refine aw_bipush (10) dX9_part_1 (by decide) ?_
  refine aw_dS [.int p, .int 10] [] lX9_126 sX9_isIn mX9_isIn dX9_part_3 (X9_isIn10_t (by omega)) rfl (Nat.le_of_ble_eq_true rfl) (by decide) (by decide) rfl ?_
  refine aw_if_eq 18 dX9_part_6 (by decide) (fun c6 => absurd c6 (by decide)) (fun c6 => ?_)
  refine aw_iload_n 2 dX9_part_9 rfl rfl ?_
  refine aw_iconst (0) dX9_part_10 (by decide) ?_
  refine aw_iconst (5) dX9_part_11 (by decide) ?_
  refine aw_dS [.int v, .int 0, .int 5] [] lX9_137 sX9_wrong mX9_wrong dX9_part_12 (X9_wrong_0_5_o (by omega)) rfl (Nat.le_of_ble_eq_true rfl) (by decide) (by decide) rfl ?_
  refine aw_goto 19 dX9_part_15 (by decide) ?_
  refine aw_istore_n [(3, .int 0), (0, .ref (G.1 + 88)), (1, .int p), (2, .int v)] dX9_part_19 rfl (by decide) rfl ?_
  refine aw_iload_n 0 dX9_part_20 rfl rfl ?_
  refine aw_if_eq 30 dX9_part_21 (by decide) (fun c21 => ?_) (fun c21 => absurd (by decide) c21)
  refine aw_aload_n 1 dX9_part_30 rfl rfl ?_
  refine aw_get fX9_119 dX9_part_31 hM.1 rfl ?_
  refine aw_iload_n 2 dX9_part_34 rfl rfl ?_
  refine aw_iald p0 (ep) (by omega) (by decide) dX9_part_35 hM.2.2.2.2.2.2.2.2.2.2.2.2.2.2.2.2.2.2.2.2.2.2.2.2.2.2.2.2.2.2.2.2.2.2.2.1 ?_
  refine aw_toe 0 (rfl) ?_
  refine aw_istore [(4, .int 0), (3, .int 0), (0, .ref (G.1 + 88)), (1, .int p), (2, .int v)] dX9_part_36 (by decide) rfl ?_
  refine aw_aload_n 2 dX9_part_38 rfl rfl ?_
  refine aw_get fX9_119 dX9_part_39 hM.1 rfl ?_
  refine aw_iload_n 3 dX9_part_42 rfl rfl ?_
  refine aw_iload_n 4 dX9_part_43 rfl rfl ?_
  refine aw_iast p0 (ep) (by omega) (by decide) dX9_part_44 hM.2.2.2.2.2.2.2.2.2.2.2.2.2.2.2.2.2.2.2.2.2.2.2.2.2.2.2.2.2.2.2.2.2.2.2.1 ?_
  refine aw_iload 0 dX9_part_45 rfl ?_
  exact aw_iret rfl dX9_part_47 (by decide) (by decide) ⟨rfl, trivial⟩
