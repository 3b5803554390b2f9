set_option maxHeartbeats 4000000 in
theorem X9_wrong_1500_1900_a {l : Launch} {G : xG} {h : List va_E} {v : Int32} (hv : v.toInt < 1500) : CD l G yX9_wrong cX9_wrong 3 (some .int) 0 0 0 [.int v, .int 1500, .int 1900] h (some (.int (-4))) h := by
  refine cm_of rfl (Nat.le_of_ble_eq_true rfl) [(0, .int v), (1, .int 1500), (2, .int 1900)] rfl ?_
  refine aw_iload_n 0 dX9_wrong_0 rfl rfl ?_
  refine aw_iload_n 1 dX9_wrong_1 rfl rfl ?_
  refine aw_icmp_ge 10 dX9_wrong_2 (by decide) (fun c2 => absurd c2 (by simp only [i_le, (show (1500 : Int32).toInt = 1500 from rfl)] <;> omega)) (fun c2 => ?_)
  refine aw_bipush (-4) dX9_wrong_5 (by decide) ?_
  refine aw_goto 21 dX9_wrong_7 (by decide) ?_
  exact aw_iret rfl dX9_wrong_21 (by decide) (by decide) ⟨rfl, rfl⟩
set_option maxHeartbeats 4000000 in
theorem X9_wrong_1500_1900_b {l : Launch} {G : xG} {h : List va_E} {v : Int32} (hv : 1900 < v.toInt) : CD l G yX9_wrong cX9_wrong 3 (some .int) 0 0 0 [.int v, .int 1500, .int 1900] h (some (.int (-6))) h := by
  refine cm_of rfl (Nat.le_of_ble_eq_true rfl) [(0, .int v), (1, .int 1500), (2, .int 1900)] rfl ?_
  refine aw_iload_n 0 dX9_wrong_0 rfl rfl ?_
  refine aw_iload_n 1 dX9_wrong_1 rfl rfl ?_
  refine aw_icmp_ge 10 dX9_wrong_2 (by decide) (fun c2 => ?_) (fun c2 => absurd (by simp only [i_le, (show (1500 : Int32).toInt = 1500 from rfl)] <;> omega) c2)
  refine aw_iload_n 0 dX9_wrong_10 rfl rfl ?_
  refine aw_iload_n 2 dX9_wrong_11 rfl rfl ?_
  refine aw_icmp_le 20 dX9_wrong_12 (by decide) (fun c12 => absurd c12 (by simp only [i_le, (show (1900 : Int32).toInt = 1900 from rfl)] <;> omega)) (fun c12 => ?_)
  refine aw_bipush (-6) dX9_wrong_15 (by decide) ?_
  refine aw_goto 21 dX9_wrong_17 (by decide) ?_
  exact aw_iret rfl dX9_wrong_21 (by decide) (by decide) ⟨rfl, rfl⟩
set_option maxHeartbeats 4000000 in
theorem X9_wrong_1500_1900_o {l : Launch} {G : xG} {h : List va_E} {v : Int32} (hv : 1500 ≤ v.toInt ∧ v.toInt ≤ 1900) : CD l G yX9_wrong cX9_wrong 3 (some .int) 0 0 0 [.int v, .int 1500, .int 1900] h (some (.int 0)) h := by
  refine cm_of rfl (Nat.le_of_ble_eq_true rfl) [(0, .int v), (1, .int 1500), (2, .int 1900)] rfl ?_
  refine aw_iload_n 0 dX9_wrong_0 rfl rfl ?_
  refine aw_iload_n 1 dX9_wrong_1 rfl rfl ?_
  refine aw_icmp_ge 10 dX9_wrong_2 (by decide) (fun c2 => ?_) (fun c2 => absurd (by simp only [i_le, (show (1500 : Int32).toInt = 1500 from rfl)] <;> omega) c2)
  refine aw_iload_n 0 dX9_wrong_10 rfl rfl ?_
  refine aw_iload_n 2 dX9_wrong_11 rfl rfl ?_
  refine aw_icmp_le 20 dX9_wrong_12 (by decide) (fun c12 => ?_) (fun c12 => absurd (by simp only [i_le, (show (1900 : Int32).toInt = 1900 from rfl)] <;> omega) c12)
  refine aw_iconst (0) dX9_wrong_20 (by decide) ?_
  exact aw_iret rfl dX9_wrong_21 (by decide) (by decide) ⟨rfl, rfl⟩
set_option maxHeartbeats 4000000 in
theorem X9_wrong_0_50_a {l : Launch} {G : xG} {h : List va_E} {v : Int32} (hv : v.toInt < 0) : CD l G yX9_wrong cX9_wrong 3 (some .int) 0 0 0 [.int v, .int 0, .int 50] h (some (.int (-4))) h := by
  refine cm_of rfl (Nat.le_of_ble_eq_true rfl) [(0, .int v), (1, .int 0), (2, .int 50)] rfl ?_
  refine aw_iload_n 0 dX9_wrong_0 rfl rfl ?_
  refine aw_iload_n 1 dX9_wrong_1 rfl rfl ?_
  refine aw_icmp_ge 10 dX9_wrong_2 (by decide) (fun c2 => absurd c2 (by simp only [i_le, (show (0 : Int32).toInt = 0 from rfl)] <;> omega)) (fun c2 => ?_)
  refine aw_bipush (-4) dX9_wrong_5 (by decide) ?_
  refine aw_goto 21 dX9_wrong_7 (by decide) ?_
  exact aw_iret rfl dX9_wrong_21 (by decide) (by decide) ⟨rfl, rfl⟩
set_option maxHeartbeats 4000000 in
theorem X9_wrong_0_50_b {l : Launch} {G : xG} {h : List va_E} {v : Int32} (hv : 50 < v.toInt) : CD l G yX9_wrong cX9_wrong 3 (some .int) 0 0 0 [.int v, .int 0, .int 50] h (some (.int (-6))) h := by
  refine cm_of rfl (Nat.le_of_ble_eq_true rfl) [(0, .int v), (1, .int 0), (2, .int 50)] rfl ?_
  refine aw_iload_n 0 dX9_wrong_0 rfl rfl ?_
  refine aw_iload_n 1 dX9_wrong_1 rfl rfl ?_
  refine aw_icmp_ge 10 dX9_wrong_2 (by decide) (fun c2 => ?_) (fun c2 => absurd (by simp only [i_le, (show (0 : Int32).toInt = 0 from rfl)] <;> omega) c2)
  refine aw_iload_n 0 dX9_wrong_10 rfl rfl ?_
  refine aw_iload_n 2 dX9_wrong_11 rfl rfl ?_
  refine aw_icmp_le 20 dX9_wrong_12 (by decide) (fun c12 => absurd c12 (by simp only [i_le, (show (50 : Int32).toInt = 50 from rfl)] <;> omega)) (fun c12 => ?_)
  refine aw_bipush (-6) dX9_wrong_15 (by decide) ?_
  refine aw_goto 21 dX9_wrong_17 (by decide) ?_
  exact aw_iret rfl dX9_wrong_21 (by decide) (by decide) ⟨rfl, rfl⟩
set_option maxHeartbeats 4000000 in
theorem X9_wrong_0_50_o {l : Launch} {G : xG} {h : List va_E} {v : Int32} (hv : 0 ≤ v.toInt ∧ v.toInt ≤ 50) : CD l G yX9_wrong cX9_wrong 3 (some .int) 0 0 0 [.int v, .int 0, .int 50] h (some (.int 0)) h := by
  refine cm_of rfl (Nat.le_of_ble_eq_true rfl) [(0, .int v), (1, .int 0), (2, .int 50)] rfl ?_
  refine aw_iload_n 0 dX9_wrong_0 rfl rfl ?_
  refine aw_iload_n 1 dX9_wrong_1 rfl rfl ?_
  refine aw_icmp_ge 10 dX9_wrong_2 (by decide) (fun c2 => ?_) (fun c2 => absurd (by simp only [i_le, (show (0 : Int32).toInt = 0 from rfl)] <;> omega) c2)
  refine aw_iload_n 0 dX9_wrong_10 rfl rfl ?_
  refine aw_iload_n 2 dX9_wrong_11 rfl rfl ?_
  refine aw_icmp_le 20 dX9_wrong_12 (by decide) (fun c12 => ?_) (fun c12 => absurd (by simp only [i_le, (show (50 : Int32).toInt = 50 from rfl)] <;> omega) c12)
  refine aw_iconst (0) dX9_wrong_20 (by decide) ?_
  exact aw_iret rfl dX9_wrong_21 (by decide) (by decide) ⟨rfl, rfl⟩
set_option maxHeartbeats 4000000 in
theorem X9_wrong_0_9_a {l : Launch} {G : xG} {h : List va_E} {v : Int32} (hv : v.toInt < 0) : CD l G yX9_wrong cX9_wrong 3 (some .int) 0 0 0 [.int v, .int 0, .int 9] h (some (.int (-4))) h := by
  refine cm_of rfl (Nat.le_of_ble_eq_true rfl) [(0, .int v), (1, .int 0), (2, .int 9)] rfl ?_
  refine aw_iload_n 0 dX9_wrong_0 rfl rfl ?_
  refine aw_iload_n 1 dX9_wrong_1 rfl rfl ?_
  refine aw_icmp_ge 10 dX9_wrong_2 (by decide) (fun c2 => absurd c2 (by simp only [i_le, (show (0 : Int32).toInt = 0 from rfl)] <;> omega)) (fun c2 => ?_)
  refine aw_bipush (-4) dX9_wrong_5 (by decide) ?_
  refine aw_goto 21 dX9_wrong_7 (by decide) ?_
  exact aw_iret rfl dX9_wrong_21 (by decide) (by decide) ⟨rfl, rfl⟩
set_option maxHeartbeats 4000000 in
theorem X9_wrong_0_9_b {l : Launch} {G : xG} {h : List va_E} {v : Int32} (hv : 9 < v.toInt) : CD l G yX9_wrong cX9_wrong 3 (some .int) 0 0 0 [.int v, .int 0, .int 9] h (some (.int (-6))) h := by
  refine cm_of rfl (Nat.le_of_ble_eq_true rfl) [(0, .int v), (1, .int 0), (2, .int 9)] rfl ?_
  refine aw_iload_n 0 dX9_wrong_0 rfl rfl ?_
  refine aw_iload_n 1 dX9_wrong_1 rfl rfl ?_
  refine aw_icmp_ge 10 dX9_wrong_2 (by decide) (fun c2 => ?_) (fun c2 => absurd (by simp only [i_le, (show (0 : Int32).toInt = 0 from rfl)] <;> omega) c2)
  refine aw_iload_n 0 dX9_wrong_10 rfl rfl ?_
  refine aw_iload_n 2 dX9_wrong_11 rfl rfl ?_
  refine aw_icmp_le 20 dX9_wrong_12 (by decide) (fun c12 => absurd c12 (by simp only [i_le, (show (9 : Int32).toInt = 9 from rfl)] <;> omega)) (fun c12 => ?_)
  refine aw_bipush (-6) dX9_wrong_15 (by decide) ?_
  refine aw_goto 21 dX9_wrong_17 (by decide) ?_
  exact aw_iret rfl dX9_wrong_21 (by decide) (by decide) ⟨rfl, rfl⟩
set_option maxHeartbeats 4000000 in
theorem X9_wrong_0_9_o {l : Launch} {G : xG} {h : List va_E} {v : Int32} (hv : 0 ≤ v.toInt ∧ v.toInt ≤ 9) : CD l G yX9_wrong cX9_wrong 3 (some .int) 0 0 0 [.int v, .int 0, .int 9] h (some (.int 0)) h := by
  refine cm_of rfl (Nat.le_of_ble_eq_true rfl) [(0, .int v), (1, .int 0), (2, .int 9)] rfl ?_
  refine aw_iload_n 0 dX9_wrong_0 rfl rfl ?_
  refine aw_iload_n 1 dX9_wrong_1 rfl rfl ?_
  refine aw_icmp_ge 10 dX9_wrong_2 (by decide) (fun c2 => ?_) (fun c2 => absurd (by simp only [i_le, (show (0 : Int32).toInt = 0 from rfl)] <;> omega) c2)
  refine aw_iload_n 0 dX9_wrong_10 rfl rfl ?_
  refine aw_iload_n 2 dX9_wrong_11 rfl rfl ?_
  refine aw_icmp_le 20 dX9_wrong_12 (by decide) (fun c12 => ?_) (fun c12 => absurd (by simp only [i_le, (show (9 : Int32).toInt = 9 from rfl)] <;> omega) c12)
  refine aw_iconst (0) dX9_wrong_20 (by decide) ?_
  exact aw_iret rfl dX9_wrong_21 (by decide) (by decide) ⟨rfl, rfl⟩
set_option maxHeartbeats 4000000 in
theorem X9_wrong_0_80000_a {l : Launch} {G : xG} {h : List va_E} {v : Int32} (hv : v.toInt < 0) : CD l G yX9_wrong cX9_wrong 3 (some .int) 0 0 0 [.int v, .int 0, .int 80000] h (some (.int (-4))) h := by
  refine cm_of rfl (Nat.le_of_ble_eq_true rfl) [(0, .int v), (1, .int 0), (2, .int 80000)] rfl ?_
  refine aw_iload_n 0 dX9_wrong_0 rfl rfl ?_
  refine aw_iload_n 1 dX9_wrong_1 rfl rfl ?_
  refine aw_icmp_ge 10 dX9_wrong_2 (by decide) (fun c2 => absurd c2 (by simp only [i_le, (show (0 : Int32).toInt = 0 from rfl)] <;> omega)) (fun c2 => ?_)
  refine aw_bipush (-4) dX9_wrong_5 (by decide) ?_
  refine aw_goto 21 dX9_wrong_7 (by decide) ?_
  exact aw_iret rfl dX9_wrong_21 (by decide) (by decide) ⟨rfl, rfl⟩
set_option maxHeartbeats 4000000 in
theorem X9_wrong_0_80000_b {l : Launch} {G : xG} {h : List va_E} {v : Int32} (hv : 80000 < v.toInt) : CD l G yX9_wrong cX9_wrong 3 (some .int) 0 0 0 [.int v, .int 0, .int 80000] h (some (.int (-6))) h := by
  refine cm_of rfl (Nat.le_of_ble_eq_true rfl) [(0, .int v), (1, .int 0), (2, .int 80000)] rfl ?_
  refine aw_iload_n 0 dX9_wrong_0 rfl rfl ?_
  refine aw_iload_n 1 dX9_wrong_1 rfl rfl ?_
  refine aw_icmp_ge 10 dX9_wrong_2 (by decide) (fun c2 => ?_) (fun c2 => absurd (by simp only [i_le, (show (0 : Int32).toInt = 0 from rfl)] <;> omega) c2)
  refine aw_iload_n 0 dX9_wrong_10 rfl rfl ?_
  refine aw_iload_n 2 dX9_wrong_11 rfl rfl ?_
  refine aw_icmp_le 20 dX9_wrong_12 (by decide) (fun c12 => absurd c12 (by simp only [i_le, (show (80000 : Int32).toInt = 80000 from rfl)] <;> omega)) (fun c12 => ?_)
  refine aw_bipush (-6) dX9_wrong_15 (by decide) ?_
  refine aw_goto 21 dX9_wrong_17 (by decide) ?_
  exact aw_iret rfl dX9_wrong_21 (by decide) (by decide) ⟨rfl, rfl⟩
set_option maxHeartbeats 4000000 in
theorem X9_wrong_0_80000_o {l : Launch} {G : xG} {h : List va_E} {v : Int32} (hv : 0 ≤ v.toInt ∧ v.toInt ≤ 80000) : CD l G yX9_wrong cX9_wrong 3 (some .int) 0 0 0 [.int v, .int 0, .int 80000] h (some (.int 0)) h := by
  refine cm_of rfl (Nat.le_of_ble_eq_true rfl) [(0, .int v), (1, .int 0), (2, .int 80000)] rfl ?_
  refine aw_iload_n 0 dX9_wrong_0 rfl rfl ?_
  refine aw_iload_n 1 dX9_wrong_1 rfl rfl ?_
  refine aw_icmp_ge 10 dX9_wrong_2 (by decide) (fun c2 => ?_) (fun c2 => absurd (by simp only [i_le, (show (0 : Int32).toInt = 0 from rfl)] <;> omega) c2)
  refine aw_iload_n 0 dX9_wrong_10 rfl rfl ?_
  refine aw_iload_n 2 dX9_wrong_11 rfl rfl ?_
  refine aw_icmp_le 20 dX9_wrong_12 (by decide) (fun c12 => ?_) (fun c12 => absurd (by simp only [i_le, (show (80000 : Int32).toInt = 80000 from rfl)] <;> omega) c12)
  refine aw_iconst (0) dX9_wrong_20 (by decide) ?_
  exact aw_iret rfl dX9_wrong_21 (by decide) (by decide) ⟨rfl, rfl⟩
set_option maxHeartbeats 4000000 in
theorem X9_wrong_0_5_a {l : Launch} {G : xG} {h : List va_E} {v : Int32} (hv : v.toInt < 0) : CD l G yX9_wrong cX9_wrong 3 (some .int) 0 0 0 [.int v, .int 0, .int 5] h (some (.int (-4))) h := by
  refine cm_of rfl (Nat.le_of_ble_eq_true rfl) [(0, .int v), (1, .int 0), (2, .int 5)] rfl ?_
  refine aw_iload_n 0 dX9_wrong_0 rfl rfl ?_
  refine aw_iload_n 1 dX9_wrong_1 rfl rfl ?_
  refine aw_icmp_ge 10 dX9_wrong_2 (by decide) (fun c2 => absurd c2 (by simp only [i_le, (show (0 : Int32).toInt = 0 from rfl)] <;> omega)) (fun c2 => ?_)
  refine aw_bipush (-4) dX9_wrong_5 (by decide) ?_
  refine aw_goto 21 dX9_wrong_7 (by decide) ?_
  exact aw_iret rfl dX9_wrong_21 (by decide) (by decide) ⟨rfl, rfl⟩
set_option maxHeartbeats 4000000 in
theorem X9_wrong_0_5_b {l : Launch} {G : xG} {h : List va_E} {v : Int32} (hv : 5 < v.toInt) : CD l G yX9_wrong cX9_wrong 3 (some .int) 0 0 0 [.int v, .int 0, .int 5] h (some (.int (-6))) h := by
  refine cm_of rfl (Nat.le_of_ble_eq_true rfl) [(0, .int v), (1, .int 0), (2, .int 5)] rfl ?_
  refine aw_iload_n 0 dX9_wrong_0 rfl rfl ?_
  refine aw_iload_n 1 dX9_wrong_1 rfl rfl ?_
  refine aw_icmp_ge 10 dX9_wrong_2 (by decide) (fun c2 => ?_) (fun c2 => absurd (by simp only [i_le, (show (0 : Int32).toInt = 0 from rfl)] <;> omega) c2)
  refine aw_iload_n 0 dX9_wrong_10 rfl rfl ?_
  refine aw_iload_n 2 dX9_wrong_11 rfl rfl ?_
  refine aw_icmp_le 20 dX9_wrong_12 (by decide) (fun c12 => absurd c12 (by simp only [i_le, (show (5 : Int32).toInt = 5 from rfl)] <;> omega)) (fun c12 => ?_)
  refine aw_bipush (-6) dX9_wrong_15 (by decide) ?_
  refine aw_goto 21 dX9_wrong_17 (by decide) ?_
  exact aw_iret rfl dX9_wrong_21 (by decide) (by decide) ⟨rfl, rfl⟩
set_option maxHeartbeats 4000000 in
theorem X9_wrong_0_5_o {l : Launch} {G : xG} {h : List va_E} {v : Int32} (hv : 0 ≤ v.toInt ∧ v.toInt ≤ 5) : CD l G yX9_wrong cX9_wrong 3 (some .int) 0 0 0 [.int v, .int 0, .int 5] h (some (.int 0)) h := by
  refine cm_of rfl (Nat.le_of_ble_eq_true rfl) [(0, .int v), (1, .int 0), (2, .int 5)] rfl ?_
  refine aw_iload_n 0 dX9_wrong_0 rfl rfl ?_
  refine aw_iload_n 1 dX9_wrong_1 rfl rfl ?_
  refine aw_icmp_ge 10 dX9_wrong_2 (by decide) (fun c2 => ?_) (fun c2 => absurd (by simp only [i_le, (show (0 : Int32).toInt = 0 from rfl)] <;> omega) c2)
  refine aw_iload_n 0 dX9_wrong_10 rfl rfl ?_
  refine aw_iload_n 2 dX9_wrong_11 rfl rfl ?_
  refine aw_icmp_le 20 dX9_wrong_12 (by decide) (fun c12 => ?_) (fun c12 => absurd (by simp only [i_le, (show (5 : Int32).toInt = 5 from rfl)] <;> omega) c12)
  refine aw_iconst (0) dX9_wrong_20 (by decide) ?_
  exact aw_iret rfl dX9_wrong_21 (by decide) (by decide) ⟨rfl, rfl⟩
set_option maxHeartbeats 4000000 in
theorem X8_isEntry_f1 {l : Launch} {G : xG} {h : List va_E} {c i : Int32} (hF : xF8 G h) (hc : ¬ (0 ≤ c.toInt ∧ c.toInt < 4)) : CD l G yX8_isEntry cX8_isEntry 3 (some .boolean) 1 0 0 [.ref (G.1 + 0), .int c, .int i] h (some (.int 0)) h := by
  refine cm_of rfl (Nat.le_of_ble_eq_true rfl) [(0, .ref (G.1 + 0)), (1, .int c), (2, .int i)] rfl ?_
  refine aw_iload_n 1 dX8_isEntry_0 rfl rfl ?_
  refine aw_dS [.int c] [] lX8_81 sX8_isCatalogue mX8_isCatalogue dX8_isEntry_1 (X8_isCatalogue_f (by omega)) rfl (Nat.le_of_ble_eq_true rfl) (by decide) (by decide) rfl ?_
  refine aw_if_eq 28 dX8_isEntry_4 (by decide) (fun c4 => ?_) (fun c4 => absurd (by decide) c4)
  refine aw_iconst (0) dX8_isEntry_28 (by decide) ?_
  exact aw_zret rfl rfl dX8_isEntry_29 (by decide) (by decide) ⟨rfl, rfl⟩
set_option maxHeartbeats 4000000 in
theorem X8_isEntry_f2 {l : Launch} {G : xG} {h : List va_E} {c i : Int32} (hF : xF8 G h) (hc : 0 ≤ c.toInt ∧ c.toInt < 4) (hi : i.toInt < 0) : CD l G yX8_isEntry cX8_isEntry 3 (some .boolean) 1 0 0 [.ref (G.1 + 0), .int c, .int i] h (some (.int 0)) h := by
  refine cm_of rfl (Nat.le_of_ble_eq_true rfl) [(0, .ref (G.1 + 0)), (1, .int c), (2, .int i)] rfl ?_
  obtain ⟨c0, bc, ec⟩ := i_nat (N := 4) hc.1 hc.2
  refine aw_iload_n 1 dX8_isEntry_0 rfl rfl ?_
  refine aw_dS [.int c] [] lX8_81 sX8_isCatalogue mX8_isCatalogue dX8_isEntry_1 (X8_isCatalogue_t (by omega)) rfl (Nat.le_of_ble_eq_true rfl) (by decide) (by decide) rfl ?_
  refine aw_if_eq 28 dX8_isEntry_4 (by decide) (fun c4 => absurd c4 (by decide)) (fun c4 => ?_)
  refine aw_iload_n 2 dX8_isEntry_7 rfl rfl ?_
  refine aw_if_lt 28 dX8_isEntry_8 (by decide) (fun c8 => ?_) (fun c8 => absurd (by simp only [i_lt, (show (0 : Int32).toInt = 0 from rfl)] <;> omega) c8)
  refine aw_iconst (0) dX8_isEntry_28 (by decide) ?_
  exact aw_zret rfl rfl dX8_isEntry_29 (by decide) (by decide) ⟨rfl, rfl⟩
set_option maxHeartbeats 4000000 in
theorem X8_isEntry_f3 {l : Launch} {G : xG} {h : List va_E} {c i : Int32} (hF : xF8 G h) (hc : 0 ≤ c.toInt ∧ c.toInt < 4) (hi : 0 ≤ i.toInt) : CD l G yX8_isEntry cX8_isEntry 3 (some .boolean) 1 0 0 [.ref (G.1 + 0), .int c, .int i] h (some (.int 0)) h := by
  refine cm_of rfl (Nat.le_of_ble_eq_true rfl) [(0, .ref (G.1 + 0)), (1, .int c), (2, .int i)] rfl ?_
  obtain ⟨c0, bc, ec⟩ := i_nat (N := 4) hc.1 hc.2
  refine aw_iload_n 1 dX8_isEntry_0 rfl rfl ?_
  refine aw_dS [.int c] [] lX8_81 sX8_isCatalogue mX8_isCatalogue dX8_isEntry_1 (X8_isCatalogue_t (by omega)) rfl (Nat.le_of_ble_eq_true rfl) (by decide) (by decide) rfl ?_
  refine aw_if_eq 28 dX8_isEntry_4 (by decide) (fun c4 => absurd c4 (by decide)) (fun c4 => ?_)
  refine aw_iload_n 2 dX8_isEntry_7 rfl rfl ?_
  refine aw_if_lt 28 dX8_isEntry_8 (by decide) (fun c8 => absurd c8 (by simp only [i_lt, (show (0 : Int32).toInt = 0 from rfl)] <;> omega)) (fun c8 => ?_)
  refine aw_iload_n 2 dX8_isEntry_11 rfl rfl ?_
  refine aw_aload_n 0 dX8_isEntry_12 rfl rfl ?_
  refine aw_get fX8_20 dX8_isEntry_13 hF.1 rfl ?_
  refine aw_get fX8_91 dX8_isEntry_16 hF.2.1 rfl ?_
  refine aw_iload_n 1 dX8_isEntry_19 rfl rfl ?_
  refine aw_iald c0 (ec) (by omega) (by decide) dX8_isEntry_20 hF.2.2.2.2.2.1 ?_
  refine aw_toe 0 (rfl) ?_
  refine aw_icmp_ge 28 dX8_isEntry_21 (by decide) (fun c21 => ?_) (fun c21 => absurd (by simp only [i_le, (show (0 : Int32).toInt = 0 from rfl)] <;> omega) c21)
  refine aw_iconst (0) dX8_isEntry_28 (by decide) ?_
  exact aw_zret rfl rfl dX8_isEntry_29 (by decide) (by decide) ⟨rfl, rfl⟩
theorem X8_isEntry_f {l : Launch} {G : xG} {h : List va_E} {c i : Int32} (hF : xF8 G h) : CD l G yX8_isEntry cX8_isEntry 3 (some .boolean) 1 0 0 [.ref (G.1 + 0), .int c, .int i] h (some (.int 0)) h := by
  by_cases hc : 0 ≤ c.toInt ∧ c.toInt < 4
  · by_cases hi : i.toInt < 0
    · exact X8_isEntry_f2 hF hc hi
    · exact X8_isEntry_f3 hF hc (by omega)
  · exact X8_isEntry_f1 hF hc
set_option maxHeartbeats 4000000 in
theorem X9_isEntry_f1 {l : Launch} {G : xG} {h : List va_E} {c i : Int32} (hM : xF9 G h) (hc : ¬ (0 ≤ c.toInt ∧ c.toInt < 4)) : CD l G yX9_isEntry cX9_isEntry 3 (some .boolean) 1 0 0 [.ref (G.1 + 88), .int c, .int i] h (some (.int 0)) h := by
  refine cm_of rfl (Nat.le_of_ble_eq_true rfl) [(0, .ref (G.1 + 88)), (1, .int c), (2, .int i)] rfl ?_
  refine aw_iload_n 1 dX9_isEntry_0 rfl rfl ?_
  refine aw_iconst (4) dX9_isEntry_1 (by decide) ?_
  refine aw_dS [.int c, .int 4] [] lX9_126 sX9_isIn mX9_isIn dX9_isEntry_2 (X9_isIn4_f (by omega)) rfl (Nat.le_of_ble_eq_true rfl) (by decide) (by decide) rfl ?_
  refine aw_if_eq 25 dX9_isEntry_5 (by decide) (fun c5 => ?_) (fun c5 => absurd (by decide) c5)
  refine aw_iconst (0) dX9_isEntry_25 (by decide) ?_
  exact aw_zret rfl rfl dX9_isEntry_26 (by decide) (by decide) ⟨rfl, rfl⟩
set_option maxHeartbeats 4000000 in
theorem X9_isEntry_f2 {l : Launch} {G : xG} {h : List va_E} {c i : Int32} (hM : xF9 G h) (hc : 0 ≤ c.toInt ∧ c.toInt < 4) (hi : i.toInt < 0) : CD l G yX9_isEntry cX9_isEntry 3 (some .boolean) 1 0 0 [.ref (G.1 + 88), .int c, .int i] h (some (.int 0)) h := by
  refine cm_of rfl (Nat.le_of_ble_eq_true rfl) [(0, .ref (G.1 + 88)), (1, .int c), (2, .int i)] rfl ?_
  obtain ⟨c0, bc, ec⟩ := i_nat (N := 4) hc.1 hc.2
  refine aw_iload_n 1 dX9_isEntry_0 rfl rfl ?_
  refine aw_iconst (4) dX9_isEntry_1 (by decide) ?_
  refine aw_dS [.int c, .int 4] [] lX9_126 sX9_isIn mX9_isIn dX9_isEntry_2 (X9_isIn4_t (by omega)) rfl (Nat.le_of_ble_eq_true rfl) (by decide) (by decide) rfl ?_
  refine aw_if_eq 25 dX9_isEntry_5 (by decide) (fun c5 => absurd c5 (by decide)) (fun c5 => ?_)
  refine aw_iload_n 2 dX9_isEntry_8 rfl rfl ?_
  refine aw_aload_n 0 dX9_isEntry_9 rfl rfl ?_
  refine aw_get fX9_19 dX9_isEntry_10 hM.1 rfl ?_
  refine aw_iload_n 1 dX9_isEntry_13 rfl rfl ?_
  refine aw_iald c0 (ec) (by omega) (by decide) dX9_isEntry_14 hM.2.2.2.2.1 ?_
  refine aw_toe 0 (rfl) ?_
  refine aw_dS [.int i, .int 0] [] lX9_126 sX9_isIn mX9_isIn dX9_isEntry_15 (X9_isIn0_f) rfl (Nat.le_of_ble_eq_true rfl) (by decide) (by decide) rfl ?_
  refine aw_if_eq 25 dX9_isEntry_18 (by decide) (fun c18 => ?_) (fun c18 => absurd (by decide) c18)
  refine aw_iconst (0) dX9_isEntry_25 (by decide) ?_
  exact aw_zret rfl rfl dX9_isEntry_26 (by decide) (by decide) ⟨rfl, rfl⟩
set_option maxHeartbeats 4000000 in
theorem X9_isEntry_f3 {l : Launch} {G : xG} {h : List va_E} {c i : Int32} (hM : xF9 G h) (hc : 0 ≤ c.toInt ∧ c.toInt < 4) (hi : 0 ≤ i.toInt) : CD l G yX9_isEntry cX9_isEntry 3 (some .boolean) 1 0 0 [.ref (G.1 + 88), .int c, .int i] h (some (.int 0)) h := by
  refine cm_of rfl (Nat.le_of_ble_eq_true rfl) [(0, .ref (G.1 + 88)), (1, .int c), (2, .int i)] rfl ?_
  obtain ⟨c0, bc, ec⟩ := i_nat (N := 4) hc.1 hc.2
  refine aw_iload_n 1 dX9_isEntry_0 rfl rfl ?_
  refine aw_iconst (4) dX9_isEntry_1 (by decide) ?_
  refine aw_dS [.int c, .int 4] [] lX9_126 sX9_isIn mX9_isIn dX9_isEntry_2 (X9_isIn4_t (by omega)) rfl (Nat.le_of_ble_eq_true rfl) (by decide) (by decide) rfl ?_
  refine aw_if_eq 25 dX9_isEntry_5 (by decide) (fun c5 => absurd c5 (by decide)) (fun c5 => ?_)
  refine aw_iload_n 2 dX9_isEntry_8 rfl rfl ?_
  refine aw_aload_n 0 dX9_isEntry_9 rfl rfl ?_
  refine aw_get fX9_19 dX9_isEntry_10 hM.1 rfl ?_
  refine aw_iload_n 1 dX9_isEntry_13 rfl rfl ?_
  refine aw_iald c0 (ec) (by omega) (by decide) dX9_isEntry_14 hM.2.2.2.2.1 ?_
  refine aw_toe 0 (rfl) ?_
  refine aw_dS [.int i, .int 0] [] lX9_126 sX9_isIn mX9_isIn dX9_isEntry_15 (X9_isIn0_f) rfl (Nat.le_of_ble_eq_true rfl) (by decide) (by decide) rfl ?_
  refine aw_if_eq 25 dX9_isEntry_18 (by decide) (fun c18 => ?_) (fun c18 => absurd (by decide) c18)
  refine aw_iconst (0) dX9_isEntry_25 (by decide) ?_
  exact aw_zret rfl rfl dX9_isEntry_26 (by decide) (by decide) ⟨rfl, rfl⟩
theorem X9_isEntry_f {l : Launch} {G : xG} {h : List va_E} {c i : Int32} (hM : xF9 G h) : CD l G yX9_isEntry cX9_isEntry 3 (some .boolean) 1 0 0 [.ref (G.1 + 88), .int c, .int i] h (some (.int 0)) h := by
  by_cases hc : 0 ≤ c.toInt ∧ c.toInt < 4
  · by_cases hi : i.toInt < 0
    · exact X9_isEntry_f2 hM hc hi
    · exact X9_isEntry_f3 hM hc (by omega)
  · exact X9_isEntry_f1 hM hc
set_option maxHeartbeats 4000000 in
theorem X9_senseOf_o {l : Launch} {G : xG} {h : List va_E} {w : Int32} (hM : xF9 G h) (hw : 0 ≤ w.toInt ∧ w.toInt < 20) : CD l G yX9_senseOf cX9_senseOf 3 (some .int) 0 0 0 [.ref (G.1 + 88), .int w] h (some (.int w)) h := by
  refine cm_of rfl (Nat.le_of_ble_eq_true rfl) [(0, .ref (G.1 + 88)), (1, .int w)] rfl ?_
  obtain ⟨w0, bw, ew⟩ := i_nat (N := 20) hw.1 hw.2
  refine aw_iload_n 1 dX9_senseOf_0 rfl rfl ?_
  refine aw_istore_n [(2, .int w), (0, .ref (G.1 + 88)), (1, .int w)] dX9_senseOf_1 rfl (by decide) rfl ?_
  refine aw_aload_n 1 dX9_senseOf_2 rfl rfl ?_
  refine aw_get fX9_13 dX9_senseOf_3 hM.1 rfl ?_
  refine aw_iload_n 0 dX9_senseOf_6 rfl rfl ?_
  refine aw_iald w0 (ew) (by omega) (by decide) dX9_senseOf_7 hM.2.2.1 ?_
  refine aw_toe (nI w0) (xid_at (by omega)) ?_
  refine aw_iload_n 0 dX9_senseOf_8 rfl rfl ?_
  refine aw_icmp_eq 22 dX9_senseOf_9 (by decide) (fun c9 => ?_) (fun c9 => absurd (by simp only [i_eq, (nI_toInt (n := w0) (by omega)), (i_toNat (ew) (by omega))] <;> omega) c9)
  refine aw_iload_n 0 dX9_senseOf_22 rfl rfl ?_
  exact aw_iret rfl dX9_senseOf_23 (by decide) (by decide) ⟨rfl, rfl⟩
set_option maxHeartbeats 4000000 in
theorem A1a {l : Launch} {G : xG} {h : List va_E} {w : Int32} (hF : xF8 G h) (hw : ¬ (0 ≤ w.toInt ∧ w.toInt < 20)) : CE l G yX8_sense cX8_sense 2 (some .int) 2 0 0 [.ref (G.1 + 0), .int w] h (some (.int (-1))) (kp h) := by
  refine cm_of rfl (Nat.le_of_ble_eq_true rfl) [(0, .ref (G.1 + 0)), (1, .int w)] rfl ?_
  refine aw_iload_n 1 dX8_sense_0 rfl rfl ?_
  refine aw_dS [.int w] [] lX8_66 sX8_isWord mX8_isWord dX8_sense_1 (X8_isWord_f (by omega)) rfl (Nat.le_of_ble_eq_true rfl) (by decide) (by decide) rfl ?_
  refine aw_if_ne 13 dX8_sense_4 (by decide) (fun c4 => absurd (by decide) c4) (fun c4 => ?_)
  refine aw_aload_n 0 dX8_sense_7 rfl rfl ?_
  refine aw_iconst (-1) dX8_sense_8 (by decide) ?_
  refine aw_eV [.int (-1)] [] lX8_70 vX8_refuse mX8_refuse dX8_sense_9 (X8_refuse1 hF) hF.1 rfl rfl rfl (Nat.le_of_ble_eq_true rfl) (by decide) (by decide) rfl (fun h1 q2 => ?_)
  exact aw_iret rfl dX8_sense_12 (by decide) (by decide) ⟨rfl, (kp_tr (kp_rf h) q2)⟩
set_option maxHeartbeats 4000000 in
theorem B1a {l : Launch} {G : xG} {h : List va_E} {w : Int32} (hM : xF9 G h) (hw : ¬ (0 ≤ w.toInt ∧ w.toInt < 20)) : CE l G yX9_sense cX9_sense 2 (some .int) 2 0 0 [.ref (G.1 + 88), .int w] h (some (.int (-1))) (fun _ => True) := by
  refine cm_of rfl (Nat.le_of_ble_eq_true rfl) [(0, .ref (G.1 + 88)), (1, .int w)] rfl ?_
  refine aw_iload_n 1 dX9_sense_0 rfl rfl ?_
  refine aw_bipush (20) dX9_sense_1 (by decide) ?_
  refine aw_dS [.int w, .int 20] [] lX9_126 sX9_isIn mX9_isIn dX9_sense_3 (X9_isIn20_f (by omega)) rfl (Nat.le_of_ble_eq_true rfl) (by decide) (by decide) rfl ?_
  refine aw_if_eq 17 dX9_sense_6 (by decide) (fun c6 => ?_) (fun c6 => absurd (by decide) c6)
  refine aw_aload_n 0 dX9_sense_17 rfl rfl ?_
  refine aw_iconst (-1) dX9_sense_18 (by decide) ?_
  refine aw_eV [.int (-1)] [] lX9_130 vX9_refuse mX9_refuse dX9_sense_19 (X9_refuse1 hM) hM.1 rfl rfl rfl (Nat.le_of_ble_eq_true rfl) (by decide) (by decide) rfl (fun h3 q4 => ?_)
  exact aw_iret rfl dX9_sense_22 (by decide) (by decide) ⟨rfl, trivial⟩
set_option maxHeartbeats 4000000 in
theorem A1b {l : Launch} {G : xG} {h : List va_E} {w : Int32} (hF : xF8 G h) (hw : 0 ≤ w.toInt ∧ w.toInt < 20) : CE l G yX8_sense cX8_sense 2 (some .int) 2 0 0 [.ref (G.1 + 0), .int w] h (some (.int w)) (kp h) := by
  refine cm_of rfl (Nat.le_of_ble_eq_true rfl) [(0, .ref (G.1 + 0)), (1, .int w)] rfl ?_
  obtain ⟨w0, bw, ew⟩ := i_nat (N := 20) hw.1 hw.2
  refine aw_iload_n 1 dX8_sense_0 rfl rfl ?_
  refine aw_dS [.int w] [] lX8_66 sX8_isWord mX8_isWord dX8_sense_1 (X8_isWord_t (by omega)) rfl (Nat.le_of_ble_eq_true rfl) (by decide) (by decide) rfl ?_
  refine aw_if_ne 13 dX8_sense_4 (by decide) (fun c4 => ?_) (fun c4 => absurd c4 (by decide))
  refine aw_aload_n 0 dX8_sense_13 rfl rfl ?_
  refine aw_get fX8_20 dX8_sense_14 hF.1 rfl ?_
  refine aw_get fX8_78 dX8_sense_17 hF.2.1 rfl ?_
  refine aw_iload_n 1 dX8_sense_20 rfl rfl ?_
  refine aw_iald w0 (ew) (by omega) (by decide) dX8_sense_21 hF.2.2.2.1 ?_
  refine aw_toe (nI w0) (xid_at (by omega)) ?_
  exact aw_iret rfl dX8_sense_22 (by decide) (by decide) ⟨by rw [ew], kp_rf h⟩
set_option maxHeartbeats 4000000 in
theorem B1b {l : Launch} {G : xG} {h : List va_E} {w : Int32} (hM : xF9 G h) (hw : 0 ≤ w.toInt ∧ w.toInt < 20) : CE l G yX9_sense cX9_sense 2 (some .int) 2 0 0 [.ref (G.1 + 88), .int w] h (some (.int w)) (fun _ => True) := by
  refine cm_of rfl (Nat.le_of_ble_eq_true rfl) [(0, .ref (G.1 + 88)), (1, .int w)] rfl ?_
  obtain ⟨w0, bw, ew⟩ := i_nat (N := 20) hw.1 hw.2
  refine aw_iload_n 1 dX9_sense_0 rfl rfl ?_
  refine aw_bipush (20) dX9_sense_1 (by decide) ?_
  refine aw_dS [.int w, .int 20] [] lX9_126 sX9_isIn mX9_isIn dX9_sense_3 (X9_isIn20_t (by omega)) rfl (Nat.le_of_ble_eq_true rfl) (by decide) (by decide) rfl ?_
  refine aw_if_eq 17 dX9_sense_6 (by decide) (fun c6 => absurd c6 (by decide)) (fun c6 => ?_)
  refine aw_aload_n 0 dX9_sense_9 rfl rfl ?_
  refine aw_iload_n 1 dX9_sense_10 rfl rfl ?_
  refine aw_dV [.int w] [] lX9_134 vX9_senseOf mX9_senseOf dX9_sense_11 (X9_senseOf_o hM hw) hM.1 rfl rfl rfl (Nat.le_of_ble_eq_true rfl) (by decide) (by decide) rfl ?_
  refine aw_goto 22 dX9_sense_14 (by decide) ?_
  exact aw_iret rfl dX9_sense_22 (by decide) (by decide) ⟨rfl, trivial⟩
set_option maxHeartbeats 4000000 in
theorem X1_tellYear_o {l : Launch} {G : xG} {h : List va_E} {c y : Int32} (hF : xF8 G h) (hc : 0 ≤ c.toInt ∧ c.toInt < 4) : CE l G yX1_tellYear cX1_tellYear 4 (some .int) 0 0 0 [.ref (G.1 + 1), .int c, .int y] h (some (.int 1500)) (kp h) := by
  refine cm_of rfl (Nat.le_of_ble_eq_true rfl) [(0, .ref (G.1 + 1)), (1, .int c), (2, .int y)] rfl ?_
  obtain ⟨c0, bc, ec⟩ := i_nat (N := 4) hc.1 hc.2
  refine aw_aload_n 0 dX1_tellYear_0 rfl rfl ?_
  refine aw_get fX1_18 dX1_tellYear_1 hF.2.1 rfl ?_
  refine aw_iload_n 1 dX1_tellYear_4 rfl rfl ?_
  refine aw_iald c0 (ec) (by omega) (by decide) dX1_tellYear_5 hF.2.2.2.2.1 ?_
  refine aw_toe 1500 (xcs_at (by omega)) ?_
  refine aw_istore_n [(3, .int 1500), (0, .ref (G.1 + 1)), (1, .int c), (2, .int y)] dX1_tellYear_6 rfl (by decide) rfl ?_
  refine aw_aload_n 1 dX1_tellYear_7 rfl rfl ?_
  refine aw_get fX1_18 dX1_tellYear_8 hF.2.1 rfl ?_
  refine aw_iload_n 2 dX1_tellYear_11 rfl rfl ?_
  refine aw_iload_n 3 dX1_tellYear_12 rfl rfl ?_
  refine aw_iast c0 (ec) (by omega) (by decide) dX1_tellYear_13 hF.2.2.2.2.1 ?_
  refine aw_aload_n 1 dX1_tellYear_14 rfl rfl ?_
  refine aw_dup dX1_tellYear_15 rfl ?_
  refine aw_get fX1_53 dX1_tellYear_16 (gn (by decide) (hF.2.1)) rfl ?_
  refine aw_iconst (1) dX1_tellYear_19 (by decide) ?_
  refine aw_iadd dX1_tellYear_20 ?_
  refine aw_toe 2 (by decide) ?_
  refine aw_putQ fX1_53 dX1_tellYear_21 [.ref (G.1 + 2), .ref (G.1 + 3), .ref (G.1 + 4), .ref (G.1 + 5), .ref (G.1 + 6), .ref (G.1 + 7), .ref (G.1 + 8), .ref (G.1 + 9), .ref (G.1 + 10), .ref (G.1 + 11), .int 0, .int 5, .int 1, .int 2] (gn (by decide) (hF.2.1)) rfl rfl rfl (Nat.le_of_ble_eq_true rfl) rfl ?_
  refine aw_iload_n 0 dX1_tellYear_24 rfl rfl ?_
  exact aw_iret rfl dX1_tellYear_25 (by decide) (by decide) ⟨rfl, kp_set (kp_set (kp_rf h) (by decide)) (by decide)⟩
set_option maxHeartbeats 4000000 in
theorem A2a {l : Launch} {G : xG} {h : List va_E} {c y : Int32} (hF : xF8 G h) (hc : ¬ (0 ≤ c.toInt ∧ c.toInt < 4)) : CE l G yX8_year cX8_year 3 (some .int) 2 0 0 [.ref (G.1 + 0), .int c, .int y] h (some (.int (-1))) (kp h) := by
  refine cm_of rfl (Nat.le_of_ble_eq_true rfl) [(0, .ref (G.1 + 0)), (1, .int c), (2, .int y)] rfl ?_
  refine aw_iload_n 1 dX8_year_0 rfl rfl ?_
  refine aw_dS [.int c] [] lX8_81 sX8_isCatalogue mX8_isCatalogue dX8_year_1 (X8_isCatalogue_f (by omega)) rfl (Nat.le_of_ble_eq_true rfl) (by decide) (by decide) rfl ?_
  refine aw_if_ne 13 dX8_year_4 (by decide) (fun c4 => absurd (by decide) c4) (fun c4 => ?_)
  refine aw_aload_n 0 dX8_year_7 rfl rfl ?_
  refine aw_iconst (-1) dX8_year_8 (by decide) ?_
  refine aw_eV [.int (-1)] [] lX8_70 vX8_refuse mX8_refuse dX8_year_9 (X8_refuse1 hF) hF.1 rfl rfl rfl (Nat.le_of_ble_eq_true rfl) (by decide) (by decide) rfl (fun h5 q6 => ?_)
  exact aw_iret rfl dX8_year_12 (by decide) (by decide) ⟨rfl, (kp_tr (kp_rf h) q6)⟩
set_option maxHeartbeats 4000000 in
theorem B2a {l : Launch} {G : xG} {h : List va_E} {c y : Int32} (hM : xF9 G h) (hc : ¬ (0 ≤ c.toInt ∧ c.toInt < 4)) : CE l G yX9_year cX9_year 5 (some .int) 2 0 0 [.ref (G.1 + 88), .int c, .int y] h (some (.int (-1))) (fun _ => True) := by
  refine cm_of rfl (Nat.le_of_ble_eq_true rfl) [(0, .ref (G.1 + 88)), (1, .int c), (2, .int y)] rfl ?_
  refine aw_iload_n 1 dX9_year_0 rfl rfl ?_
  refine aw_iconst (4) dX9_year_1 (by decide) ?_
  refine aw_dS [.int c, .int 4] [] lX9_126 sX9_isIn mX9_isIn dX9_year_2 (X9_isIn4_f (by omega)) rfl (Nat.le_of_ble_eq_true rfl) (by decide) (by decide) rfl ?_
  refine aw_if_eq 21 dX9_year_5 (by decide) (fun c5 => ?_) (fun c5 => absurd (by decide) c5)
  refine aw_iconst (-1) dX9_year_21 (by decide) ?_
  refine aw_istore_n [(3, .int (-1)), (0, .ref (G.1 + 88)), (1, .int c), (2, .int y)] dX9_year_22 rfl (by decide) rfl ?_
  refine aw_iload_n 0 dX9_year_23 rfl rfl ?_
  refine aw_if_eq 33 dX9_year_24 (by decide) (fun c24 => absurd c24 (by decide)) (fun c24 => ?_)
  refine aw_aload_n 1 dX9_year_27 rfl rfl ?_
  refine aw_iload_n 0 dX9_year_28 rfl rfl ?_
  refine aw_eV [.int (-1)] [] lX9_130 vX9_refuse mX9_refuse dX9_year_29 (X9_refuse1 hM) hM.1 rfl rfl rfl (Nat.le_of_ble_eq_true rfl) (by decide) (by decide) rfl (fun h7 q8 => ?_)
  exact aw_iret rfl dX9_year_32 (by decide) (by decide) ⟨rfl, trivial⟩
set_option maxHeartbeats 4000000 in
theorem A2b {l : Launch} {G : xG} {h : List va_E} {c y : Int32} (hF : xF8 G h) (hc : 0 ≤ c.toInt ∧ c.toInt < 4) (hy : y.toInt < 1500) : CE l G yX8_year cX8_year 3 (some .int) 2 0 0 [.ref (G.1 + 0), .int c, .int y] h (some (.int (-4))) (kp h) := by
  refine cm_of rfl (Nat.le_of_ble_eq_true rfl) [(0, .ref (G.1 + 0)), (1, .int c), (2, .int y)] rfl ?_
  obtain ⟨c0, bc, ec⟩ := i_nat (N := 4) hc.1 hc.2
  refine aw_iload_n 1 dX8_year_0 rfl rfl ?_
  refine aw_dS [.int c] [] lX8_81 sX8_isCatalogue mX8_isCatalogue dX8_year_1 (X8_isCatalogue_t (by omega)) rfl (Nat.le_of_ble_eq_true rfl) (by decide) (by decide) rfl ?_
  refine aw_if_ne 13 dX8_year_4 (by decide) (fun c4 => ?_) (fun c4 => absurd c4 (by decide))
  refine aw_iload_n 2 dX8_year_13 rfl rfl ?_
  refine aw_sipush (1500) dX8_year_14 (by decide) ?_
  refine aw_icmp_ge 27 dX8_year_17 (by decide) (fun c17 => absurd c17 (by simp only [i_le, (show (1500 : Int32).toInt = 1500 from rfl)] <;> omega)) (fun c17 => ?_)
  refine aw_aload_n 0 dX8_year_20 rfl rfl ?_
  refine aw_bipush (-4) dX8_year_21 (by decide) ?_
  refine aw_eV [.int (-4)] [] lX8_70 vX8_refuse mX8_refuse dX8_year_23 (X8_refuse4 hF) hF.1 rfl rfl rfl (Nat.le_of_ble_eq_true rfl) (by decide) (by decide) rfl (fun h9 q10 => ?_)
  exact aw_iret rfl dX8_year_26 (by decide) (by decide) ⟨rfl, (kp_tr (kp_rf h) q10)⟩
set_option maxHeartbeats 4000000 in
theorem B2b {l : Launch} {G : xG} {h : List va_E} {c y : Int32} (hM : xF9 G h) (hc : 0 ≤ c.toInt ∧ c.toInt < 4) (hy : y.toInt < 1500) : CE l G yX9_year cX9_year 5 (some .int) 2 0 0 [.ref (G.1 + 88), .int c, .int y] h (some (.int (-4))) (fun _ => True) := by
  refine cm_of rfl (Nat.le_of_ble_eq_true rfl) [(0, .ref (G.1 + 88)), (1, .int c), (2, .int y)] rfl ?_
  obtain ⟨c0, bc, ec⟩ := i_nat (N := 4) hc.1 hc.2
  refine aw_iload_n 1 dX9_year_0 rfl rfl ?_
  refine aw_iconst (4) dX9_year_1 (by decide) ?_
  refine aw_dS [.int c, .int 4] [] lX9_126 sX9_isIn mX9_isIn dX9_year_2 (X9_isIn4_t (by omega)) rfl (Nat.le_of_ble_eq_true rfl) (by decide) (by decide) rfl ?_
  refine aw_if_eq 21 dX9_year_5 (by decide) (fun c5 => absurd c5 (by decide)) (fun c5 => ?_)
  refine aw_iload_n 2 dX9_year_8 rfl rfl ?_
  refine aw_sipush (1500) dX9_year_9 (by decide) ?_
  refine aw_sipush (1900) dX9_year_12 (by decide) ?_
  refine aw_dS [.int y, .int 1500, .int 1900] [] lX9_137 sX9_wrong mX9_wrong dX9_year_15 (X9_wrong_1500_1900_a (by omega)) rfl (Nat.le_of_ble_eq_true rfl) (by decide) (by decide) rfl ?_
  refine aw_goto 22 dX9_year_18 (by decide) ?_
  refine aw_istore_n [(3, .int (-4)), (0, .ref (G.1 + 88)), (1, .int c), (2, .int y)] dX9_year_22 rfl (by decide) rfl ?_
  refine aw_iload_n 0 dX9_year_23 rfl rfl ?_
  refine aw_if_eq 33 dX9_year_24 (by decide) (fun c24 => absurd c24 (by decide)) (fun c24 => ?_)
  refine aw_aload_n 1 dX9_year_27 rfl rfl ?_
  refine aw_iload_n 0 dX9_year_28 rfl rfl ?_
  refine aw_eV [.int (-4)] [] lX9_130 vX9_refuse mX9_refuse dX9_year_29 (X9_refuse4 hM) hM.1 rfl rfl rfl (Nat.le_of_ble_eq_true rfl) (by decide) (by decide) rfl (fun h11 q12 => ?_)
  exact aw_iret rfl dX9_year_32 (by decide) (by decide) ⟨rfl, trivial⟩
set_option maxHeartbeats 4000000 in
theorem A2c {l : Launch} {G : xG} {h : List va_E} {c y : Int32} (hF : xF8 G h) (hc : 0 ≤ c.toInt ∧ c.toInt < 4) (hy : 1900 < y.toInt) : CE l G yX8_year cX8_year 3 (some .int) 2 0 0 [.ref (G.1 + 0), .int c, .int y] h (some (.int (-6))) (kp h) := by
  refine cm_of rfl (Nat.le_of_ble_eq_true rfl) [(0, .ref (G.1 + 0)), (1, .int c), (2, .int y)] rfl ?_
  obtain ⟨c0, bc, ec⟩ := i_nat (N := 4) hc.1 hc.2
  refine aw_iload_n 1 dX8_year_0 rfl rfl ?_
  refine aw_dS [.int c] [] lX8_81 sX8_isCatalogue mX8_isCatalogue dX8_year_1 (X8_isCatalogue_t (by omega)) rfl (Nat.le_of_ble_eq_true rfl) (by decide) (by decide) rfl ?_
  refine aw_if_ne 13 dX8_year_4 (by decide) (fun c4 => ?_) (fun c4 => absurd c4 (by decide))
  refine aw_iload_n 2 dX8_year_13 rfl rfl ?_
  refine aw_sipush (1500) dX8_year_14 (by decide) ?_
  refine aw_icmp_ge 27 dX8_year_17 (by decide) (fun c17 => ?_) (fun c17 => absurd (by simp only [i_le, (show (1500 : Int32).toInt = 1500 from rfl)] <;> omega) c17)
  refine aw_iload_n 2 dX8_year_27 rfl rfl ?_
  refine aw_sipush (1900) dX8_year_28 (by decide) ?_
  refine aw_icmp_le 41 dX8_year_31 (by decide) (fun c31 => absurd c31 (by simp only [i_le, (show (1900 : Int32).toInt = 1900 from rfl)] <;> omega)) (fun c31 => ?_)
  refine aw_aload_n 0 dX8_year_34 rfl rfl ?_
  refine aw_bipush (-6) dX8_year_35 (by decide) ?_
  refine aw_eV [.int (-6)] [] lX8_70 vX8_refuse mX8_refuse dX8_year_37 (X8_refuse6 hF) hF.1 rfl rfl rfl (Nat.le_of_ble_eq_true rfl) (by decide) (by decide) rfl (fun h13 q14 => ?_)
  exact aw_iret rfl dX8_year_40 (by decide) (by decide) ⟨rfl, (kp_tr (kp_rf h) q14)⟩
set_option maxHeartbeats 4000000 in
theorem B2c {l : Launch} {G : xG} {h : List va_E} {c y : Int32} (hM : xF9 G h) (hc : 0 ≤ c.toInt ∧ c.toInt < 4) (hy : 1900 < y.toInt) : CE l G yX9_year cX9_year 5 (some .int) 2 0 0 [.ref (G.1 + 88), .int c, .int y] h (some (.int (-6))) (fun _ => True) := by
  refine cm_of rfl (Nat.le_of_ble_eq_true rfl) [(0, .ref (G.1 + 88)), (1, .int c), (2, .int y)] rfl ?_
  obtain ⟨c0, bc, ec⟩ := i_nat (N := 4) hc.1 hc.2
  refine aw_iload_n 1 dX9_year_0 rfl rfl ?_
  refine aw_iconst (4) dX9_year_1 (by decide) ?_
  refine aw_dS [.int c, .int 4] [] lX9_126 sX9_isIn mX9_isIn dX9_year_2 (X9_isIn4_t (by omega)) rfl (Nat.le_of_ble_eq_true rfl) (by decide) (by decide) rfl ?_
  refine aw_if_eq 21 dX9_year_5 (by decide) (fun c5 => absurd c5 (by decide)) (fun c5 => ?_)
  refine aw_iload_n 2 dX9_year_8 rfl rfl ?_
  refine aw_sipush (1500) dX9_year_9 (by decide) ?_
  refine aw_sipush (1900) dX9_year_12 (by decide) ?_
  refine aw_dS [.int y, .int 1500, .int 1900] [] lX9_137 sX9_wrong mX9_wrong dX9_year_15 (X9_wrong_1500_1900_b (by omega)) rfl (Nat.le_of_ble_eq_true rfl) (by decide) (by decide) rfl ?_
  refine aw_goto 22 dX9_year_18 (by decide) ?_
  refine aw_istore_n [(3, .int (-6)), (0, .ref (G.1 + 88)), (1, .int c), (2, .int y)] dX9_year_22 rfl (by decide) rfl ?_
  refine aw_iload_n 0 dX9_year_23 rfl rfl ?_
  refine aw_if_eq 33 dX9_year_24 (by decide) (fun c24 => absurd c24 (by decide)) (fun c24 => ?_)
  refine aw_aload_n 1 dX9_year_27 rfl rfl ?_
  refine aw_iload_n 0 dX9_year_28 rfl rfl ?_
  refine aw_eV [.int (-6)] [] lX9_130 vX9_refuse mX9_refuse dX9_year_29 (X9_refuse6 hM) hM.1 rfl rfl rfl (Nat.le_of_ble_eq_true rfl) (by decide) (by decide) rfl (fun h15 q16 => ?_)
  exact aw_iret rfl dX9_year_32 (by decide) (by decide) ⟨rfl, trivial⟩
set_option maxHeartbeats 4000000 in
theorem A2d {l : Launch} {G : xG} {h : List va_E} {c y : Int32} (hF : xF8 G h) (hc : 0 ≤ c.toInt ∧ c.toInt < 4) (hy : 1500 ≤ y.toInt ∧ y.toInt ≤ 1900) : CE l G yX8_year cX8_year 3 (some .int) 2 0 0 [.ref (G.1 + 0), .int c, .int y] h (some (.int 1500)) (kp h) := by
  refine cm_of rfl (Nat.le_of_ble_eq_true rfl) [(0, .ref (G.1 + 0)), (1, .int c), (2, .int y)] rfl ?_
  obtain ⟨c0, bc, ec⟩ := i_nat (N := 4) hc.1 hc.2
  refine aw_iload_n 1 dX8_year_0 rfl rfl ?_
  refine aw_dS [.int c] [] lX8_81 sX8_isCatalogue mX8_isCatalogue dX8_year_1 (X8_isCatalogue_t (by omega)) rfl (Nat.le_of_ble_eq_true rfl) (by decide) (by decide) rfl ?_
  refine aw_if_ne 13 dX8_year_4 (by decide) (fun c4 => ?_) (fun c4 => absurd c4 (by decide))
  refine aw_iload_n 2 dX8_year_13 rfl rfl ?_
  refine aw_sipush (1500) dX8_year_14 (by decide) ?_
  refine aw_icmp_ge 27 dX8_year_17 (by decide) (fun c17 => ?_) (fun c17 => absurd (by simp only [i_le, (show (1500 : Int32).toInt = 1500 from rfl)] <;> omega) c17)
  refine aw_iload_n 2 dX8_year_27 rfl rfl ?_
  refine aw_sipush (1900) dX8_year_28 (by decide) ?_
  refine aw_icmp_le 41 dX8_year_31 (by decide) (fun c31 => ?_) (fun c31 => absurd (by simp only [i_le, (show (1900 : Int32).toInt = 1900 from rfl)] <;> omega) c31)
  refine aw_aload_n 0 dX8_year_41 rfl rfl ?_
  refine aw_get fX8_20 dX8_year_42 hF.1 rfl ?_
  refine aw_iload_n 1 dX8_year_45 rfl rfl ?_
  refine aw_iload_n 2 dX8_year_46 rfl rfl ?_
  refine aw_eV [.int c, .int y] [] lX8_84 vX1_tellYear mX1_tellYear dX8_year_47 (X1_tellYear_o hF hc) hF.2.1 rfl rfl rfl (Nat.le_of_ble_eq_true rfl) (by decide) (by decide) rfl (fun h17 q18 => ?_)
  exact aw_iret rfl dX8_year_50 (by decide) (by decide) ⟨rfl, (kp_tr (kp_rf h) q18)⟩
set_option maxHeartbeats 4000000 in
theorem B2d {l : Launch} {G : xG} {h : List va_E} {c y : Int32} (hM : xF9 G h) (hc : 0 ≤ c.toInt ∧ c.toInt < 4) (hy : 1500 ≤ y.toInt ∧ y.toInt ≤ 1900) : CE l G yX9_year cX9_year 5 (some .int) 2 0 0 [.ref (G.1 + 88), .int c, .int y] h (some (.int 1500)) (fun _ => True) := by
  refine cm_of rfl (Nat.le_of_ble_eq_true rfl) [(0, .ref (G.1 + 88)), (1, .int c), (2, .int y)] rfl ?_
  obtain ⟨c0, bc, ec⟩ := i_nat (N := 4) hc.1 hc.2
  refine aw_iload_n 1 dX9_year_0 rfl rfl ?_
  refine aw_iconst (4) dX9_year_1 (by decide) ?_
  refine aw_dS [.int c, .int 4] [] lX9_126 sX9_isIn mX9_isIn dX9_year_2 (X9_isIn4_t (by omega)) rfl (Nat.le_of_ble_eq_true rfl) (by decide) (by decide) rfl ?_
  refine aw_if_eq 21 dX9_year_5 (by decide) (fun c5 => absurd c5 (by decide)) (fun c5 => ?_)
  refine aw_iload_n 2 dX9_year_8 rfl rfl ?_
  refine aw_sipush (1500) dX9_year_9 (by decide) ?_
  refine aw_sipush (1900) dX9_year_12 (by decide) ?_
  refine aw_dS [.int y, .int 1500, .int 1900] [] lX9_137 sX9_wrong mX9_wrong dX9_year_15 (X9_wrong_1500_1900_o (by omega)) rfl (Nat.le_of_ble_eq_true rfl) (by decide) (by decide) rfl ?_
  refine aw_goto 22 dX9_year_18 (by decide) ?_
  refine aw_istore_n [(3, .int 0), (0, .ref (G.1 + 88)), (1, .int c), (2, .int y)] dX9_year_22 rfl (by decide) rfl ?_
  refine aw_iload_n 0 dX9_year_23 rfl rfl ?_
  refine aw_if_eq 33 dX9_year_24 (by decide) (fun c24 => ?_) (fun c24 => absurd (by decide) c24)
  refine aw_aload_n 1 dX9_year_33 rfl rfl ?_
  refine aw_get fX9_16 dX9_year_34 hM.1 rfl ?_
  refine aw_iload_n 2 dX9_year_37 rfl rfl ?_
  refine aw_iald c0 (ec) (by omega) (by decide) dX9_year_38 hM.2.2.2.1 ?_
  refine aw_toe 1500 (xcs_at (by omega)) ?_
  refine aw_istore [(4, .int 1500), (3, .int 0), (0, .ref (G.1 + 88)), (1, .int c), (2, .int y)] dX9_year_39 (by decide) rfl ?_
  refine aw_aload_n 2 dX9_year_41 rfl rfl ?_
  refine aw_get fX9_16 dX9_year_42 hM.1 rfl ?_
  refine aw_iload_n 3 dX9_year_45 rfl rfl ?_
  refine aw_iload_n 4 dX9_year_46 rfl rfl ?_
  refine aw_iast c0 (ec) (by omega) (by decide) dX9_year_47 hM.2.2.2.1 ?_
  refine aw_iload 0 dX9_year_48 rfl ?_
  exact aw_iret rfl dX9_year_50 (by decide) (by decide) ⟨rfl, trivial⟩
set_option maxHeartbeats 4000000 in
theorem X1_tellSpare_o {l : Launch} {G : xG} {h : List va_E} {v : Int32} (hF : xF8 G h) : CE l G yX1_tellSpare cX1_tellSpare 3 (some .int) 0 0 0 [.ref (G.1 + 1), .int v] h (some (.int 5)) (kp h) := by
  refine cm_of rfl (Nat.le_of_ble_eq_true rfl) [(0, .ref (G.1 + 1)), (1, .int v)] rfl ?_
  refine aw_aload_n 0 dX1_tellSpare_0 rfl rfl ?_
  refine aw_get fX1_47 dX1_tellSpare_1 hF.2.1 rfl ?_
  refine aw_istore_n [(2, .int 5), (0, .ref (G.1 + 1)), (1, .int v)] dX1_tellSpare_4 rfl (by decide) rfl ?_
  refine aw_aload_n 1 dX1_tellSpare_5 rfl rfl ?_
  refine aw_iload_n 2 dX1_tellSpare_6 rfl rfl ?_
  refine aw_putQ fX1_47 dX1_tellSpare_7 [.ref (G.1 + 2), .ref (G.1 + 3), .ref (G.1 + 4), .ref (G.1 + 5), .ref (G.1 + 6), .ref (G.1 + 7), .ref (G.1 + 8), .ref (G.1 + 9), .ref (G.1 + 10), .ref (G.1 + 11), .int 0, .int v, .int 1, .int 1] hF.2.1 rfl rfl rfl (Nat.le_of_ble_eq_true rfl) rfl ?_
  refine aw_aload_n 1 dX1_tellSpare_10 rfl rfl ?_
  refine aw_dup dX1_tellSpare_11 rfl ?_
  refine aw_get fX1_53 dX1_tellSpare_12 (gs hF.2.1) rfl ?_
  refine aw_iconst (1) dX1_tellSpare_15 (by decide) ?_
  refine aw_iadd dX1_tellSpare_16 ?_
  refine aw_toe 2 (by decide) ?_
  refine aw_putQ fX1_53 dX1_tellSpare_17 [.ref (G.1 + 2), .ref (G.1 + 3), .ref (G.1 + 4), .ref (G.1 + 5), .ref (G.1 + 6), .ref (G.1 + 7), .ref (G.1 + 8), .ref (G.1 + 9), .ref (G.1 + 10), .ref (G.1 + 11), .int 0, .int v, .int 1, .int 2] (gs hF.2.1) rfl rfl rfl (Nat.le_of_ble_eq_true rfl) rfl ?_
  refine aw_iload_n 0 dX1_tellSpare_20 rfl rfl ?_
  exact aw_iret rfl dX1_tellSpare_21 (by decide) (by decide) ⟨rfl, kp_set (kp_set (kp_rf h) (by decide)) (by decide)⟩
set_option maxHeartbeats 4000000 in
theorem X1_tellFade_o {l : Launch} {G : xG} {h : List va_E} {v : Int32} (hF : xF8 G h) : CE l G yX1_tellFade cX1_tellFade 3 (some .int) 0 0 0 [.ref (G.1 + 1), .int v] h (some (.int 1)) (kp h) := by
  refine cm_of rfl (Nat.le_of_ble_eq_true rfl) [(0, .ref (G.1 + 1)), (1, .int v)] rfl ?_
  refine aw_aload_n 0 dX1_tellFade_0 rfl rfl ?_
  refine aw_get fX1_50 dX1_tellFade_1 hF.2.1 rfl ?_
  refine aw_istore_n [(2, .int 1), (0, .ref (G.1 + 1)), (1, .int v)] dX1_tellFade_4 rfl (by decide) rfl ?_
  refine aw_aload_n 1 dX1_tellFade_5 rfl rfl ?_
  refine aw_iload_n 2 dX1_tellFade_6 rfl rfl ?_
  refine aw_putQ fX1_50 dX1_tellFade_7 [.ref (G.1 + 2), .ref (G.1 + 3), .ref (G.1 + 4), .ref (G.1 + 5), .ref (G.1 + 6), .ref (G.1 + 7), .ref (G.1 + 8), .ref (G.1 + 9), .ref (G.1 + 10), .ref (G.1 + 11), .int 0, .int 5, .int v, .int 1] hF.2.1 rfl rfl rfl (Nat.le_of_ble_eq_true rfl) rfl ?_
  refine aw_aload_n 1 dX1_tellFade_10 rfl rfl ?_
  refine aw_dup dX1_tellFade_11 rfl ?_
  refine aw_get fX1_53 dX1_tellFade_12 (gs hF.2.1) rfl ?_
  refine aw_iconst (1) dX1_tellFade_15 (by decide) ?_
  refine aw_iadd dX1_tellFade_16 ?_
  refine aw_toe 2 (by decide) ?_
  refine aw_putQ fX1_53 dX1_tellFade_17 [.ref (G.1 + 2), .ref (G.1 + 3), .ref (G.1 + 4), .ref (G.1 + 5), .ref (G.1 + 6), .ref (G.1 + 7), .ref (G.1 + 8), .ref (G.1 + 9), .ref (G.1 + 10), .ref (G.1 + 11), .int 0, .int 5, .int v, .int 2] (gs hF.2.1) rfl rfl rfl (Nat.le_of_ble_eq_true rfl) rfl ?_
  refine aw_iload_n 0 dX1_tellFade_20 rfl rfl ?_
  exact aw_iret rfl dX1_tellFade_21 (by decide) (by decide) ⟨rfl, kp_set (kp_set (kp_rf h) (by decide)) (by decide)⟩
set_option maxHeartbeats 4000000 in
theorem A4a {l : Launch} {G : xG} {h : List va_E} {w v : Int32} (hF : xF8 G h) (hw : ¬ (0 ≤ w.toInt ∧ w.toInt < 2)) : CE l G yX8_set cX8_set 3 (some .int) 2 0 0 [.ref (G.1 + 0), .int w, .int v] h (some (.int (-2))) (kp h) := by
  refine cm_of rfl (Nat.le_of_ble_eq_true rfl) [(0, .ref (G.1 + 0)), (1, .int w), (2, .int v)] rfl ?_
  refine aw_iload_n 1 dX8_set_0 rfl rfl ?_
  refine aw_if_eq 16 dX8_set_1 (by decide) (fun c1 => absurd c1 (by simp only [i_eq, (show (0 : Int32).toInt = 0 from rfl)] <;> omega)) (fun c1 => ?_)
  refine aw_iload_n 1 dX8_set_4 rfl rfl ?_
  refine aw_iconst (1) dX8_set_5 (by decide) ?_
  refine aw_icmp_eq 16 dX8_set_6 (by decide) (fun c6 => absurd c6 (by simp only [i_eq, (show (1 : Int32).toInt = 1 from rfl)] <;> omega)) (fun c6 => ?_)
  refine aw_aload_n 0 dX8_set_9 rfl rfl ?_
  refine aw_bipush (-2) dX8_set_10 (by decide) ?_
  refine aw_eV [.int (-2)] [] lX8_70 vX8_refuse mX8_refuse dX8_set_12 (X8_refuse2 hF) hF.1 rfl rfl rfl (Nat.le_of_ble_eq_true rfl) (by decide) (by decide) rfl (fun h19 q20 => ?_)
  exact aw_iret rfl dX8_set_15 (by decide) (by decide) ⟨rfl, (kp_tr (kp_rf h) q20)⟩
set_option maxHeartbeats 4000000 in
theorem B4a {l : Launch} {G : xG} {h : List va_E} {w v : Int32} (hM : xF9 G h) (hw : ¬ (0 ≤ w.toInt ∧ w.toInt < 2)) : CE l G yX9_set cX9_set 5 (some .int) 2 0 0 [.ref (G.1 + 88), .int w, .int v] h (some (.int (-2))) (fun _ => True) := by
  refine cm_of rfl (Nat.le_of_ble_eq_true rfl) [(0, .ref (G.1 + 88)), (1, .int w), (2, .int v)] rfl ?_
  refine aw_iload_n 1 dX9_set_0 rfl rfl ?_
  refine aw_iconst (2) dX9_set_1 (by decide) ?_
  refine aw_dS [.int w, .int 2] [] lX9_126 sX9_isIn mX9_isIn dX9_set_2 (X9_isIn2_f (by omega)) rfl (Nat.le_of_ble_eq_true rfl) (by decide) (by decide) rfl ?_
  refine aw_if_eq 27 dX9_set_5 (by decide) (fun c5 => ?_) (fun c5 => absurd (by decide) c5)
  refine aw_bipush (-2) dX9_set_27 (by decide) ?_
  refine aw_istore_n [(3, .int (-2)), (0, .ref (G.1 + 88)), (1, .int w), (2, .int v)] dX9_set_29 rfl (by decide) rfl ?_
  refine aw_iload_n 0 dX9_set_30 rfl rfl ?_
  refine aw_if_eq 40 dX9_set_31 (by decide) (fun c31 => absurd c31 (by decide)) (fun c31 => ?_)
  refine aw_aload_n 1 dX9_set_34 rfl rfl ?_
  refine aw_iload_n 0 dX9_set_35 rfl rfl ?_
  refine aw_eV [.int (-2)] [] lX9_130 vX9_refuse mX9_refuse dX9_set_36 (X9_refuse2 hM) hM.1 rfl rfl rfl (Nat.le_of_ble_eq_true rfl) (by decide) (by decide) rfl (fun h21 q22 => ?_)
  exact aw_iret rfl dX9_set_39 (by decide) (by decide) ⟨rfl, trivial⟩
set_option maxHeartbeats 4000000 in
theorem A4b {l : Launch} {G : xG} {h : List va_E} {w v : Int32} (hF : xF8 G h) (hw : w.toInt = 0) (hv : v.toInt < 0) : CE l G yX8_set cX8_set 3 (some .int) 2 0 0 [.ref (G.1 + 0), .int w, .int v] h (some (.int (-4))) (kp h) := by
  refine cm_of rfl (Nat.le_of_ble_eq_true rfl) [(0, .ref (G.1 + 0)), (1, .int w), (2, .int v)] rfl ?_
  refine aw_iload_n 1 dX8_set_0 rfl rfl ?_
  refine aw_if_eq 16 dX8_set_1 (by decide) (fun c1 => ?_) (fun c1 => absurd (by simp only [i_eq, (show (0 : Int32).toInt = 0 from rfl)] <;> omega) c1)
  refine aw_iload_n 2 dX8_set_16 rfl rfl ?_
  refine aw_if_ge 27 dX8_set_17 (by decide) (fun c17 => absurd c17 (by simp only [i_le, (show (0 : Int32).toInt = 0 from rfl)] <;> omega)) (fun c17 => ?_)
  refine aw_aload_n 0 dX8_set_20 rfl rfl ?_
  refine aw_bipush (-4) dX8_set_21 (by decide) ?_
  refine aw_eV [.int (-4)] [] lX8_70 vX8_refuse mX8_refuse dX8_set_23 (X8_refuse4 hF) hF.1 rfl rfl rfl (Nat.le_of_ble_eq_true rfl) (by decide) (by decide) rfl (fun h23 q24 => ?_)
  exact aw_iret rfl dX8_set_26 (by decide) (by decide) ⟨rfl, (kp_tr (kp_rf h) q24)⟩
set_option maxHeartbeats 4000000 in
theorem B4b {l : Launch} {G : xG} {h : List va_E} {w v : Int32} (hM : xF9 G h) (hw : w.toInt = 0) (hv : v.toInt < 0) : CE l G yX9_set cX9_set 5 (some .int) 2 0 0 [.ref (G.1 + 88), .int w, .int v] h (some (.int (-4))) (fun _ => True) := by
  refine cm_of rfl (Nat.le_of_ble_eq_true rfl) [(0, .ref (G.1 + 88)), (1, .int w), (2, .int v)] rfl ?_
  refine aw_iload_n 1 dX9_set_0 rfl rfl ?_
  refine aw_iconst (2) dX9_set_1 (by decide) ?_
  refine aw_dS [.int w, .int 2] [] lX9_126 sX9_isIn mX9_isIn dX9_set_2 (X9_isIn2_t (by omega)) rfl (Nat.le_of_ble_eq_true rfl) (by decide) (by decide) rfl ?_
  refine aw_if_eq 27 dX9_set_5 (by decide) (fun c5 => absurd c5 (by decide)) (fun c5 => ?_)
  refine aw_iload_n 2 dX9_set_8 rfl rfl ?_
  refine aw_iconst (0) dX9_set_9 (by decide) ?_
  refine aw_iload_n 1 dX9_set_10 rfl rfl ?_
  refine aw_if_ne 19 dX9_set_11 (by decide) (fun c11 => absurd (by simp only [i_eq, (show (0 : Int32).toInt = 0 from rfl)] <;> omega) c11) (fun c11 => ?_)
  refine aw_bipush (50) dX9_set_14 (by decide) ?_
  refine aw_goto 21 dX9_set_16 (by decide) ?_
  refine aw_dS [.int v, .int 0, .int 50] [] lX9_137 sX9_wrong mX9_wrong dX9_set_21 (X9_wrong_0_50_a (by omega)) rfl (Nat.le_of_ble_eq_true rfl) (by decide) (by decide) rfl ?_
  refine aw_goto 29 dX9_set_24 (by decide) ?_
  refine aw_istore_n [(3, .int (-4)), (0, .ref (G.1 + 88)), (1, .int w), (2, .int v)] dX9_set_29 rfl (by decide) rfl ?_
  refine aw_iload_n 0 dX9_set_30 rfl rfl ?_
  refine aw_if_eq 40 dX9_set_31 (by decide) (fun c31 => absurd c31 (by decide)) (fun c31 => ?_)
  refine aw_aload_n 1 dX9_set_34 rfl rfl ?_
  refine aw_iload_n 0 dX9_set_35 rfl rfl ?_
  refine aw_eV [.int (-4)] [] lX9_130 vX9_refuse mX9_refuse dX9_set_36 (X9_refuse4 hM) hM.1 rfl rfl rfl (Nat.le_of_ble_eq_true rfl) (by decide) (by decide) rfl (fun h25 q26 => ?_)
  exact aw_iret rfl dX9_set_39 (by decide) (by decide) ⟨rfl, trivial⟩
set_option maxHeartbeats 4000000 in
theorem A4c {l : Launch} {G : xG} {h : List va_E} {w v : Int32} (hF : xF8 G h) (hw : w.toInt = 1) (hv : v.toInt < 0) : CE l G yX8_set cX8_set 3 (some .int) 2 0 0 [.ref (G.1 + 0), .int w, .int v] h (some (.int (-4))) (kp h) := by
  refine cm_of rfl (Nat.le_of_ble_eq_true rfl) [(0, .ref (G.1 + 0)), (1, .int w), (2, .int v)] rfl ?_
  refine aw_iload_n 1 dX8_set_0 rfl rfl ?_
  refine aw_if_eq 16 dX8_set_1 (by decide) (fun c1 => absurd c1 (by simp only [i_eq, (show (0 : Int32).toInt = 0 from rfl)] <;> omega)) (fun c1 => ?_)
  refine aw_iload_n 1 dX8_set_4 rfl rfl ?_
  refine aw_iconst (1) dX8_set_5 (by decide) ?_
  refine aw_icmp_eq 16 dX8_set_6 (by decide) (fun c6 => ?_) (fun c6 => absurd (by simp only [i_eq, (show (1 : Int32).toInt = 1 from rfl)] <;> omega) c6)
  refine aw_iload_n 2 dX8_set_16 rfl rfl ?_
  refine aw_if_ge 27 dX8_set_17 (by decide) (fun c17 => absurd c17 (by simp only [i_le, (show (0 : Int32).toInt = 0 from rfl)] <;> omega)) (fun c17 => ?_)
  refine aw_aload_n 0 dX8_set_20 rfl rfl ?_
  refine aw_bipush (-4) dX8_set_21 (by decide) ?_
  refine aw_eV [.int (-4)] [] lX8_70 vX8_refuse mX8_refuse dX8_set_23 (X8_refuse4 hF) hF.1 rfl rfl rfl (Nat.le_of_ble_eq_true rfl) (by decide) (by decide) rfl (fun h27 q28 => ?_)
  exact aw_iret rfl dX8_set_26 (by decide) (by decide) ⟨rfl, (kp_tr (kp_rf h) q28)⟩
set_option maxHeartbeats 4000000 in
theorem B4c {l : Launch} {G : xG} {h : List va_E} {w v : Int32} (hM : xF9 G h) (hw : w.toInt = 1) (hv : v.toInt < 0) : CE l G yX9_set cX9_set 5 (some .int) 2 0 0 [.ref (G.1 + 88), .int w, .int v] h (some (.int (-4))) (fun _ => True) := by
  refine cm_of rfl (Nat.le_of_ble_eq_true rfl) [(0, .ref (G.1 + 88)), (1, .int w), (2, .int v)] rfl ?_
  refine aw_iload_n 1 dX9_set_0 rfl rfl ?_
  refine aw_iconst (2) dX9_set_1 (by decide) ?_
  refine aw_dS [.int w, .int 2] [] lX9_126 sX9_isIn mX9_isIn dX9_set_2 (X9_isIn2_t (by omega)) rfl (Nat.le_of_ble_eq_true rfl) (by decide) (by decide) rfl ?_
  refine aw_if_eq 27 dX9_set_5 (by decide) (fun c5 => absurd c5 (by decide)) (fun c5 => ?_)
  refine aw_iload_n 2 dX9_set_8 rfl rfl ?_
  refine aw_iconst (0) dX9_set_9 (by decide) ?_
  refine aw_iload_n 1 dX9_set_10 rfl rfl ?_
  refine aw_if_ne 19 dX9_set_11 (by decide) (fun c11 => ?_) (fun c11 => absurd c11 (by simp only [i_eq, (show (0 : Int32).toInt = 0 from rfl)] <;> omega))
  refine aw_bipush (9) dX9_set_19 (by decide) ?_
  refine aw_dS [.int v, .int 0, .int 9] [] lX9_137 sX9_wrong mX9_wrong dX9_set_21 (X9_wrong_0_9_a (by omega)) rfl (Nat.le_of_ble_eq_true rfl) (by decide) (by decide) rfl ?_
  refine aw_goto 29 dX9_set_24 (by decide) ?_
  refine aw_istore_n [(3, .int (-4)), (0, .ref (G.1 + 88)), (1, .int w), (2, .int v)] dX9_set_29 rfl (by decide) rfl ?_
  refine aw_iload_n 0 dX9_set_30 rfl rfl ?_
  refine aw_if_eq 40 dX9_set_31 (by decide) (fun c31 => absurd c31 (by decide)) (fun c31 => ?_)
  refine aw_aload_n 1 dX9_set_34 rfl rfl ?_
  refine aw_iload_n 0 dX9_set_35 rfl rfl ?_
  refine aw_eV [.int (-4)] [] lX9_130 vX9_refuse mX9_refuse dX9_set_36 (X9_refuse4 hM) hM.1 rfl rfl rfl (Nat.le_of_ble_eq_true rfl) (by decide) (by decide) rfl (fun h29 q30 => ?_)
  exact aw_iret rfl dX9_set_39 (by decide) (by decide) ⟨rfl, trivial⟩
set_option maxHeartbeats 4000000 in
theorem A4d {l : Launch} {G : xG} {h : List va_E} {w v : Int32} (hF : xF8 G h) (hw : w.toInt = 0) (hv : 50 < v.toInt) : CE l G yX8_set cX8_set 3 (some .int) 2 0 0 [.ref (G.1 + 0), .int w, .int v] h (some (.int (-6))) (kp h) := by
  refine cm_of rfl (Nat.le_of_ble_eq_true rfl) [(0, .ref (G.1 + 0)), (1, .int w), (2, .int v)] rfl ?_
  refine aw_iload_n 1 dX8_set_0 rfl rfl ?_
  refine aw_if_eq 16 dX8_set_1 (by decide) (fun c1 => ?_) (fun c1 => absurd (by simp only [i_eq, (show (0 : Int32).toInt = 0 from rfl)] <;> omega) c1)
  refine aw_iload_n 2 dX8_set_16 rfl rfl ?_
  refine aw_if_ge 27 dX8_set_17 (by decide) (fun c17 => ?_) (fun c17 => absurd (by simp only [i_le, (show (0 : Int32).toInt = 0 from rfl)] <;> omega) c17)
  refine aw_iload_n 2 dX8_set_27 rfl rfl ?_
  refine aw_iload_n 1 dX8_set_28 rfl rfl ?_
  refine aw_if_ne 37 dX8_set_29 (by decide) (fun c29 => absurd (by simp only [i_eq, (show (0 : Int32).toInt = 0 from rfl)] <;> omega) c29) (fun c29 => ?_)
  refine aw_bipush (50) dX8_set_32 (by decide) ?_
  refine aw_goto 39 dX8_set_34 (by decide) ?_
  refine aw_icmp_le 49 dX8_set_39 (by decide) (fun c39 => absurd c39 (by simp only [i_le, (show (50 : Int32).toInt = 50 from rfl)] <;> omega)) (fun c39 => ?_)
  refine aw_aload_n 0 dX8_set_42 rfl rfl ?_
  refine aw_bipush (-6) dX8_set_43 (by decide) ?_
  refine aw_eV [.int (-6)] [] lX8_70 vX8_refuse mX8_refuse dX8_set_45 (X8_refuse6 hF) hF.1 rfl rfl rfl (Nat.le_of_ble_eq_true rfl) (by decide) (by decide) rfl (fun h31 q32 => ?_)
  exact aw_iret rfl dX8_set_48 (by decide) (by decide) ⟨rfl, (kp_tr (kp_rf h) q32)⟩
set_option maxHeartbeats 4000000 in
theorem B4d {l : Launch} {G : xG} {h : List va_E} {w v : Int32} (hM : xF9 G h) (hw : w.toInt = 0) (hv : 50 < v.toInt) : CE l G yX9_set cX9_set 5 (some .int) 2 0 0 [.ref (G.1 + 88), .int w, .int v] h (some (.int (-6))) (fun _ => True) := by
  refine cm_of rfl (Nat.le_of_ble_eq_true rfl) [(0, .ref (G.1 + 88)), (1, .int w), (2, .int v)] rfl ?_
  refine aw_iload_n 1 dX9_set_0 rfl rfl ?_
  refine aw_iconst (2) dX9_set_1 (by decide) ?_
  refine aw_dS [.int w, .int 2] [] lX9_126 sX9_isIn mX9_isIn dX9_set_2 (X9_isIn2_t (by omega)) rfl (Nat.le_of_ble_eq_true rfl) (by decide) (by decide) rfl ?_
  refine aw_if_eq 27 dX9_set_5 (by decide) (fun c5 => absurd c5 (by decide)) (fun c5 => ?_)
  refine aw_iload_n 2 dX9_set_8 rfl rfl ?_
  refine aw_iconst (0) dX9_set_9 (by decide) ?_
  refine aw_iload_n 1 dX9_set_10 rfl rfl ?_
  refine aw_if_ne 19 dX9_set_11 (by decide) (fun c11 => absurd (by simp only [i_eq, (show (0 : Int32).toInt = 0 from rfl)] <;> omega) c11) (fun c11 => ?_)
  refine aw_bipush (50) dX9_set_14 (by decide) ?_
  refine aw_goto 21 dX9_set_16 (by decide) ?_
  refine aw_dS [.int v, .int 0, .int 50] [] lX9_137 sX9_wrong mX9_wrong dX9_set_21 (X9_wrong_0_50_b (by omega)) rfl (Nat.le_of_ble_eq_true rfl) (by decide) (by decide) rfl ?_
  refine aw_goto 29 dX9_set_24 (by decide) ?_
  refine aw_istore_n [(3, .int (-6)), (0, .ref (G.1 + 88)), (1, .int w), (2, .int v)] dX9_set_29 rfl (by decide) rfl ?_
  refine aw_iload_n 0 dX9_set_30 rfl rfl ?_
  refine aw_if_eq 40 dX9_set_31 (by decide) (fun c31 => absurd c31 (by decide)) (fun c31 => ?_)
  refine aw_aload_n 1 dX9_set_34 rfl rfl ?_
  refine aw_iload_n 0 dX9_set_35 rfl rfl ?_
  refine aw_eV [.int (-6)] [] lX9_130 vX9_refuse mX9_refuse dX9_set_36 (X9_refuse6 hM) hM.1 rfl rfl rfl (Nat.le_of_ble_eq_true rfl) (by decide) (by decide) rfl (fun h33 q34 => ?_)
  exact aw_iret rfl dX9_set_39 (by decide) (by decide) ⟨rfl, trivial⟩
set_option maxHeartbeats 4000000 in
theorem A4e {l : Launch} {G : xG} {h : List va_E} {w v : Int32} (hF : xF8 G h) (hw : w.toInt = 1) (hv : 9 < v.toInt) : CE l G yX8_set cX8_set 3 (some .int) 2 0 0 [.ref (G.1 + 0), .int w, .int v] h (some (.int (-6))) (kp h) := by
  refine cm_of rfl (Nat.le_of_ble_eq_true rfl) [(0, .ref (G.1 + 0)), (1, .int w), (2, .int v)] rfl ?_
  refine aw_iload_n 1 dX8_set_0 rfl rfl ?_
  refine aw_if_eq 16 dX8_set_1 (by decide) (fun c1 => absurd c1 (by simp only [i_eq, (show (0 : Int32).toInt = 0 from rfl)] <;> omega)) (fun c1 => ?_)
  refine aw_iload_n 1 dX8_set_4 rfl rfl ?_
  refine aw_iconst (1) dX8_set_5 (by decide) ?_
  refine aw_icmp_eq 16 dX8_set_6 (by decide) (fun c6 => ?_) (fun c6 => absurd (by simp only [i_eq, (show (1 : Int32).toInt = 1 from rfl)] <;> omega) c6)
  refine aw_iload_n 2 dX8_set_16 rfl rfl ?_
  refine aw_if_ge 27 dX8_set_17 (by decide) (fun c17 => ?_) (fun c17 => absurd (by simp only [i_le, (show (0 : Int32).toInt = 0 from rfl)] <;> omega) c17)
  refine aw_iload_n 2 dX8_set_27 rfl rfl ?_
  refine aw_iload_n 1 dX8_set_28 rfl rfl ?_
  refine aw_if_ne 37 dX8_set_29 (by decide) (fun c29 => ?_) (fun c29 => absurd c29 (by simp only [i_eq, (show (0 : Int32).toInt = 0 from rfl)] <;> omega))
  refine aw_bipush (9) dX8_set_37 (by decide) ?_
  refine aw_icmp_le 49 dX8_set_39 (by decide) (fun c39 => absurd c39 (by simp only [i_le, (show (9 : Int32).toInt = 9 from rfl)] <;> omega)) (fun c39 => ?_)
  refine aw_aload_n 0 dX8_set_42 rfl rfl ?_
  refine aw_bipush (-6) dX8_set_43 (by decide) ?_
  refine aw_eV [.int (-6)] [] lX8_70 vX8_refuse mX8_refuse dX8_set_45 (X8_refuse6 hF) hF.1 rfl rfl rfl (Nat.le_of_ble_eq_true rfl) (by decide) (by decide) rfl (fun h35 q36 => ?_)
  exact aw_iret rfl dX8_set_48 (by decide) (by decide) ⟨rfl, (kp_tr (kp_rf h) q36)⟩
set_option maxHeartbeats 4000000 in
theorem B4e {l : Launch} {G : xG} {h : List va_E} {w v : Int32} (hM : xF9 G h) (hw : w.toInt = 1) (hv : 9 < v.toInt) : CE l G yX9_set cX9_set 5 (some .int) 2 0 0 [.ref (G.1 + 88), .int w, .int v] h (some (.int (-6))) (fun _ => True) := by
  refine cm_of rfl (Nat.le_of_ble_eq_true rfl) [(0, .ref (G.1 + 88)), (1, .int w), (2, .int v)] rfl ?_
  refine aw_iload_n 1 dX9_set_0 rfl rfl ?_
  refine aw_iconst (2) dX9_set_1 (by decide) ?_
  refine aw_dS [.int w, .int 2] [] lX9_126 sX9_isIn mX9_isIn dX9_set_2 (X9_isIn2_t (by omega)) rfl (Nat.le_of_ble_eq_true rfl) (by decide) (by decide) rfl ?_
  refine aw_if_eq 27 dX9_set_5 (by decide) (fun c5 => absurd c5 (by decide)) (fun c5 => ?_)
  refine aw_iload_n 2 dX9_set_8 rfl rfl ?_
  refine aw_iconst (0) dX9_set_9 (by decide) ?_
  refine aw_iload_n 1 dX9_set_10 rfl rfl ?_
  refine aw_if_ne 19 dX9_set_11 (by decide) (fun c11 => ?_) (fun c11 => absurd c11 (by simp only [i_eq, (show (0 : Int32).toInt = 0 from rfl)] <;> omega))
  refine aw_bipush (9) dX9_set_19 (by decide) ?_
  refine aw_dS [.int v, .int 0, .int 9] [] lX9_137 sX9_wrong mX9_wrong dX9_set_21 (X9_wrong_0_9_b (by omega)) rfl (Nat.le_of_ble_eq_true rfl) (by decide) (by decide) rfl ?_
  refine aw_goto 29 dX9_set_24 (by decide) ?_
  refine aw_istore_n [(3, .int (-6)), (0, .ref (G.1 + 88)), (1, .int w), (2, .int v)] dX9_set_29 rfl (by decide) rfl ?_
  refine aw_iload_n 0 dX9_set_30 rfl rfl ?_
  refine aw_if_eq 40 dX9_set_31 (by decide) (fun c31 => absurd c31 (by decide)) (fun c31 => ?_)
  refine aw_aload_n 1 dX9_set_34 rfl rfl ?_
  refine aw_iload_n 0 dX9_set_35 rfl rfl ?_
  refine aw_eV [.int (-6)] [] lX9_130 vX9_refuse mX9_refuse dX9_set_36 (X9_refuse6 hM) hM.1 rfl rfl rfl (Nat.le_of_ble_eq_true rfl) (by decide) (by decide) rfl (fun h37 q38 => ?_)
  exact aw_iret rfl dX9_set_39 (by decide) (by decide) ⟨rfl, trivial⟩
set_option maxHeartbeats 4000000 in
theorem A4f {l : Launch} {G : xG} {h : List va_E} {w v : Int32} (hF : xF8 G h) (hw : w.toInt = 0) (hv : 0 ≤ v.toInt ∧ v.toInt ≤ 50) : CE l G yX8_set cX8_set 3 (some .int) 2 0 0 [.ref (G.1 + 0), .int w, .int v] h (some (.int 5)) (kp h) := by
  refine cm_of rfl (Nat.le_of_ble_eq_true rfl) [(0, .ref (G.1 + 0)), (1, .int w), (2, .int v)] rfl ?_
  refine aw_iload_n 1 dX8_set_0 rfl rfl ?_
  refine aw_if_eq 16 dX8_set_1 (by decide) (fun c1 => ?_) (fun c1 => absurd (by simp only [i_eq, (show (0 : Int32).toInt = 0 from rfl)] <;> omega) c1)
  refine aw_iload_n 2 dX8_set_16 rfl rfl ?_
  refine aw_if_ge 27 dX8_set_17 (by decide) (fun c17 => ?_) (fun c17 => absurd (by simp only [i_le, (show (0 : Int32).toInt = 0 from rfl)] <;> omega) c17)
  refine aw_iload_n 2 dX8_set_27 rfl rfl ?_
  refine aw_iload_n 1 dX8_set_28 rfl rfl ?_
  refine aw_if_ne 37 dX8_set_29 (by decide) (fun c29 => absurd (by simp only [i_eq, (show (0 : Int32).toInt = 0 from rfl)] <;> omega) c29) (fun c29 => ?_)
  refine aw_bipush (50) dX8_set_32 (by decide) ?_
  refine aw_goto 39 dX8_set_34 (by decide) ?_
  refine aw_icmp_le 49 dX8_set_39 (by decide) (fun c39 => ?_) (fun c39 => absurd (by simp only [i_le, (show (50 : Int32).toInt = 50 from rfl)] <;> omega) c39)
  refine aw_iload_n 1 dX8_set_49 rfl rfl ?_
  refine aw_if_ne 64 dX8_set_50 (by decide) (fun c50 => absurd (by simp only [i_eq, (show (0 : Int32).toInt = 0 from rfl)] <;> omega) c50) (fun c50 => ?_)
  refine aw_aload_n 0 dX8_set_53 rfl rfl ?_
  refine aw_get fX8_20 dX8_set_54 hF.1 rfl ?_
  refine aw_iload_n 2 dX8_set_57 rfl rfl ?_
  refine aw_eV [.int v] [] lX8_98 vX1_tellSpare mX1_tellSpare dX8_set_58 (X1_tellSpare_o hF) hF.2.1 rfl rfl rfl (Nat.le_of_ble_eq_true rfl) (by decide) (by decide) rfl (fun h39 q40 => ?_)
  refine aw_goto 72 dX8_set_61 (by decide) ?_
  exact aw_iret rfl dX8_set_72 (by decide) (by decide) ⟨rfl, (kp_tr (kp_rf h) q40)⟩
set_option maxHeartbeats 4000000 in
theorem B4f {l : Launch} {G : xG} {h : List va_E} {w v : Int32} (hM : xF9 G h) (hw : w.toInt = 0) (hv : 0 ≤ v.toInt ∧ v.toInt ≤ 50) : CE l G yX9_set cX9_set 5 (some .int) 2 0 0 [.ref (G.1 + 88), .int w, .int v] h (some (.int 5)) (fun _ => True) := by
  refine cm_of rfl (Nat.le_of_ble_eq_true rfl) [(0, .ref (G.1 + 88)), (1, .int w), (2, .int v)] rfl ?_
  refine aw_iload_n 1 dX9_set_0 rfl rfl ?_
  refine aw_iconst (2) dX9_set_1 (by decide) ?_
  refine aw_dS [.int w, .int 2] [] lX9_126 sX9_isIn mX9_isIn dX9_set_2 (X9_isIn2_t (by omega)) rfl (Nat.le_of_ble_eq_true rfl) (by decide) (by decide) rfl ?_
  refine aw_if_eq 27 dX9_set_5 (by decide) (fun c5 => absurd c5 (by decide)) (fun c5 => ?_)
  refine aw_iload_n 2 dX9_set_8 rfl rfl ?_
  refine aw_iconst (0) dX9_set_9 (by decide) ?_
  refine aw_iload_n 1 dX9_set_10 rfl rfl ?_
  refine aw_if_ne 19 dX9_set_11 (by decide) (fun c11 => absurd (by simp only [i_eq, (show (0 : Int32).toInt = 0 from rfl)] <;> omega) c11) (fun c11 => ?_)
  refine aw_bipush (50) dX9_set_14 (by decide) ?_
  refine aw_goto 21 dX9_set_16 (by decide) ?_
  refine aw_dS [.int v, .int 0, .int 50] [] lX9_137 sX9_wrong mX9_wrong dX9_set_21 (X9_wrong_0_50_o (by omega)) rfl (Nat.le_of_ble_eq_true rfl) (by decide) (by decide) rfl ?_
  refine aw_goto 29 dX9_set_24 (by decide) ?_
  refine aw_istore_n [(3, .int 0), (0, .ref (G.1 + 88)), (1, .int w), (2, .int v)] dX9_set_29 rfl (by decide) rfl ?_
  refine aw_iload_n 0 dX9_set_30 rfl rfl ?_
  refine aw_if_eq 40 dX9_set_31 (by decide) (fun c31 => ?_) (fun c31 => absurd (by decide) c31)
  refine aw_iload_n 2 dX9_set_40 rfl rfl ?_
  refine aw_if_ne 51 dX9_set_41 (by decide) (fun c41 => absurd (by simp only [i_eq, (show (0 : Int32).toInt = 0 from rfl)] <;> omega) c41) (fun c41 => ?_)
  refine aw_aload_n 1 dX9_set_44 rfl rfl ?_
  refine aw_get fX9_40 dX9_set_45 hM.1 rfl ?_
  refine aw_goto 55 dX9_set_48 (by decide) ?_
  refine aw_istore [(4, .int 5), (3, .int 0), (0, .ref (G.1 + 88)), (1, .int w), (2, .int v)] dX9_set_55 (by decide) rfl ?_
  refine aw_iload_n 3 dX9_set_57 rfl rfl ?_
  refine aw_if_ne 69 dX9_set_58 (by decide) (fun c58 => absurd (by simp only [i_eq, (show (0 : Int32).toInt = 0 from rfl)] <;> omega) c58) (fun c58 => ?_)
  refine aw_aload_n 2 dX9_set_61 rfl rfl ?_
  refine aw_iload_n 4 dX9_set_62 rfl rfl ?_
  refine aw_putQ fX9_40 dX9_set_63 [.ref (G.1 + 89), .ref (G.1 + 90), .ref (G.1 + 91), .ref (G.1 + 92), .ref (G.1 + 93), .ref (G.1 + 94), .ref (G.1 + 95), .ref (G.1 + 96), .ref (G.1 + 97), .ref (G.1 + 98), .int v, .int 1, .int 0, .ref (G.1 + 99), .ref (G.1 + 100), .ref (G.1 + 101), .ref (G.1 + 102), .int 0, .int 0, .ref (G.1 + 103), .ref (G.1 + 104), .ref (G.1 + 105), .ref (G.1 + 106), .ref (G.1 + 107), .ref (G.1 + 108), .ref (G.1 + 109), .ref (G.1 + 110), .ref (G.1 + 111), .ref (G.1 + 112), .ref (G.1 + 113), .ref (G.1 + 114), .ref (G.1 + 115), .int 0, .int 0, .int 0, .int 0, .ref (G.1 + 116), .ref (G.1 + 117), .ref (G.1 + 118), .ref (G.1 + 119), .ref (G.1 + 120), .ref (G.1 + 121), .ref (G.1 + 122), .int 0, .ref (G.1 + 123), .ref (G.1 + 124)] hM.1 rfl rfl rfl (Nat.le_of_ble_eq_true rfl) rfl ?_
  refine aw_goto 74 dX9_set_66 (by decide) ?_
  refine aw_iload 0 dX9_set_74 rfl ?_
  exact aw_iret rfl dX9_set_76 (by decide) (by decide) ⟨rfl, trivial⟩
set_option maxHeartbeats 4000000 in
theorem A4g {l : Launch} {G : xG} {h : List va_E} {w v : Int32} (hF : xF8 G h) (hw : w.toInt = 1) (hv : 0 ≤ v.toInt ∧ v.toInt ≤ 9) : CE l G yX8_set cX8_set 3 (some .int) 2 0 0 [.ref (G.1 + 0), .int w, .int v] h (some (.int 1)) (kp h) := by
  refine cm_of rfl (Nat.le_of_ble_eq_true rfl) [(0, .ref (G.1 + 0)), (1, .int w), (2, .int v)] rfl ?_
  refine aw_iload_n 1 dX8_set_0 rfl rfl ?_
  refine aw_if_eq 16 dX8_set_1 (by decide) (fun c1 => absurd c1 (by simp only [i_eq, (show (0 : Int32).toInt = 0 from rfl)] <;> omega)) (fun c1 => ?_)
  refine aw_iload_n 1 dX8_set_4 rfl rfl ?_
  refine aw_iconst (1) dX8_set_5 (by decide) ?_
  refine aw_icmp_eq 16 dX8_set_6 (by decide) (fun c6 => ?_) (fun c6 => absurd (by simp only [i_eq, (show (1 : Int32).toInt = 1 from rfl)] <;> omega) c6)
  refine aw_iload_n 2 dX8_set_16 rfl rfl ?_
  refine aw_if_ge 27 dX8_set_17 (by decide) (fun c17 => ?_) (fun c17 => absurd (by simp only [i_le, (show (0 : Int32).toInt = 0 from rfl)] <;> omega) c17)
  refine aw_iload_n 2 dX8_set_27 rfl rfl ?_
  refine aw_iload_n 1 dX8_set_28 rfl rfl ?_
  refine aw_if_ne 37 dX8_set_29 (by decide) (fun c29 => ?_) (fun c29 => absurd c29 (by simp only [i_eq, (show (0 : Int32).toInt = 0 from rfl)] <;> omega))
  refine aw_bipush (9) dX8_set_37 (by decide) ?_
  refine aw_icmp_le 49 dX8_set_39 (by decide) (fun c39 => ?_) (fun c39 => absurd (by simp only [i_le, (show (9 : Int32).toInt = 9 from rfl)] <;> omega) c39)
  refine aw_iload_n 1 dX8_set_49 rfl rfl ?_
  refine aw_if_ne 64 dX8_set_50 (by decide) (fun c50 => ?_) (fun c50 => absurd c50 (by simp only [i_eq, (show (0 : Int32).toInt = 0 from rfl)] <;> omega))
  refine aw_aload_n 0 dX8_set_64 rfl rfl ?_
  refine aw_get fX8_20 dX8_set_65 hF.1 rfl ?_
  refine aw_iload_n 2 dX8_set_68 rfl rfl ?_
  refine aw_eV [.int v] [] lX8_101 vX1_tellFade mX1_tellFade dX8_set_69 (X1_tellFade_o hF) hF.2.1 rfl rfl rfl (Nat.le_of_ble_eq_true rfl) (by decide) (by decide) rfl (fun h41 q42 => ?_)
  exact aw_iret rfl dX8_set_72 (by decide) (by decide) ⟨rfl, (kp_tr (kp_rf h) q42)⟩
set_option maxHeartbeats 4000000 in
theorem B4g {l : Launch} {G : xG} {h : List va_E} {w v : Int32} (hM : xF9 G h) (hw : w.toInt = 1) (hv : 0 ≤ v.toInt ∧ v.toInt ≤ 9) : CE l G yX9_set cX9_set 5 (some .int) 2 0 0 [.ref (G.1 + 88), .int w, .int v] h (some (.int 1)) (fun _ => True) := by
  refine cm_of rfl (Nat.le_of_ble_eq_true rfl) [(0, .ref (G.1 + 88)), (1, .int w), (2, .int v)] rfl ?_
  refine aw_iload_n 1 dX9_set_0 rfl rfl ?_
  refine aw_iconst (2) dX9_set_1 (by decide) ?_
  refine aw_dS [.int w, .int 2] [] lX9_126 sX9_isIn mX9_isIn dX9_set_2 (X9_isIn2_t (by omega)) rfl (Nat.le_of_ble_eq_true rfl) (by decide) (by decide) rfl ?_
  refine aw_if_eq 27 dX9_set_5 (by decide) (fun c5 => absurd c5 (by decide)) (fun c5 => ?_)
  refine aw_iload_n 2 dX9_set_8 rfl rfl ?_
  refine aw_iconst (0) dX9_set_9 (by decide) ?_
  refine aw_iload_n 1 dX9_set_10 rfl rfl ?_
  refine aw_if_ne 19 dX9_set_11 (by decide) (fun c11 => ?_) (fun c11 => absurd c11 (by simp only [i_eq, (show (0 : Int32).toInt = 0 from rfl)] <;> omega))
  refine aw_bipush (9) dX9_set_19 (by decide) ?_
  refine aw_dS [.int v, .int 0, .int 9] [] lX9_137 sX9_wrong mX9_wrong dX9_set_21 (X9_wrong_0_9_o (by omega)) rfl (Nat.le_of_ble_eq_true rfl) (by decide) (by decide) rfl ?_
  refine aw_goto 29 dX9_set_24 (by decide) ?_
  refine aw_istore_n [(3, .int 0), (0, .ref (G.1 + 88)), (1, .int w), (2, .int v)] dX9_set_29 rfl (by decide) rfl ?_
  refine aw_iload_n 0 dX9_set_30 rfl rfl ?_
  refine aw_if_eq 40 dX9_set_31 (by decide) (fun c31 => ?_) (fun c31 => absurd (by decide) c31)
  refine aw_iload_n 2 dX9_set_40 rfl rfl ?_
  refine aw_if_ne 51 dX9_set_41 (by decide) (fun c41 => ?_) (fun c41 => absurd c41 (by simp only [i_eq, (show (0 : Int32).toInt = 0 from rfl)] <;> omega))
  refine aw_aload_n 1 dX9_set_51 rfl rfl ?_
  refine aw_get fX9_44 dX9_set_52 hM.1 rfl ?_
  refine aw_istore [(4, .int 1), (3, .int 0), (0, .ref (G.1 + 88)), (1, .int w), (2, .int v)] dX9_set_55 (by decide) rfl ?_
  refine aw_iload_n 3 dX9_set_57 rfl rfl ?_
  refine aw_if_ne 69 dX9_set_58 (by decide) (fun c58 => ?_) (fun c58 => absurd c58 (by simp only [i_eq, (show (0 : Int32).toInt = 0 from rfl)] <;> omega))
  refine aw_aload_n 2 dX9_set_69 rfl rfl ?_
  refine aw_iload_n 4 dX9_set_70 rfl rfl ?_
  refine aw_putQ fX9_44 dX9_set_71 [.ref (G.1 + 89), .ref (G.1 + 90), .ref (G.1 + 91), .ref (G.1 + 92), .ref (G.1 + 93), .ref (G.1 + 94), .ref (G.1 + 95), .ref (G.1 + 96), .ref (G.1 + 97), .ref (G.1 + 98), .int 5, .int v, .int 0, .ref (G.1 + 99), .ref (G.1 + 100), .ref (G.1 + 101), .ref (G.1 + 102), .int 0, .int 0, .ref (G.1 + 103), .ref (G.1 + 104), .ref (G.1 + 105), .ref (G.1 + 106), .ref (G.1 + 107), .ref (G.1 + 108), .ref (G.1 + 109), .ref (G.1 + 110), .ref (G.1 + 111), .ref (G.1 + 112), .ref (G.1 + 113), .ref (G.1 + 114), .ref (G.1 + 115), .int 0, .int 0, .int 0, .int 0, .ref (G.1 + 116), .ref (G.1 + 117), .ref (G.1 + 118), .ref (G.1 + 119), .ref (G.1 + 120), .ref (G.1 + 121), .ref (G.1 + 122), .int 0, .ref (G.1 + 123), .ref (G.1 + 124)] hM.1 rfl rfl rfl (Nat.le_of_ble_eq_true rfl) rfl ?_
  refine aw_iload 0 dX9_set_74 rfl ?_
  exact aw_iret rfl dX9_set_76 (by decide) (by decide) ⟨rfl, trivial⟩
