theorem i_n0 : (0 : Int32).toInt = 0 := rfl
set_option maxHeartbeats 4000000 in
theorem X8_isWord_t {l : Launch} {G : xG} {h : List va_E} {w : Int32} (hw : 0 ≤ w.toInt ∧ w.toInt < 20) : CD l G yX8_isWord cX8_isWord 1 (some .boolean) 0 0 0 [.int w] h (some (.int 1)) h := by
  refine cm_of rfl (Nat.le_of_ble_eq_true rfl) [(0, .int w)] rfl ?_
  refine aw_iload_n 0 dX8_isWord_0 rfl rfl ?_
  refine aw_if_lt 14 dX8_isWord_1 (by decide) (fun c1 => absurd c1 (by simp only [i_lt, (show (0 : Int32).toInt = 0 from rfl)]; omega)) (fun c1 => ?_)
  refine aw_iload_n 0 dX8_isWord_4 rfl rfl ?_
  refine aw_bipush (20) dX8_isWord_5 (by decide) ?_
  refine aw_icmp_ge 14 dX8_isWord_7 (by decide) (fun c7 => absurd c7 (by simp only [i_le, (show (20 : Int32).toInt = 20 from rfl)]; omega)) (fun c7 => ?_)
  refine aw_iconst (1) dX8_isWord_10 (by decide) ?_
  refine aw_goto 15 dX8_isWord_11 (by decide) ?_
  exact aw_zret rfl rfl dX8_isWord_15 (by decide) (by decide) ⟨rfl, rfl⟩
set_option maxHeartbeats 4000000 in
theorem X8_isWord_f1 {l : Launch} {G : xG} {h : List va_E} {w : Int32} (hw : w.toInt < 0) : CD l G yX8_isWord cX8_isWord 1 (some .boolean) 0 0 0 [.int w] h (some (.int 0)) h := by
  refine cm_of rfl (Nat.le_of_ble_eq_true rfl) [(0, .int w)] rfl ?_
  refine aw_iload_n 0 dX8_isWord_0 rfl rfl ?_
  refine aw_if_lt 14 dX8_isWord_1 (by decide) (fun c1 => ?_) (fun c1 => absurd (by simp only [i_lt, (show (0 : Int32).toInt = 0 from rfl)]; omega) c1)
  refine aw_iconst (0) dX8_isWord_14 (by decide) ?_
  exact aw_zret rfl rfl dX8_isWord_15 (by decide) (by decide) ⟨rfl, rfl⟩
set_option maxHeartbeats 4000000 in
theorem X8_isWord_f2 {l : Launch} {G : xG} {h : List va_E} {w : Int32} (hw : 20 ≤ w.toInt) : CD l G yX8_isWord cX8_isWord 1 (some .boolean) 0 0 0 [.int w] h (some (.int 0)) h := by
  refine cm_of rfl (Nat.le_of_ble_eq_true rfl) [(0, .int w)] rfl ?_
  refine aw_iload_n 0 dX8_isWord_0 rfl rfl ?_
  refine aw_if_lt 14 dX8_isWord_1 (by decide) (fun c1 => absurd c1 (by simp only [i_lt, (show (0 : Int32).toInt = 0 from rfl)]; omega)) (fun c1 => ?_)
  refine aw_iload_n 0 dX8_isWord_4 rfl rfl ?_
  refine aw_bipush (20) dX8_isWord_5 (by decide) ?_
  refine aw_icmp_ge 14 dX8_isWord_7 (by decide) (fun c7 => ?_) (fun c7 => absurd (by simp only [i_le, (show (20 : Int32).toInt = 20 from rfl)]; omega) c7)
  refine aw_iconst (0) dX8_isWord_14 (by decide) ?_
  exact aw_zret rfl rfl dX8_isWord_15 (by decide) (by decide) ⟨rfl, rfl⟩
theorem X8_isWord_f {l : Launch} {G : xG} {h : List va_E} {w : Int32} (hw : ¬ (0 ≤ w.toInt ∧ w.toInt < 20)) : CD l G yX8_isWord cX8_isWord 1 (some .boolean) 0 0 0 [.int w] h (some (.int 0)) h := by
  by_cases h0 : w.toInt < 0
  · exact X8_isWord_f1 h0
  · exact X8_isWord_f2 (by omega)
set_option maxHeartbeats 4000000 in
theorem X8_isCatalogue_t {l : Launch} {G : xG} {h : List va_E} {w : Int32} (hw : 0 ≤ w.toInt ∧ w.toInt < 4) : CD l G yX8_isCatalogue cX8_isCatalogue 1 (some .boolean) 0 0 0 [.int w] h (some (.int 1)) h := by
  refine cm_of rfl (Nat.le_of_ble_eq_true rfl) [(0, .int w)] rfl ?_
  refine aw_iload_n 0 dX8_isCatalogue_0 rfl rfl ?_
  refine aw_if_lt 13 dX8_isCatalogue_1 (by decide) (fun c1 => absurd c1 (by simp only [i_lt, (show (0 : Int32).toInt = 0 from rfl)]; omega)) (fun c1 => ?_)
  refine aw_iload_n 0 dX8_isCatalogue_4 rfl rfl ?_
  refine aw_iconst (4) dX8_isCatalogue_5 (by decide) ?_
  refine aw_icmp_ge 13 dX8_isCatalogue_6 (by decide) (fun c6 => absurd c6 (by simp only [i_le, (show (4 : Int32).toInt = 4 from rfl)]; omega)) (fun c6 => ?_)
  refine aw_iconst (1) dX8_isCatalogue_9 (by decide) ?_
  refine aw_goto 14 dX8_isCatalogue_10 (by decide) ?_
  exact aw_zret rfl rfl dX8_isCatalogue_14 (by decide) (by decide) ⟨rfl, rfl⟩
set_option maxHeartbeats 4000000 in
theorem X8_isCatalogue_f1 {l : Launch} {G : xG} {h : List va_E} {w : Int32} (hw : w.toInt < 0) : CD l G yX8_isCatalogue cX8_isCatalogue 1 (some .boolean) 0 0 0 [.int w] h (some (.int 0)) h := by
  refine cm_of rfl (Nat.le_of_ble_eq_true rfl) [(0, .int w)] rfl ?_
  refine aw_iload_n 0 dX8_isCatalogue_0 rfl rfl ?_
  refine aw_if_lt 13 dX8_isCatalogue_1 (by decide) (fun c1 => ?_) (fun c1 => absurd (by simp only [i_lt, (show (0 : Int32).toInt = 0 from rfl)]; omega) c1)
  refine aw_iconst (0) dX8_isCatalogue_13 (by decide) ?_
  exact aw_zret rfl rfl dX8_isCatalogue_14 (by decide) (by decide) ⟨rfl, rfl⟩
set_option maxHeartbeats 4000000 in
theorem X8_isCatalogue_f2 {l : Launch} {G : xG} {h : List va_E} {w : Int32} (hw : 4 ≤ w.toInt) : CD l G yX8_isCatalogue cX8_isCatalogue 1 (some .boolean) 0 0 0 [.int w] h (some (.int 0)) h := by
  refine cm_of rfl (Nat.le_of_ble_eq_true rfl) [(0, .int w)] rfl ?_
  refine aw_iload_n 0 dX8_isCatalogue_0 rfl rfl ?_
  refine aw_if_lt 13 dX8_isCatalogue_1 (by decide) (fun c1 => absurd c1 (by simp only [i_lt, (show (0 : Int32).toInt = 0 from rfl)]; omega)) (fun c1 => ?_)
  refine aw_iload_n 0 dX8_isCatalogue_4 rfl rfl ?_
  refine aw_iconst (4) dX8_isCatalogue_5 (by decide) ?_
  refine aw_icmp_ge 13 dX8_isCatalogue_6 (by decide) (fun c6 => ?_) (fun c6 => absurd (by simp only [i_le, (show (4 : Int32).toInt = 4 from rfl)]; omega) c6)
  refine aw_iconst (0) dX8_isCatalogue_13 (by decide) ?_
  exact aw_zret rfl rfl dX8_isCatalogue_14 (by decide) (by decide) ⟨rfl, rfl⟩
theorem X8_isCatalogue_f {l : Launch} {G : xG} {h : List va_E} {w : Int32} (hw : ¬ (0 ≤ w.toInt ∧ w.toInt < 4)) : CD l G yX8_isCatalogue cX8_isCatalogue 1 (some .boolean) 0 0 0 [.int w] h (some (.int 0)) h := by
  by_cases h0 : w.toInt < 0
  · exact X8_isCatalogue_f1 h0
  · exact X8_isCatalogue_f2 (by omega)
set_option maxHeartbeats 4000000 in
theorem X8_isThing_t {l : Launch} {G : xG} {h : List va_E} {w : Int32} (hw : 0 ≤ w.toInt ∧ w.toInt < 12) : CD l G yX8_isThing cX8_isThing 1 (some .boolean) 0 0 0 [.int w] h (some (.int 1)) h := by
  refine cm_of rfl (Nat.le_of_ble_eq_true rfl) [(0, .int w)] rfl ?_
  refine aw_iload_n 0 dX8_isThing_0 rfl rfl ?_
  refine aw_if_lt 14 dX8_isThing_1 (by decide) (fun c1 => absurd c1 (by simp only [i_lt, (show (0 : Int32).toInt = 0 from rfl)]; omega)) (fun c1 => ?_)
  refine aw_iload_n 0 dX8_isThing_4 rfl rfl ?_
  refine aw_bipush (12) dX8_isThing_5 (by decide) ?_
  refine aw_icmp_ge 14 dX8_isThing_7 (by decide) (fun c7 => absurd c7 (by simp only [i_le, (show (12 : Int32).toInt = 12 from rfl)]; omega)) (fun c7 => ?_)
  refine aw_iconst (1) dX8_isThing_10 (by decide) ?_
  refine aw_goto 15 dX8_isThing_11 (by decide) ?_
  exact aw_zret rfl rfl dX8_isThing_15 (by decide) (by decide) ⟨rfl, rfl⟩
set_option maxHeartbeats 4000000 in
theorem X8_isThing_f1 {l : Launch} {G : xG} {h : List va_E} {w : Int32} (hw : w.toInt < 0) : CD l G yX8_isThing cX8_isThing 1 (some .boolean) 0 0 0 [.int w] h (some (.int 0)) h := by
  refine cm_of rfl (Nat.le_of_ble_eq_true rfl) [(0, .int w)] rfl ?_
  refine aw_iload_n 0 dX8_isThing_0 rfl rfl ?_
  refine aw_if_lt 14 dX8_isThing_1 (by decide) (fun c1 => ?_) (fun c1 => absurd (by simp only [i_lt, (show (0 : Int32).toInt = 0 from rfl)]; omega) c1)
  refine aw_iconst (0) dX8_isThing_14 (by decide) ?_
  exact aw_zret rfl rfl dX8_isThing_15 (by decide) (by decide) ⟨rfl, rfl⟩
set_option maxHeartbeats 4000000 in
theorem X8_isThing_f2 {l : Launch} {G : xG} {h : List va_E} {w : Int32} (hw : 12 ≤ w.toInt) : CD l G yX8_isThing cX8_isThing 1 (some .boolean) 0 0 0 [.int w] h (some (.int 0)) h := by
  refine cm_of rfl (Nat.le_of_ble_eq_true rfl) [(0, .int w)] rfl ?_
  refine aw_iload_n 0 dX8_isThing_0 rfl rfl ?_
  refine aw_if_lt 14 dX8_isThing_1 (by decide) (fun c1 => absurd c1 (by simp only [i_lt, (show (0 : Int32).toInt = 0 from rfl)]; omega)) (fun c1 => ?_)
  refine aw_iload_n 0 dX8_isThing_4 rfl rfl ?_
  refine aw_bipush (12) dX8_isThing_5 (by decide) ?_
  refine aw_icmp_ge 14 dX8_isThing_7 (by decide) (fun c7 => ?_) (fun c7 => absurd (by simp only [i_le, (show (12 : Int32).toInt = 12 from rfl)]; omega) c7)
  refine aw_iconst (0) dX8_isThing_14 (by decide) ?_
  exact aw_zret rfl rfl dX8_isThing_15 (by decide) (by decide) ⟨rfl, rfl⟩
theorem X8_isThing_f {l : Launch} {G : xG} {h : List va_E} {w : Int32} (hw : ¬ (0 ≤ w.toInt ∧ w.toInt < 12)) : CD l G yX8_isThing cX8_isThing 1 (some .boolean) 0 0 0 [.int w] h (some (.int 0)) h := by
  by_cases h0 : w.toInt < 0
  · exact X8_isThing_f1 h0
  · exact X8_isThing_f2 (by omega)
set_option maxHeartbeats 4000000 in
theorem X9_isBeast_t {l : Launch} {G : xG} {h : List va_E} {w : Int32} (hw : 0 ≤ w.toInt ∧ w.toInt < 1024) : CD l G yX9_isBeast cX9_isBeast 1 (some .boolean) 0 0 0 [.int w] h (some (.int 1)) h := by
  refine cm_of rfl (Nat.le_of_ble_eq_true rfl) [(0, .int w)] rfl ?_
  refine aw_iload_n 0 dX9_isBeast_0 rfl rfl ?_
  refine aw_if_lt 15 dX9_isBeast_1 (by decide) (fun c1 => absurd c1 (by simp only [i_lt, (show (0 : Int32).toInt = 0 from rfl)]; omega)) (fun c1 => ?_)
  refine aw_iload_n 0 dX9_isBeast_4 rfl rfl ?_
  refine aw_sipush (1024) dX9_isBeast_5 (by decide) ?_
  refine aw_icmp_ge 15 dX9_isBeast_8 (by decide) (fun c8 => absurd c8 (by simp only [i_le, (show (1024 : Int32).toInt = 1024 from rfl)]; omega)) (fun c8 => ?_)
  refine aw_iconst (1) dX9_isBeast_11 (by decide) ?_
  refine aw_goto 16 dX9_isBeast_12 (by decide) ?_
  exact aw_zret rfl rfl dX9_isBeast_16 (by decide) (by decide) ⟨rfl, rfl⟩
set_option maxHeartbeats 4000000 in
theorem X9_isBeast_f1 {l : Launch} {G : xG} {h : List va_E} {w : Int32} (hw : w.toInt < 0) : CD l G yX9_isBeast cX9_isBeast 1 (some .boolean) 0 0 0 [.int w] h (some (.int 0)) h := by
  refine cm_of rfl (Nat.le_of_ble_eq_true rfl) [(0, .int w)] rfl ?_
  refine aw_iload_n 0 dX9_isBeast_0 rfl rfl ?_
  refine aw_if_lt 15 dX9_isBeast_1 (by decide) (fun c1 => ?_) (fun c1 => absurd (by simp only [i_lt, (show (0 : Int32).toInt = 0 from rfl)]; omega) c1)
  refine aw_iconst (0) dX9_isBeast_15 (by decide) ?_
  exact aw_zret rfl rfl dX9_isBeast_16 (by decide) (by decide) ⟨rfl, rfl⟩
set_option maxHeartbeats 4000000 in
theorem X9_isBeast_f2 {l : Launch} {G : xG} {h : List va_E} {w : Int32} (hw : 1024 ≤ w.toInt) : CD l G yX9_isBeast cX9_isBeast 1 (some .boolean) 0 0 0 [.int w] h (some (.int 0)) h := by
  refine cm_of rfl (Nat.le_of_ble_eq_true rfl) [(0, .int w)] rfl ?_
  refine aw_iload_n 0 dX9_isBeast_0 rfl rfl ?_
  refine aw_if_lt 15 dX9_isBeast_1 (by decide) (fun c1 => absurd c1 (by simp only [i_lt, (show (0 : Int32).toInt = 0 from rfl)]; omega)) (fun c1 => ?_)
  refine aw_iload_n 0 dX9_isBeast_4 rfl rfl ?_
  refine aw_sipush (1024) dX9_isBeast_5 (by decide) ?_
  refine aw_icmp_ge 15 dX9_isBeast_8 (by decide) (fun c8 => ?_) (fun c8 => absurd (by simp only [i_le, (show (1024 : Int32).toInt = 1024 from rfl)]; omega) c8)
  refine aw_iconst (0) dX9_isBeast_15 (by decide) ?_
  exact aw_zret rfl rfl dX9_isBeast_16 (by decide) (by decide) ⟨rfl, rfl⟩
theorem X9_isBeast_f {l : Launch} {G : xG} {h : List va_E} {w : Int32} (hw : ¬ (0 ≤ w.toInt ∧ w.toInt < 1024)) : CD l G yX9_isBeast cX9_isBeast 1 (some .boolean) 0 0 0 [.int w] h (some (.int 0)) h := by
  by_cases h0 : w.toInt < 0
  · exact X9_isBeast_f1 h0
  · exact X9_isBeast_f2 (by omega)
set_option maxHeartbeats 4000000 in
theorem X9_isIn2_t {l : Launch} {G : xG} {h : List va_E} {w : Int32} (hw : 0 ≤ w.toInt ∧ w.toInt < 2) : CD l G yX9_isIn cX9_isIn 2 (some .boolean) 0 0 0 [.int w, .int 2] h (some (.int 1)) h := by
  refine cm_of rfl (Nat.le_of_ble_eq_true rfl) [(0, .int w), (1, .int 2)] rfl ?_
  refine aw_iload_n 0 dX9_isIn_0 rfl rfl ?_
  refine aw_if_lt 13 dX9_isIn_1 (by decide) (fun c1 => absurd c1 (by simp only [i_lt, (show (0 : Int32).toInt = 0 from rfl)]; omega)) (fun c1 => ?_)
  refine aw_iload_n 0 dX9_isIn_4 rfl rfl ?_
  refine aw_iload_n 1 dX9_isIn_5 rfl rfl ?_
  refine aw_icmp_ge 13 dX9_isIn_6 (by decide) (fun c6 => absurd c6 (by simp only [i_le, (show (2 : Int32).toInt = 2 from rfl)]; omega)) (fun c6 => ?_)
  refine aw_iconst (1) dX9_isIn_9 (by decide) ?_
  refine aw_goto 14 dX9_isIn_10 (by decide) ?_
  exact aw_zret rfl rfl dX9_isIn_14 (by decide) (by decide) ⟨rfl, rfl⟩
set_option maxHeartbeats 4000000 in
theorem X9_isIn2_f1 {l : Launch} {G : xG} {h : List va_E} {w : Int32} (hw : w.toInt < 0) : CD l G yX9_isIn cX9_isIn 2 (some .boolean) 0 0 0 [.int w, .int 2] h (some (.int 0)) h := by
  refine cm_of rfl (Nat.le_of_ble_eq_true rfl) [(0, .int w), (1, .int 2)] rfl ?_
  refine aw_iload_n 0 dX9_isIn_0 rfl rfl ?_
  refine aw_if_lt 13 dX9_isIn_1 (by decide) (fun c1 => ?_) (fun c1 => absurd (by simp only [i_lt, (show (0 : Int32).toInt = 0 from rfl)]; omega) c1)
  refine aw_iconst (0) dX9_isIn_13 (by decide) ?_
  exact aw_zret rfl rfl dX9_isIn_14 (by decide) (by decide) ⟨rfl, rfl⟩
set_option maxHeartbeats 4000000 in
theorem X9_isIn2_f2 {l : Launch} {G : xG} {h : List va_E} {w : Int32} (hw : 2 ≤ w.toInt) : CD l G yX9_isIn cX9_isIn 2 (some .boolean) 0 0 0 [.int w, .int 2] h (some (.int 0)) h := by
  refine cm_of rfl (Nat.le_of_ble_eq_true rfl) [(0, .int w), (1, .int 2)] rfl ?_
  refine aw_iload_n 0 dX9_isIn_0 rfl rfl ?_
  refine aw_if_lt 13 dX9_isIn_1 (by decide) (fun c1 => absurd c1 (by simp only [i_lt, (show (0 : Int32).toInt = 0 from rfl)]; omega)) (fun c1 => ?_)
  refine aw_iload_n 0 dX9_isIn_4 rfl rfl ?_
  refine aw_iload_n 1 dX9_isIn_5 rfl rfl ?_
  refine aw_icmp_ge 13 dX9_isIn_6 (by decide) (fun c6 => ?_) (fun c6 => absurd (by simp only [i_le, (show (2 : Int32).toInt = 2 from rfl)]; omega) c6)
  refine aw_iconst (0) dX9_isIn_13 (by decide) ?_
  exact aw_zret rfl rfl dX9_isIn_14 (by decide) (by decide) ⟨rfl, rfl⟩
theorem X9_isIn2_f {l : Launch} {G : xG} {h : List va_E} {w : Int32} (hw : ¬ (0 ≤ w.toInt ∧ w.toInt < 2)) : CD l G yX9_isIn cX9_isIn 2 (some .boolean) 0 0 0 [.int w, .int 2] h (some (.int 0)) h := by
  by_cases h0 : w.toInt < 0
  · exact X9_isIn2_f1 h0
  · exact X9_isIn2_f2 (by omega)
set_option maxHeartbeats 4000000 in
theorem X9_isIn3_t {l : Launch} {G : xG} {h : List va_E} {w : Int32} (hw : 0 ≤ w.toInt ∧ w.toInt < 3) : CD l G yX9_isIn cX9_isIn 2 (some .boolean) 0 0 0 [.int w, .int 3] h (some (.int 1)) h := by
  refine cm_of rfl (Nat.le_of_ble_eq_true rfl) [(0, .int w), (1, .int 3)] rfl ?_
  refine aw_iload_n 0 dX9_isIn_0 rfl rfl ?_
  refine aw_if_lt 13 dX9_isIn_1 (by decide) (fun c1 => absurd c1 (by simp only [i_lt, (show (0 : Int32).toInt = 0 from rfl)]; omega)) (fun c1 => ?_)
  refine aw_iload_n 0 dX9_isIn_4 rfl rfl ?_
  refine aw_iload_n 1 dX9_isIn_5 rfl rfl ?_
  refine aw_icmp_ge 13 dX9_isIn_6 (by decide) (fun c6 => absurd c6 (by simp only [i_le, (show (3 : Int32).toInt = 3 from rfl)]; omega)) (fun c6 => ?_)
  refine aw_iconst (1) dX9_isIn_9 (by decide) ?_
  refine aw_goto 14 dX9_isIn_10 (by decide) ?_
  exact aw_zret rfl rfl dX9_isIn_14 (by decide) (by decide) ⟨rfl, rfl⟩
set_option maxHeartbeats 4000000 in
theorem X9_isIn3_f1 {l : Launch} {G : xG} {h : List va_E} {w : Int32} (hw : w.toInt < 0) : CD l G yX9_isIn cX9_isIn 2 (some .boolean) 0 0 0 [.int w, .int 3] h (some (.int 0)) h := by
  refine cm_of rfl (Nat.le_of_ble_eq_true rfl) [(0, .int w), (1, .int 3)] rfl ?_
  refine aw_iload_n 0 dX9_isIn_0 rfl rfl ?_
  refine aw_if_lt 13 dX9_isIn_1 (by decide) (fun c1 => ?_) (fun c1 => absurd (by simp only [i_lt, (show (0 : Int32).toInt = 0 from rfl)]; omega) c1)
  refine aw_iconst (0) dX9_isIn_13 (by decide) ?_
  exact aw_zret rfl rfl dX9_isIn_14 (by decide) (by decide) ⟨rfl, rfl⟩
set_option maxHeartbeats 4000000 in
theorem X9_isIn3_f2 {l : Launch} {G : xG} {h : List va_E} {w : Int32} (hw : 3 ≤ w.toInt) : CD l G yX9_isIn cX9_isIn 2 (some .boolean) 0 0 0 [.int w, .int 3] h (some (.int 0)) h := by
  refine cm_of rfl (Nat.le_of_ble_eq_true rfl) [(0, .int w), (1, .int 3)] rfl ?_
  refine aw_iload_n 0 dX9_isIn_0 rfl rfl ?_
  refine aw_if_lt 13 dX9_isIn_1 (by decide) (fun c1 => absurd c1 (by simp only [i_lt, (show (0 : Int32).toInt = 0 from rfl)]; omega)) (fun c1 => ?_)
  refine aw_iload_n 0 dX9_isIn_4 rfl rfl ?_
  refine aw_iload_n 1 dX9_isIn_5 rfl rfl ?_
  refine aw_icmp_ge 13 dX9_isIn_6 (by decide) (fun c6 => ?_) (fun c6 => absurd (by simp only [i_le, (show (3 : Int32).toInt = 3 from rfl)]; omega) c6)
  refine aw_iconst (0) dX9_isIn_13 (by decide) ?_
  exact aw_zret rfl rfl dX9_isIn_14 (by decide) (by decide) ⟨rfl, rfl⟩
theorem X9_isIn3_f {l : Launch} {G : xG} {h : List va_E} {w : Int32} (hw : ¬ (0 ≤ w.toInt ∧ w.toInt < 3)) : CD l G yX9_isIn cX9_isIn 2 (some .boolean) 0 0 0 [.int w, .int 3] h (some (.int 0)) h := by
  by_cases h0 : w.toInt < 0
  · exact X9_isIn3_f1 h0
  · exact X9_isIn3_f2 (by omega)
set_option maxHeartbeats 4000000 in
theorem X9_isIn4_t {l : Launch} {G : xG} {h : List va_E} {w : Int32} (hw : 0 ≤ w.toInt ∧ w.toInt < 4) : CD l G yX9_isIn cX9_isIn 2 (some .boolean) 0 0 0 [.int w, .int 4] h (some (.int 1)) h := by
  refine cm_of rfl (Nat.le_of_ble_eq_true rfl) [(0, .int w), (1, .int 4)] rfl ?_
  refine aw_iload_n 0 dX9_isIn_0 rfl rfl ?_
  refine aw_if_lt 13 dX9_isIn_1 (by decide) (fun c1 => absurd c1 (by simp only [i_lt, (show (0 : Int32).toInt = 0 from rfl)]; omega)) (fun c1 => ?_)
  refine aw_iload_n 0 dX9_isIn_4 rfl rfl ?_
  refine aw_iload_n 1 dX9_isIn_5 rfl rfl ?_
  refine aw_icmp_ge 13 dX9_isIn_6 (by decide) (fun c6 => absurd c6 (by simp only [i_le, (show (4 : Int32).toInt = 4 from rfl)]; omega)) (fun c6 => ?_)
  refine aw_iconst (1) dX9_isIn_9 (by decide) ?_
  refine aw_goto 14 dX9_isIn_10 (by decide) ?_
  exact aw_zret rfl rfl dX9_isIn_14 (by decide) (by decide) ⟨rfl, rfl⟩
set_option maxHeartbeats 4000000 in
theorem X9_isIn4_f1 {l : Launch} {G : xG} {h : List va_E} {w : Int32} (hw : w.toInt < 0) : CD l G yX9_isIn cX9_isIn 2 (some .boolean) 0 0 0 [.int w, .int 4] h (some (.int 0)) h := by
  refine cm_of rfl (Nat.le_of_ble_eq_true rfl) [(0, .int w), (1, .int 4)] rfl ?_
  refine aw_iload_n 0 dX9_isIn_0 rfl rfl ?_
  refine aw_if_lt 13 dX9_isIn_1 (by decide) (fun c1 => ?_) (fun c1 => absurd (by simp only [i_lt, (show (0 : Int32).toInt = 0 from rfl)]; omega) c1)
  refine aw_iconst (0) dX9_isIn_13 (by decide) ?_
  exact aw_zret rfl rfl dX9_isIn_14 (by decide) (by decide) ⟨rfl, rfl⟩
set_option maxHeartbeats 4000000 in
theorem X9_isIn4_f2 {l : Launch} {G : xG} {h : List va_E} {w : Int32} (hw : 4 ≤ w.toInt) : CD l G yX9_isIn cX9_isIn 2 (some .boolean) 0 0 0 [.int w, .int 4] h (some (.int 0)) h := by
  refine cm_of rfl (Nat.le_of_ble_eq_true rfl) [(0, .int w), (1, .int 4)] rfl ?_
  refine aw_iload_n 0 dX9_isIn_0 rfl rfl ?_
  refine aw_if_lt 13 dX9_isIn_1 (by decide) (fun c1 => absurd c1 (by simp only [i_lt, (show (0 : Int32).toInt = 0 from rfl)]; omega)) (fun c1 => ?_)
  refine aw_iload_n 0 dX9_isIn_4 rfl rfl ?_
  refine aw_iload_n 1 dX9_isIn_5 rfl rfl ?_
  refine aw_icmp_ge 13 dX9_isIn_6 (by decide) (fun c6 => ?_) (fun c6 => absurd (by simp only [i_le, (show (4 : Int32).toInt = 4 from rfl)]; omega) c6)
  refine aw_iconst (0) dX9_isIn_13 (by decide) ?_
  exact aw_zret rfl rfl dX9_isIn_14 (by decide) (by decide) ⟨rfl, rfl⟩
theorem X9_isIn4_f {l : Launch} {G : xG} {h : List va_E} {w : Int32} (hw : ¬ (0 ≤ w.toInt ∧ w.toInt < 4)) : CD l G yX9_isIn cX9_isIn 2 (some .boolean) 0 0 0 [.int w, .int 4] h (some (.int 0)) h := by
  by_cases h0 : w.toInt < 0
  · exact X9_isIn4_f1 h0
  · exact X9_isIn4_f2 (by omega)
set_option maxHeartbeats 4000000 in
theorem X9_isIn5_t {l : Launch} {G : xG} {h : List va_E} {w : Int32} (hw : 0 ≤ w.toInt ∧ w.toInt < 5) : CD l G yX9_isIn cX9_isIn 2 (some .boolean) 0 0 0 [.int w, .int 5] h (some (.int 1)) h := by
  refine cm_of rfl (Nat.le_of_ble_eq_true rfl) [(0, .int w), (1, .int 5)] rfl ?_
  refine aw_iload_n 0 dX9_isIn_0 rfl rfl ?_
  refine aw_if_lt 13 dX9_isIn_1 (by decide) (fun c1 => absurd c1 (by simp only [i_lt, (show (0 : Int32).toInt = 0 from rfl)]; omega)) (fun c1 => ?_)
  refine aw_iload_n 0 dX9_isIn_4 rfl rfl ?_
  refine aw_iload_n 1 dX9_isIn_5 rfl rfl ?_
  refine aw_icmp_ge 13 dX9_isIn_6 (by decide) (fun c6 => absurd c6 (by simp only [i_le, (show (5 : Int32).toInt = 5 from rfl)]; omega)) (fun c6 => ?_)
  refine aw_iconst (1) dX9_isIn_9 (by decide) ?_
  refine aw_goto 14 dX9_isIn_10 (by decide) ?_
  exact aw_zret rfl rfl dX9_isIn_14 (by decide) (by decide) ⟨rfl, rfl⟩
set_option maxHeartbeats 4000000 in
theorem X9_isIn5_f1 {l : Launch} {G : xG} {h : List va_E} {w : Int32} (hw : w.toInt < 0) : CD l G yX9_isIn cX9_isIn 2 (some .boolean) 0 0 0 [.int w, .int 5] h (some (.int 0)) h := by
  refine cm_of rfl (Nat.le_of_ble_eq_true rfl) [(0, .int w), (1, .int 5)] rfl ?_
  refine aw_iload_n 0 dX9_isIn_0 rfl rfl ?_
  refine aw_if_lt 13 dX9_isIn_1 (by decide) (fun c1 => ?_) (fun c1 => absurd (by simp only [i_lt, (show (0 : Int32).toInt = 0 from rfl)]; omega) c1)
  refine aw_iconst (0) dX9_isIn_13 (by decide) ?_
  exact aw_zret rfl rfl dX9_isIn_14 (by decide) (by decide) ⟨rfl, rfl⟩
set_option maxHeartbeats 4000000 in
theorem X9_isIn5_f2 {l : Launch} {G : xG} {h : List va_E} {w : Int32} (hw : 5 ≤ w.toInt) : CD l G yX9_isIn cX9_isIn 2 (some .boolean) 0 0 0 [.int w, .int 5] h (some (.int 0)) h := by
  refine cm_of rfl (Nat.le_of_ble_eq_true rfl) [(0, .int w), (1, .int 5)] rfl ?_
  refine aw_iload_n 0 dX9_isIn_0 rfl rfl ?_
  refine aw_if_lt 13 dX9_isIn_1 (by decide) (fun c1 => absurd c1 (by simp only [i_lt, (show (0 : Int32).toInt = 0 from rfl)]; omega)) (fun c1 => ?_)
  refine aw_iload_n 0 dX9_isIn_4 rfl rfl ?_
  refine aw_iload_n 1 dX9_isIn_5 rfl rfl ?_
  refine aw_icmp_ge 13 dX9_isIn_6 (by decide) (fun c6 => ?_) (fun c6 => absurd (by simp only [i_le, (show (5 : Int32).toInt = 5 from rfl)]; omega) c6)
  refine aw_iconst (0) dX9_isIn_13 (by decide) ?_
  exact aw_zret rfl rfl dX9_isIn_14 (by decide) (by decide) ⟨rfl, rfl⟩
theorem X9_isIn5_f {l : Launch} {G : xG} {h : List va_E} {w : Int32} (hw : ¬ (0 ≤ w.toInt ∧ w.toInt < 5)) : CD l G yX9_isIn cX9_isIn 2 (some .boolean) 0 0 0 [.int w, .int 5] h (some (.int 0)) h := by
  by_cases h0 : w.toInt < 0
  · exact X9_isIn5_f1 h0
  · exact X9_isIn5_f2 (by omega)
set_option maxHeartbeats 4000000 in
theorem X9_isIn8_t {l : Launch} {G : xG} {h : List va_E} {w : Int32} (hw : 0 ≤ w.toInt ∧ w.toInt < 8) : CD l G yX9_isIn cX9_isIn 2 (some .boolean) 0 0 0 [.int w, .int 8] h (some (.int 1)) h := by
  refine cm_of rfl (Nat.le_of_ble_eq_true rfl) [(0, .int w), (1, .int 8)] rfl ?_
  refine aw_iload_n 0 dX9_isIn_0 rfl rfl ?_
  refine aw_if_lt 13 dX9_isIn_1 (by decide) (fun c1 => absurd c1 (by simp only [i_lt, (show (0 : Int32).toInt = 0 from rfl)]; omega)) (fun c1 => ?_)
  refine aw_iload_n 0 dX9_isIn_4 rfl rfl ?_
  refine aw_iload_n 1 dX9_isIn_5 rfl rfl ?_
  refine aw_icmp_ge 13 dX9_isIn_6 (by decide) (fun c6 => absurd c6 (by simp only [i_le, (show (8 : Int32).toInt = 8 from rfl)]; omega)) (fun c6 => ?_)
  refine aw_iconst (1) dX9_isIn_9 (by decide) ?_
  refine aw_goto 14 dX9_isIn_10 (by decide) ?_
  exact aw_zret rfl rfl dX9_isIn_14 (by decide) (by decide) ⟨rfl, rfl⟩
set_option maxHeartbeats 4000000 in
theorem X9_isIn8_f1 {l : Launch} {G : xG} {h : List va_E} {w : Int32} (hw : w.toInt < 0) : CD l G yX9_isIn cX9_isIn 2 (some .boolean) 0 0 0 [.int w, .int 8] h (some (.int 0)) h := by
  refine cm_of rfl (Nat.le_of_ble_eq_true rfl) [(0, .int w), (1, .int 8)] rfl ?_
  refine aw_iload_n 0 dX9_isIn_0 rfl rfl ?_
  refine aw_if_lt 13 dX9_isIn_1 (by decide) (fun c1 => ?_) (fun c1 => absurd (by simp only [i_lt, (show (0 : Int32).toInt = 0 from rfl)]; omega) c1)
  refine aw_iconst (0) dX9_isIn_13 (by decide) ?_
  exact aw_zret rfl rfl dX9_isIn_14 (by decide) (by decide) ⟨rfl, rfl⟩
set_option maxHeartbeats 4000000 in
theorem X9_isIn8_f2 {l : Launch} {G : xG} {h : List va_E} {w : Int32} (hw : 8 ≤ w.toInt) : CD l G yX9_isIn cX9_isIn 2 (some .boolean) 0 0 0 [.int w, .int 8] h (some (.int 0)) h := by
  refine cm_of rfl (Nat.le_of_ble_eq_true rfl) [(0, .int w), (1, .int 8)] rfl ?_
  refine aw_iload_n 0 dX9_isIn_0 rfl rfl ?_
  refine aw_if_lt 13 dX9_isIn_1 (by decide) (fun c1 => absurd c1 (by simp only [i_lt, (show (0 : Int32).toInt = 0 from rfl)]; omega)) (fun c1 => ?_)
  refine aw_iload_n 0 dX9_isIn_4 rfl rfl ?_
  refine aw_iload_n 1 dX9_isIn_5 rfl rfl ?_
  refine aw_icmp_ge 13 dX9_isIn_6 (by decide) (fun c6 => ?_) (fun c6 => absurd (by simp only [i_le, (show (8 : Int32).toInt = 8 from rfl)]; omega) c6)
  refine aw_iconst (0) dX9_isIn_13 (by decide) ?_
  exact aw_zret rfl rfl dX9_isIn_14 (by decide) (by decide) ⟨rfl, rfl⟩
theorem X9_isIn8_f {l : Launch} {G : xG} {h : List va_E} {w : Int32} (hw : ¬ (0 ≤ w.toInt ∧ w.toInt < 8)) : CD l G yX9_isIn cX9_isIn 2 (some .boolean) 0 0 0 [.int w, .int 8] h (some (.int 0)) h := by
  by_cases h0 : w.toInt < 0
  · exact X9_isIn8_f1 h0
  · exact X9_isIn8_f2 (by omega)
set_option maxHeartbeats 4000000 in
theorem X9_isIn10_t {l : Launch} {G : xG} {h : List va_E} {w : Int32} (hw : 0 ≤ w.toInt ∧ w.toInt < 10) : CD l G yX9_isIn cX9_isIn 2 (some .boolean) 0 0 0 [.int w, .int 10] h (some (.int 1)) h := by
  refine cm_of rfl (Nat.le_of_ble_eq_true rfl) [(0, .int w), (1, .int 10)] rfl ?_
  refine aw_iload_n 0 dX9_isIn_0 rfl rfl ?_
  refine aw_if_lt 13 dX9_isIn_1 (by decide) (fun c1 => absurd c1 (by simp only [i_lt, (show (0 : Int32).toInt = 0 from rfl)]; omega)) (fun c1 => ?_)
  refine aw_iload_n 0 dX9_isIn_4 rfl rfl ?_
  refine aw_iload_n 1 dX9_isIn_5 rfl rfl ?_
  refine aw_icmp_ge 13 dX9_isIn_6 (by decide) (fun c6 => absurd c6 (by simp only [i_le, (show (10 : Int32).toInt = 10 from rfl)]; omega)) (fun c6 => ?_)
  refine aw_iconst (1) dX9_isIn_9 (by decide) ?_
  refine aw_goto 14 dX9_isIn_10 (by decide) ?_
  exact aw_zret rfl rfl dX9_isIn_14 (by decide) (by decide) ⟨rfl, rfl⟩
set_option maxHeartbeats 4000000 in
theorem X9_isIn10_f1 {l : Launch} {G : xG} {h : List va_E} {w : Int32} (hw : w.toInt < 0) : CD l G yX9_isIn cX9_isIn 2 (some .boolean) 0 0 0 [.int w, .int 10] h (some (.int 0)) h := by
  refine cm_of rfl (Nat.le_of_ble_eq_true rfl) [(0, .int w), (1, .int 10)] rfl ?_
  refine aw_iload_n 0 dX9_isIn_0 rfl rfl ?_
  refine aw_if_lt 13 dX9_isIn_1 (by decide) (fun c1 => ?_) (fun c1 => absurd (by simp only [i_lt, (show (0 : Int32).toInt = 0 from rfl)]; omega) c1)
  refine aw_iconst (0) dX9_isIn_13 (by decide) ?_
  exact aw_zret rfl rfl dX9_isIn_14 (by decide) (by decide) ⟨rfl, rfl⟩
set_option maxHeartbeats 4000000 in
theorem X9_isIn10_f2 {l : Launch} {G : xG} {h : List va_E} {w : Int32} (hw : 10 ≤ w.toInt) : CD l G yX9_isIn cX9_isIn 2 (some .boolean) 0 0 0 [.int w, .int 10] h (some (.int 0)) h := by
  refine cm_of rfl (Nat.le_of_ble_eq_true rfl) [(0, .int w), (1, .int 10)] rfl ?_
  refine aw_iload_n 0 dX9_isIn_0 rfl rfl ?_
  refine aw_if_lt 13 dX9_isIn_1 (by decide) (fun c1 => absurd c1 (by simp only [i_lt, (show (0 : Int32).toInt = 0 from rfl)]; omega)) (fun c1 => ?_)
  refine aw_iload_n 0 dX9_isIn_4 rfl rfl ?_
  refine aw_iload_n 1 dX9_isIn_5 rfl rfl ?_
  refine aw_icmp_ge 13 dX9_isIn_6 (by decide) (fun c6 => ?_) (fun c6 => absurd (by simp only [i_le, (show (10 : Int32).toInt = 10 from rfl)]; omega) c6)
  refine aw_iconst (0) dX9_isIn_13 (by decide) ?_
  exact aw_zret rfl rfl dX9_isIn_14 (by decide) (by decide) ⟨rfl, rfl⟩
theorem X9_isIn10_f {l : Launch} {G : xG} {h : List va_E} {w : Int32} (hw : ¬ (0 ≤ w.toInt ∧ w.toInt < 10)) : CD l G yX9_isIn cX9_isIn 2 (some .boolean) 0 0 0 [.int w, .int 10] h (some (.int 0)) h := by
  by_cases h0 : w.toInt < 0
  · exact X9_isIn10_f1 h0
  · exact X9_isIn10_f2 (by omega)
set_option maxHeartbeats 4000000 in
theorem X9_isIn12_t {l : Launch} {G : xG} {h : List va_E} {w : Int32} (hw : 0 ≤ w.toInt ∧ w.toInt < 12) : CD l G yX9_isIn cX9_isIn 2 (some .boolean) 0 0 0 [.int w, .int 12] h (some (.int 1)) h := by
  refine cm_of rfl (Nat.le_of_ble_eq_true rfl) [(0, .int w), (1, .int 12)] rfl ?_
  refine aw_iload_n 0 dX9_isIn_0 rfl rfl ?_
  refine aw_if_lt 13 dX9_isIn_1 (by decide) (fun c1 => absurd c1 (by simp only [i_lt, (show (0 : Int32).toInt = 0 from rfl)]; omega)) (fun c1 => ?_)
  refine aw_iload_n 0 dX9_isIn_4 rfl rfl ?_
  refine aw_iload_n 1 dX9_isIn_5 rfl rfl ?_
  refine aw_icmp_ge 13 dX9_isIn_6 (by decide) (fun c6 => absurd c6 (by simp only [i_le, (show (12 : Int32).toInt = 12 from rfl)]; omega)) (fun c6 => ?_)
  refine aw_iconst (1) dX9_isIn_9 (by decide) ?_
  refine aw_goto 14 dX9_isIn_10 (by decide) ?_
  exact aw_zret rfl rfl dX9_isIn_14 (by decide) (by decide) ⟨rfl, rfl⟩
set_option maxHeartbeats 4000000 in
theorem X9_isIn12_f1 {l : Launch} {G : xG} {h : List va_E} {w : Int32} (hw : w.toInt < 0) : CD l G yX9_isIn cX9_isIn 2 (some .boolean) 0 0 0 [.int w, .int 12] h (some (.int 0)) h := by
  refine cm_of rfl (Nat.le_of_ble_eq_true rfl) [(0, .int w), (1, .int 12)] rfl ?_
  refine aw_iload_n 0 dX9_isIn_0 rfl rfl ?_
  refine aw_if_lt 13 dX9_isIn_1 (by decide) (fun c1 => ?_) (fun c1 => absurd (by simp only [i_lt, (show (0 : Int32).toInt = 0 from rfl)]; omega) c1)
  refine aw_iconst (0) dX9_isIn_13 (by decide) ?_
  exact aw_zret rfl rfl dX9_isIn_14 (by decide) (by decide) ⟨rfl, rfl⟩
set_option maxHeartbeats 4000000 in
theorem X9_isIn12_f2 {l : Launch} {G : xG} {h : List va_E} {w : Int32} (hw : 12 ≤ w.toInt) : CD l G yX9_isIn cX9_isIn 2 (some .boolean) 0 0 0 [.int w, .int 12] h (some (.int 0)) h := by
  refine cm_of rfl (Nat.le_of_ble_eq_true rfl) [(0, .int w), (1, .int 12)] rfl ?_
  refine aw_iload_n 0 dX9_isIn_0 rfl rfl ?_
  refine aw_if_lt 13 dX9_isIn_1 (by decide) (fun c1 => absurd c1 (by simp only [i_lt, (show (0 : Int32).toInt = 0 from rfl)]; omega)) (fun c1 => ?_)
  refine aw_iload_n 0 dX9_isIn_4 rfl rfl ?_
  refine aw_iload_n 1 dX9_isIn_5 rfl rfl ?_
  refine aw_icmp_ge 13 dX9_isIn_6 (by decide) (fun c6 => ?_) (fun c6 => absurd (by simp only [i_le, (show (12 : Int32).toInt = 12 from rfl)]; omega) c6)
  refine aw_iconst (0) dX9_isIn_13 (by decide) ?_
  exact aw_zret rfl rfl dX9_isIn_14 (by decide) (by decide) ⟨rfl, rfl⟩
theorem X9_isIn12_f {l : Launch} {G : xG} {h : List va_E} {w : Int32} (hw : ¬ (0 ≤ w.toInt ∧ w.toInt < 12)) : CD l G yX9_isIn cX9_isIn 2 (some .boolean) 0 0 0 [.int w, .int 12] h (some (.int 0)) h := by
  by_cases h0 : w.toInt < 0
  · exact X9_isIn12_f1 h0
  · exact X9_isIn12_f2 (by omega)
set_option maxHeartbeats 4000000 in
theorem X9_isIn20_t {l : Launch} {G : xG} {h : List va_E} {w : Int32} (hw : 0 ≤ w.toInt ∧ w.toInt < 20) : CD l G yX9_isIn cX9_isIn 2 (some .boolean) 0 0 0 [.int w, .int 20] h (some (.int 1)) h := by
  refine cm_of rfl (Nat.le_of_ble_eq_true rfl) [(0, .int w), (1, .int 20)] rfl ?_
  refine aw_iload_n 0 dX9_isIn_0 rfl rfl ?_
  refine aw_if_lt 13 dX9_isIn_1 (by decide) (fun c1 => absurd c1 (by simp only [i_lt, (show (0 : Int32).toInt = 0 from rfl)]; omega)) (fun c1 => ?_)
  refine aw_iload_n 0 dX9_isIn_4 rfl rfl ?_
  refine aw_iload_n 1 dX9_isIn_5 rfl rfl ?_
  refine aw_icmp_ge 13 dX9_isIn_6 (by decide) (fun c6 => absurd c6 (by simp only [i_le, (show (20 : Int32).toInt = 20 from rfl)]; omega)) (fun c6 => ?_)
  refine aw_iconst (1) dX9_isIn_9 (by decide) ?_
  refine aw_goto 14 dX9_isIn_10 (by decide) ?_
  exact aw_zret rfl rfl dX9_isIn_14 (by decide) (by decide) ⟨rfl, rfl⟩
set_option maxHeartbeats 4000000 in
theorem X9_isIn20_f1 {l : Launch} {G : xG} {h : List va_E} {w : Int32} (hw : w.toInt < 0) : CD l G yX9_isIn cX9_isIn 2 (some .boolean) 0 0 0 [.int w, .int 20] h (some (.int 0)) h := by
  refine cm_of rfl (Nat.le_of_ble_eq_true rfl) [(0, .int w), (1, .int 20)] rfl ?_
  refine aw_iload_n 0 dX9_isIn_0 rfl rfl ?_
  refine aw_if_lt 13 dX9_isIn_1 (by decide) (fun c1 => ?_) (fun c1 => absurd (by simp only [i_lt, (show (0 : Int32).toInt = 0 from rfl)]; omega) c1)
  refine aw_iconst (0) dX9_isIn_13 (by decide) ?_
  exact aw_zret rfl rfl dX9_isIn_14 (by decide) (by decide) ⟨rfl, rfl⟩
set_option maxHeartbeats 4000000 in
theorem X9_isIn20_f2 {l : Launch} {G : xG} {h : List va_E} {w : Int32} (hw : 20 ≤ w.toInt) : CD l G yX9_isIn cX9_isIn 2 (some .boolean) 0 0 0 [.int w, .int 20] h (some (.int 0)) h := by
  refine cm_of rfl (Nat.le_of_ble_eq_true rfl) [(0, .int w), (1, .int 20)] rfl ?_
  refine aw_iload_n 0 dX9_isIn_0 rfl rfl ?_
  refine aw_if_lt 13 dX9_isIn_1 (by decide) (fun c1 => absurd c1 (by simp only [i_lt, (show (0 : Int32).toInt = 0 from rfl)]; omega)) (fun c1 => ?_)
  refine aw_iload_n 0 dX9_isIn_4 rfl rfl ?_
  refine aw_iload_n 1 dX9_isIn_5 rfl rfl ?_
  refine aw_icmp_ge 13 dX9_isIn_6 (by decide) (fun c6 => ?_) (fun c6 => absurd (by simp only [i_le, (show (20 : Int32).toInt = 20 from rfl)]; omega) c6)
  refine aw_iconst (0) dX9_isIn_13 (by decide) ?_
  exact aw_zret rfl rfl dX9_isIn_14 (by decide) (by decide) ⟨rfl, rfl⟩
theorem X9_isIn20_f {l : Launch} {G : xG} {h : List va_E} {w : Int32} (hw : ¬ (0 ≤ w.toInt ∧ w.toInt < 20)) : CD l G yX9_isIn cX9_isIn 2 (some .boolean) 0 0 0 [.int w, .int 20] h (some (.int 0)) h := by
  by_cases h0 : w.toInt < 0
  · exact X9_isIn20_f1 h0
  · exact X9_isIn20_f2 (by omega)
set_option maxHeartbeats 4000000 in
theorem X9_isIn0_f1 {l : Launch} {G : xG} {h : List va_E} {w : Int32} (hw : w.toInt < 0) : CD l G yX9_isIn cX9_isIn 2 (some .boolean) 0 0 0 [.int w, .int 0] h (some (.int 0)) h := by
  refine cm_of rfl (Nat.le_of_ble_eq_true rfl) [(0, .int w), (1, .int 0)] rfl ?_
  refine aw_iload_n 0 dX9_isIn_0 rfl rfl ?_
  refine aw_if_lt 13 dX9_isIn_1 (by decide) (fun c1 => ?_) (fun c1 => absurd (by simp only [i_lt, (show (0 : Int32).toInt = 0 from rfl)]; omega) c1)
  refine aw_iconst (0) dX9_isIn_13 (by decide) ?_
  exact aw_zret rfl rfl dX9_isIn_14 (by decide) (by decide) ⟨rfl, rfl⟩
set_option maxHeartbeats 4000000 in
theorem X9_isIn0_f2 {l : Launch} {G : xG} {h : List va_E} {w : Int32} (hw : 0 ≤ w.toInt) : CD l G yX9_isIn cX9_isIn 2 (some .boolean) 0 0 0 [.int w, .int 0] h (some (.int 0)) h := by
  refine cm_of rfl (Nat.le_of_ble_eq_true rfl) [(0, .int w), (1, .int 0)] rfl ?_
  refine aw_iload_n 0 dX9_isIn_0 rfl rfl ?_
  refine aw_if_lt 13 dX9_isIn_1 (by decide) (fun c1 => absurd c1 (by simp only [i_lt, (show (0 : Int32).toInt = 0 from rfl)]; omega)) (fun c1 => ?_)
  refine aw_iload_n 0 dX9_isIn_4 rfl rfl ?_
  refine aw_iload_n 1 dX9_isIn_5 rfl rfl ?_
  refine aw_icmp_ge 13 dX9_isIn_6 (by decide) (fun c6 => ?_) (fun c6 => absurd (by simp only [i_le, (show (0 : Int32).toInt = 0 from rfl)]; omega) c6)
  refine aw_iconst (0) dX9_isIn_13 (by decide) ?_
  exact aw_zret rfl rfl dX9_isIn_14 (by decide) (by decide) ⟨rfl, rfl⟩
theorem X9_isIn0_f {l : Launch} {G : xG} {h : List va_E} {w : Int32} : CD l G yX9_isIn cX9_isIn 2 (some .boolean) 0 0 0 [.int w, .int 0] h (some (.int 0)) h := by
  by_cases h0 : w.toInt < 0
  · exact X9_isIn0_f1 h0
  · exact X9_isIn0_f2 (by omega)
set_option maxHeartbeats 4000000 in
theorem X8_areTwo_t {l : Launch} {G : xG} {h : List va_E} {a b : Int32} (ha : 0 ≤ a.toInt ∧ a.toInt < 4) (hb : 0 ≤ b.toInt ∧ b.toInt < 4) (hab : a.toInt ≠ b.toInt) : CD l G yX8_areTwo cX8_areTwo 2 (some .boolean) 1 0 0 [.int a, .int b] h (some (.int 1)) h := by
  refine cm_of rfl (Nat.le_of_ble_eq_true rfl) [(0, .int a), (1, .int b)] rfl ?_
  refine aw_iload_n 0 dX8_areTwo_0 rfl rfl ?_
  refine aw_dS [.int a] [] lX8_81 sX8_isCatalogue mX8_isCatalogue dX8_areTwo_1 (X8_isCatalogue_t (by omega)) rfl (Nat.le_of_ble_eq_true rfl) (by decide) (by decide) rfl ?_
  refine aw_if_eq 23 dX8_areTwo_4 (by decide) (fun c4 => absurd c4 (by decide)) (fun c4 => ?_)
  refine aw_iload_n 1 dX8_areTwo_7 rfl rfl ?_
  refine aw_dS [.int b] [] lX8_81 sX8_isCatalogue mX8_isCatalogue dX8_areTwo_8 (X8_isCatalogue_t (by omega)) rfl (Nat.le_of_ble_eq_true rfl) (by decide) (by decide) rfl ?_
  refine aw_if_eq 23 dX8_areTwo_11 (by decide) (fun c11 => absurd c11 (by decide)) (fun c11 => ?_)
  refine aw_iload_n 0 dX8_areTwo_14 rfl rfl ?_
  refine aw_iload_n 1 dX8_areTwo_15 rfl rfl ?_
  refine aw_icmp_eq 23 dX8_areTwo_16 (by decide) (fun c16 => absurd c16 (by simp only [i_eq]; omega)) (fun c16 => ?_)
  refine aw_iconst (1) dX8_areTwo_19 (by decide) ?_
  refine aw_goto 24 dX8_areTwo_20 (by decide) ?_
  exact aw_zret rfl rfl dX8_areTwo_24 (by decide) (by decide) ⟨rfl, rfl⟩
set_option maxHeartbeats 4000000 in
theorem X8_areTwo_f1 {l : Launch} {G : xG} {h : List va_E} {a b : Int32} (ha : ¬ (0 ≤ a.toInt ∧ a.toInt < 4)) : CD l G yX8_areTwo cX8_areTwo 2 (some .boolean) 1 0 0 [.int a, .int b] h (some (.int 0)) h := by
  refine cm_of rfl (Nat.le_of_ble_eq_true rfl) [(0, .int a), (1, .int b)] rfl ?_
  refine aw_iload_n 0 dX8_areTwo_0 rfl rfl ?_
  refine aw_dS [.int a] [] lX8_81 sX8_isCatalogue mX8_isCatalogue dX8_areTwo_1 (X8_isCatalogue_f (by omega)) rfl (Nat.le_of_ble_eq_true rfl) (by decide) (by decide) rfl ?_
  refine aw_if_eq 23 dX8_areTwo_4 (by decide) (fun c4 => ?_) (fun c4 => absurd (by decide) c4)
  refine aw_iconst (0) dX8_areTwo_23 (by decide) ?_
  exact aw_zret rfl rfl dX8_areTwo_24 (by decide) (by decide) ⟨rfl, rfl⟩
set_option maxHeartbeats 4000000 in
theorem X8_areTwo_f2 {l : Launch} {G : xG} {h : List va_E} {a b : Int32} (ha : 0 ≤ a.toInt ∧ a.toInt < 4) (hb : ¬ (0 ≤ b.toInt ∧ b.toInt < 4)) : CD l G yX8_areTwo cX8_areTwo 2 (some .boolean) 1 0 0 [.int a, .int b] h (some (.int 0)) h := by
  refine cm_of rfl (Nat.le_of_ble_eq_true rfl) [(0, .int a), (1, .int b)] rfl ?_
  refine aw_iload_n 0 dX8_areTwo_0 rfl rfl ?_
  refine aw_dS [.int a] [] lX8_81 sX8_isCatalogue mX8_isCatalogue dX8_areTwo_1 (X8_isCatalogue_t (by omega)) rfl (Nat.le_of_ble_eq_true rfl) (by decide) (by decide) rfl ?_
  refine aw_if_eq 23 dX8_areTwo_4 (by decide) (fun c4 => absurd c4 (by decide)) (fun c4 => ?_)
  refine aw_iload_n 1 dX8_areTwo_7 rfl rfl ?_
  refine aw_dS [.int b] [] lX8_81 sX8_isCatalogue mX8_isCatalogue dX8_areTwo_8 (X8_isCatalogue_f (by omega)) rfl (Nat.le_of_ble_eq_true rfl) (by decide) (by decide) rfl ?_
  refine aw_if_eq 23 dX8_areTwo_11 (by decide) (fun c11 => ?_) (fun c11 => absurd (by decide) c11)
  refine aw_iconst (0) dX8_areTwo_23 (by decide) ?_
  exact aw_zret rfl rfl dX8_areTwo_24 (by decide) (by decide) ⟨rfl, rfl⟩
set_option maxHeartbeats 4000000 in
theorem X8_areTwo_f3 {l : Launch} {G : xG} {h : List va_E} {a b : Int32} (ha : 0 ≤ a.toInt ∧ a.toInt < 4) (hb : 0 ≤ b.toInt ∧ b.toInt < 4) (hab : a.toInt = b.toInt) : CD l G yX8_areTwo cX8_areTwo 2 (some .boolean) 1 0 0 [.int a, .int b] h (some (.int 0)) h := by
  refine cm_of rfl (Nat.le_of_ble_eq_true rfl) [(0, .int a), (1, .int b)] rfl ?_
  refine aw_iload_n 0 dX8_areTwo_0 rfl rfl ?_
  refine aw_dS [.int a] [] lX8_81 sX8_isCatalogue mX8_isCatalogue dX8_areTwo_1 (X8_isCatalogue_t (by omega)) rfl (Nat.le_of_ble_eq_true rfl) (by decide) (by decide) rfl ?_
  refine aw_if_eq 23 dX8_areTwo_4 (by decide) (fun c4 => absurd c4 (by decide)) (fun c4 => ?_)
  refine aw_iload_n 1 dX8_areTwo_7 rfl rfl ?_
  refine aw_dS [.int b] [] lX8_81 sX8_isCatalogue mX8_isCatalogue dX8_areTwo_8 (X8_isCatalogue_t (by omega)) rfl (Nat.le_of_ble_eq_true rfl) (by decide) (by decide) rfl ?_
  refine aw_if_eq 23 dX8_areTwo_11 (by decide) (fun c11 => absurd c11 (by decide)) (fun c11 => ?_)
  refine aw_iload_n 0 dX8_areTwo_14 rfl rfl ?_
  refine aw_iload_n 1 dX8_areTwo_15 rfl rfl ?_
  refine aw_icmp_eq 23 dX8_areTwo_16 (by decide) (fun c16 => ?_) (fun c16 => absurd (by simp only [i_eq]; omega) c16)
  refine aw_iconst (0) dX8_areTwo_23 (by decide) ?_
  exact aw_zret rfl rfl dX8_areTwo_24 (by decide) (by decide) ⟨rfl, rfl⟩
theorem X8_areTwo_f {l : Launch} {G : xG} {h : List va_E} {a b : Int32} (hw : ¬ ((0 ≤ a.toInt ∧ a.toInt < 4) ∧ (0 ≤ b.toInt ∧ b.toInt < 4) ∧ a.toInt ≠ b.toInt)) : CD l G yX8_areTwo cX8_areTwo 2 (some .boolean) 1 0 0 [.int a, .int b] h (some (.int 0)) h := by
  by_cases ha : 0 ≤ a.toInt ∧ a.toInt < 4
  · by_cases hb : 0 ≤ b.toInt ∧ b.toInt < 4
    · exact X8_areTwo_f3 ha hb (by omega)
    · exact X8_areTwo_f2 ha hb
  · exact X8_areTwo_f1 ha
set_option maxHeartbeats 4000000 in
theorem X9_areBooks_t {l : Launch} {G : xG} {h : List va_E} {a b : Int32} (ha : 0 ≤ a.toInt ∧ a.toInt < 4) (hb : 0 ≤ b.toInt ∧ b.toInt < 4) (hab : a.toInt ≠ b.toInt) : CD l G yX9_areBooks cX9_areBooks 3 (some .boolean) 1 0 0 [.ref (G.1 + 88), .int a, .int b] h (some (.int 1)) h := by
  refine cm_of rfl (Nat.le_of_ble_eq_true rfl) [(0, .ref (G.1 + 88)), (1, .int a), (2, .int b)] rfl ?_
  refine aw_iload_n 1 dX9_areBooks_0 rfl rfl ?_
  refine aw_iconst (4) dX9_areBooks_1 (by decide) ?_
  refine aw_dS [.int a, .int 4] [] lX9_126 sX9_isIn mX9_isIn dX9_areBooks_2 (X9_isIn4_t (by omega)) rfl (Nat.le_of_ble_eq_true rfl) (by decide) (by decide) rfl ?_
  refine aw_if_eq 25 dX9_areBooks_5 (by decide) (fun c5 => absurd c5 (by decide)) (fun c5 => ?_)
  refine aw_iload_n 2 dX9_areBooks_8 rfl rfl ?_
  refine aw_iconst (4) dX9_areBooks_9 (by decide) ?_
  refine aw_dS [.int b, .int 4] [] lX9_126 sX9_isIn mX9_isIn dX9_areBooks_10 (X9_isIn4_t (by omega)) rfl (Nat.le_of_ble_eq_true rfl) (by decide) (by decide) rfl ?_
  refine aw_if_eq 25 dX9_areBooks_13 (by decide) (fun c13 => absurd c13 (by decide)) (fun c13 => ?_)
  refine aw_iload_n 1 dX9_areBooks_16 rfl rfl ?_
  refine aw_iload_n 2 dX9_areBooks_17 rfl rfl ?_
  refine aw_icmp_eq 25 dX9_areBooks_18 (by decide) (fun c18 => absurd c18 (by simp only [i_eq]; omega)) (fun c18 => ?_)
  refine aw_iconst (1) dX9_areBooks_21 (by decide) ?_
  refine aw_goto 26 dX9_areBooks_22 (by decide) ?_
  exact aw_zret rfl rfl dX9_areBooks_26 (by decide) (by decide) ⟨rfl, rfl⟩
set_option maxHeartbeats 4000000 in
theorem X9_areBooks_f1 {l : Launch} {G : xG} {h : List va_E} {a b : Int32} (ha : ¬ (0 ≤ a.toInt ∧ a.toInt < 4)) : CD l G yX9_areBooks cX9_areBooks 3 (some .boolean) 1 0 0 [.ref (G.1 + 88), .int a, .int b] h (some (.int 0)) h := by
  refine cm_of rfl (Nat.le_of_ble_eq_true rfl) [(0, .ref (G.1 + 88)), (1, .int a), (2, .int b)] rfl ?_
  refine aw_iload_n 1 dX9_areBooks_0 rfl rfl ?_
  refine aw_iconst (4) dX9_areBooks_1 (by decide) ?_
  refine aw_dS [.int a, .int 4] [] lX9_126 sX9_isIn mX9_isIn dX9_areBooks_2 (X9_isIn4_f (by omega)) rfl (Nat.le_of_ble_eq_true rfl) (by decide) (by decide) rfl ?_
  refine aw_if_eq 25 dX9_areBooks_5 (by decide) (fun c5 => ?_) (fun c5 => absurd (by decide) c5)
  refine aw_iconst (0) dX9_areBooks_25 (by decide) ?_
  exact aw_zret rfl rfl dX9_areBooks_26 (by decide) (by decide) ⟨rfl, rfl⟩
set_option maxHeartbeats 4000000 in
theorem X9_areBooks_f2 {l : Launch} {G : xG} {h : List va_E} {a b : Int32} (ha : 0 ≤ a.toInt ∧ a.toInt < 4) (hb : ¬ (0 ≤ b.toInt ∧ b.toInt < 4)) : CD l G yX9_areBooks cX9_areBooks 3 (some .boolean) 1 0 0 [.ref (G.1 + 88), .int a, .int b] h (some (.int 0)) h := by
  refine cm_of rfl (Nat.le_of_ble_eq_true rfl) [(0, .ref (G.1 + 88)), (1, .int a), (2, .int b)] rfl ?_
  refine aw_iload_n 1 dX9_areBooks_0 rfl rfl ?_
  refine aw_iconst (4) dX9_areBooks_1 (by decide) ?_
  refine aw_dS [.int a, .int 4] [] lX9_126 sX9_isIn mX9_isIn dX9_areBooks_2 (X9_isIn4_t (by omega)) rfl (Nat.le_of_ble_eq_true rfl) (by decide) (by decide) rfl ?_
  refine aw_if_eq 25 dX9_areBooks_5 (by decide) (fun c5 => absurd c5 (by decide)) (fun c5 => ?_)
  refine aw_iload_n 2 dX9_areBooks_8 rfl rfl ?_
  refine aw_iconst (4) dX9_areBooks_9 (by decide) ?_
  refine aw_dS [.int b, .int 4] [] lX9_126 sX9_isIn mX9_isIn dX9_areBooks_10 (X9_isIn4_f (by omega)) rfl (Nat.le_of_ble_eq_true rfl) (by decide) (by decide) rfl ?_
  refine aw_if_eq 25 dX9_areBooks_13 (by decide) (fun c13 => ?_) (fun c13 => absurd (by decide) c13)
  refine aw_iconst (0) dX9_areBooks_25 (by decide) ?_
  exact aw_zret rfl rfl dX9_areBooks_26 (by decide) (by decide) ⟨rfl, rfl⟩
set_option maxHeartbeats 4000000 in
theorem X9_areBooks_f3 {l : Launch} {G : xG} {h : List va_E} {a b : Int32} (ha : 0 ≤ a.toInt ∧ a.toInt < 4) (hb : 0 ≤ b.toInt ∧ b.toInt < 4) (hab : a.toInt = b.toInt) : CD l G yX9_areBooks cX9_areBooks 3 (some .boolean) 1 0 0 [.ref (G.1 + 88), .int a, .int b] h (some (.int 0)) h := by
  refine cm_of rfl (Nat.le_of_ble_eq_true rfl) [(0, .ref (G.1 + 88)), (1, .int a), (2, .int b)] rfl ?_
  refine aw_iload_n 1 dX9_areBooks_0 rfl rfl ?_
  refine aw_iconst (4) dX9_areBooks_1 (by decide) ?_
  refine aw_dS [.int a, .int 4] [] lX9_126 sX9_isIn mX9_isIn dX9_areBooks_2 (X9_isIn4_t (by omega)) rfl (Nat.le_of_ble_eq_true rfl) (by decide) (by decide) rfl ?_
  refine aw_if_eq 25 dX9_areBooks_5 (by decide) (fun c5 => absurd c5 (by decide)) (fun c5 => ?_)
  refine aw_iload_n 2 dX9_areBooks_8 rfl rfl ?_
  refine aw_iconst (4) dX9_areBooks_9 (by decide) ?_
  refine aw_dS [.int b, .int 4] [] lX9_126 sX9_isIn mX9_isIn dX9_areBooks_10 (X9_isIn4_t (by omega)) rfl (Nat.le_of_ble_eq_true rfl) (by decide) (by decide) rfl ?_
  refine aw_if_eq 25 dX9_areBooks_13 (by decide) (fun c13 => absurd c13 (by decide)) (fun c13 => ?_)
  refine aw_iload_n 1 dX9_areBooks_16 rfl rfl ?_
  refine aw_iload_n 2 dX9_areBooks_17 rfl rfl ?_
  refine aw_icmp_eq 25 dX9_areBooks_18 (by decide) (fun c18 => ?_) (fun c18 => absurd (by simp only [i_eq]; omega) c18)
  refine aw_iconst (0) dX9_areBooks_25 (by decide) ?_
  exact aw_zret rfl rfl dX9_areBooks_26 (by decide) (by decide) ⟨rfl, rfl⟩
theorem X9_areBooks_f {l : Launch} {G : xG} {h : List va_E} {a b : Int32} (hw : ¬ ((0 ≤ a.toInt ∧ a.toInt < 4) ∧ (0 ≤ b.toInt ∧ b.toInt < 4) ∧ a.toInt ≠ b.toInt)) : CD l G yX9_areBooks cX9_areBooks 3 (some .boolean) 1 0 0 [.ref (G.1 + 88), .int a, .int b] h (some (.int 0)) h := by
  by_cases ha : 0 ≤ a.toInt ∧ a.toInt < 4
  · by_cases hb : 0 ≤ b.toInt ∧ b.toInt < 4
    · exact X9_areBooks_f3 ha hb (by omega)
    · exact X9_areBooks_f2 ha hb
  · exact X9_areBooks_f1 ha
set_option maxHeartbeats 4000000 in
theorem X8_hasOtherBits20_t1 {l : Launch} {G : xG} {h : List va_E} {w : Int32} (hw : w.toInt < 0) : CD l G yX8_hasOtherBits cX8_hasOtherBits 2 (some .boolean) 0 0 0 [.int w, .int 20] h (some (.int 1)) h := by
  refine cm_of rfl (Nat.le_of_ble_eq_true rfl) [(0, .int w), (1, .int 20)] rfl ?_
  refine aw_iload_n 0 dX8_hasOtherBits_0 rfl rfl ?_
  refine aw_if_lt 11 dX8_hasOtherBits_1 (by decide) (fun c1 => ?_) (fun c1 => absurd (by simp only [i_lt, (show (0 : Int32).toInt = 0 from rfl)]; omega) c1)
  refine aw_iconst (1) dX8_hasOtherBits_11 (by decide) ?_
  refine aw_goto 16 dX8_hasOtherBits_12 (by decide) ?_
  exact aw_zret rfl rfl dX8_hasOtherBits_16 (by decide) (by decide) ⟨rfl, rfl⟩
set_option maxHeartbeats 4000000 in
theorem X8_hasOtherBits20_t2 {l : Launch} {G : xG} {h : List va_E} {w : Int32} (hw : 1048576 ≤ w.toInt) : CD l G yX8_hasOtherBits cX8_hasOtherBits 2 (some .boolean) 0 0 0 [.int w, .int 20] h (some (.int 1)) h := by
  refine cm_of rfl (Nat.le_of_ble_eq_true rfl) [(0, .int w), (1, .int 20)] rfl ?_
  refine aw_iload_n 0 dX8_hasOtherBits_0 rfl rfl ?_
  refine aw_if_lt 11 dX8_hasOtherBits_1 (by decide) (fun c1 => absurd c1 (by simp only [i_lt, (show (0 : Int32).toInt = 0 from rfl)]; omega)) (fun c1 => ?_)
  refine aw_iload_n 0 dX8_hasOtherBits_4 rfl rfl ?_
  refine aw_iconst (1) dX8_hasOtherBits_5 (by decide) ?_
  refine aw_iload_n 1 dX8_hasOtherBits_6 rfl rfl ?_
  refine aw_ishl dX8_hasOtherBits_7 ?_
  refine aw_toe 1048576 (by decide) ?_
  refine aw_icmp_lt 15 dX8_hasOtherBits_8 (by decide) (fun c8 => absurd c8 (by simp only [i_lt, (show (1048576 : Int32).toInt = 1048576 from rfl)]; omega)) (fun c8 => ?_)
  refine aw_iconst (1) dX8_hasOtherBits_11 (by decide) ?_
  refine aw_goto 16 dX8_hasOtherBits_12 (by decide) ?_
  exact aw_zret rfl rfl dX8_hasOtherBits_16 (by decide) (by decide) ⟨rfl, rfl⟩
set_option maxHeartbeats 4000000 in
theorem X8_hasOtherBits20_f {l : Launch} {G : xG} {h : List va_E} {w : Int32} (hw : 0 ≤ w.toInt ∧ w.toInt < 1048576) : CD l G yX8_hasOtherBits cX8_hasOtherBits 2 (some .boolean) 0 0 0 [.int w, .int 20] h (some (.int 0)) h := by
  refine cm_of rfl (Nat.le_of_ble_eq_true rfl) [(0, .int w), (1, .int 20)] rfl ?_
  refine aw_iload_n 0 dX8_hasOtherBits_0 rfl rfl ?_
  refine aw_if_lt 11 dX8_hasOtherBits_1 (by decide) (fun c1 => absurd c1 (by simp only [i_lt, (show (0 : Int32).toInt = 0 from rfl)]; omega)) (fun c1 => ?_)
  refine aw_iload_n 0 dX8_hasOtherBits_4 rfl rfl ?_
  refine aw_iconst (1) dX8_hasOtherBits_5 (by decide) ?_
  refine aw_iload_n 1 dX8_hasOtherBits_6 rfl rfl ?_
  refine aw_ishl dX8_hasOtherBits_7 ?_
  refine aw_toe 1048576 (by decide) ?_
  refine aw_icmp_lt 15 dX8_hasOtherBits_8 (by decide) (fun c8 => ?_) (fun c8 => absurd (by simp only [i_lt, (show (1048576 : Int32).toInt = 1048576 from rfl)]; omega) c8)
  refine aw_iconst (0) dX8_hasOtherBits_15 (by decide) ?_
  exact aw_zret rfl rfl dX8_hasOtherBits_16 (by decide) (by decide) ⟨rfl, rfl⟩
theorem X8_hasOtherBits20_t {l : Launch} {G : xG} {h : List va_E} {w : Int32} (hw : ¬ (0 ≤ w.toInt ∧ w.toInt < 1048576)) : CD l G yX8_hasOtherBits cX8_hasOtherBits 2 (some .boolean) 0 0 0 [.int w, .int 20] h (some (.int 1)) h := by
  by_cases h0 : w.toInt < 0
  · exact X8_hasOtherBits20_t1 h0
  · exact X8_hasOtherBits20_t2 (by omega)
set_option maxHeartbeats 4000000 in
theorem X8_hasOtherBits12_t1 {l : Launch} {G : xG} {h : List va_E} {w : Int32} (hw : w.toInt < 0) : CD l G yX8_hasOtherBits cX8_hasOtherBits 2 (some .boolean) 0 0 0 [.int w, .int 12] h (some (.int 1)) h := by
  refine cm_of rfl (Nat.le_of_ble_eq_true rfl) [(0, .int w), (1, .int 12)] rfl ?_
  refine aw_iload_n 0 dX8_hasOtherBits_0 rfl rfl ?_
  refine aw_if_lt 11 dX8_hasOtherBits_1 (by decide) (fun c1 => ?_) (fun c1 => absurd (by simp only [i_lt, (show (0 : Int32).toInt = 0 from rfl)]; omega) c1)
  refine aw_iconst (1) dX8_hasOtherBits_11 (by decide) ?_
  refine aw_goto 16 dX8_hasOtherBits_12 (by decide) ?_
  exact aw_zret rfl rfl dX8_hasOtherBits_16 (by decide) (by decide) ⟨rfl, rfl⟩
set_option maxHeartbeats 4000000 in
theorem X8_hasOtherBits12_t2 {l : Launch} {G : xG} {h : List va_E} {w : Int32} (hw : 4096 ≤ w.toInt) : CD l G yX8_hasOtherBits cX8_hasOtherBits 2 (some .boolean) 0 0 0 [.int w, .int 12] h (some (.int 1)) h := by
  refine cm_of rfl (Nat.le_of_ble_eq_true rfl) [(0, .int w), (1, .int 12)] rfl ?_
  refine aw_iload_n 0 dX8_hasOtherBits_0 rfl rfl ?_
  refine aw_if_lt 11 dX8_hasOtherBits_1 (by decide) (fun c1 => absurd c1 (by simp only [i_lt, (show (0 : Int32).toInt = 0 from rfl)]; omega)) (fun c1 => ?_)
  refine aw_iload_n 0 dX8_hasOtherBits_4 rfl rfl ?_
  refine aw_iconst (1) dX8_hasOtherBits_5 (by decide) ?_
  refine aw_iload_n 1 dX8_hasOtherBits_6 rfl rfl ?_
  refine aw_ishl dX8_hasOtherBits_7 ?_
  refine aw_toe 4096 (by decide) ?_
  refine aw_icmp_lt 15 dX8_hasOtherBits_8 (by decide) (fun c8 => absurd c8 (by simp only [i_lt, (show (4096 : Int32).toInt = 4096 from rfl)]; omega)) (fun c8 => ?_)
  refine aw_iconst (1) dX8_hasOtherBits_11 (by decide) ?_
  refine aw_goto 16 dX8_hasOtherBits_12 (by decide) ?_
  exact aw_zret rfl rfl dX8_hasOtherBits_16 (by decide) (by decide) ⟨rfl, rfl⟩
set_option maxHeartbeats 4000000 in
theorem X8_hasOtherBits12_f {l : Launch} {G : xG} {h : List va_E} {w : Int32} (hw : 0 ≤ w.toInt ∧ w.toInt < 4096) : CD l G yX8_hasOtherBits cX8_hasOtherBits 2 (some .boolean) 0 0 0 [.int w, .int 12] h (some (.int 0)) h := by
  refine cm_of rfl (Nat.le_of_ble_eq_true rfl) [(0, .int w), (1, .int 12)] rfl ?_
  refine aw_iload_n 0 dX8_hasOtherBits_0 rfl rfl ?_
  refine aw_if_lt 11 dX8_hasOtherBits_1 (by decide) (fun c1 => absurd c1 (by simp only [i_lt, (show (0 : Int32).toInt = 0 from rfl)]; omega)) (fun c1 => ?_)
  refine aw_iload_n 0 dX8_hasOtherBits_4 rfl rfl ?_
  refine aw_iconst (1) dX8_hasOtherBits_5 (by decide) ?_
  refine aw_iload_n 1 dX8_hasOtherBits_6 rfl rfl ?_
  refine aw_ishl dX8_hasOtherBits_7 ?_
  refine aw_toe 4096 (by decide) ?_
  refine aw_icmp_lt 15 dX8_hasOtherBits_8 (by decide) (fun c8 => ?_) (fun c8 => absurd (by simp only [i_lt, (show (4096 : Int32).toInt = 4096 from rfl)]; omega) c8)
  refine aw_iconst (0) dX8_hasOtherBits_15 (by decide) ?_
  exact aw_zret rfl rfl dX8_hasOtherBits_16 (by decide) (by decide) ⟨rfl, rfl⟩
theorem X8_hasOtherBits12_t {l : Launch} {G : xG} {h : List va_E} {w : Int32} (hw : ¬ (0 ≤ w.toInt ∧ w.toInt < 4096)) : CD l G yX8_hasOtherBits cX8_hasOtherBits 2 (some .boolean) 0 0 0 [.int w, .int 12] h (some (.int 1)) h := by
  by_cases h0 : w.toInt < 0
  · exact X8_hasOtherBits12_t1 h0
  · exact X8_hasOtherBits12_t2 (by omega)
set_option maxHeartbeats 4000000 in
theorem X8_hasOtherBits10_t1 {l : Launch} {G : xG} {h : List va_E} {w : Int32} (hw : w.toInt < 0) : CD l G yX8_hasOtherBits cX8_hasOtherBits 2 (some .boolean) 0 0 0 [.int w, .int 10] h (some (.int 1)) h := by
  refine cm_of rfl (Nat.le_of_ble_eq_true rfl) [(0, .int w), (1, .int 10)] rfl ?_
  refine aw_iload_n 0 dX8_hasOtherBits_0 rfl rfl ?_
  refine aw_if_lt 11 dX8_hasOtherBits_1 (by decide) (fun c1 => ?_) (fun c1 => absurd (by simp only [i_lt, (show (0 : Int32).toInt = 0 from rfl)]; omega) c1)
  refine aw_iconst (1) dX8_hasOtherBits_11 (by decide) ?_
  refine aw_goto 16 dX8_hasOtherBits_12 (by decide) ?_
  exact aw_zret rfl rfl dX8_hasOtherBits_16 (by decide) (by decide) ⟨rfl, rfl⟩
set_option maxHeartbeats 4000000 in
theorem X8_hasOtherBits10_t2 {l : Launch} {G : xG} {h : List va_E} {w : Int32} (hw : 1024 ≤ w.toInt) : CD l G yX8_hasOtherBits cX8_hasOtherBits 2 (some .boolean) 0 0 0 [.int w, .int 10] h (some (.int 1)) h := by
  refine cm_of rfl (Nat.le_of_ble_eq_true rfl) [(0, .int w), (1, .int 10)] rfl ?_
  refine aw_iload_n 0 dX8_hasOtherBits_0 rfl rfl ?_
  refine aw_if_lt 11 dX8_hasOtherBits_1 (by decide) (fun c1 => absurd c1 (by simp only [i_lt, (show (0 : Int32).toInt = 0 from rfl)]; omega)) (fun c1 => ?_)
  refine aw_iload_n 0 dX8_hasOtherBits_4 rfl rfl ?_
  refine aw_iconst (1) dX8_hasOtherBits_5 (by decide) ?_
  refine aw_iload_n 1 dX8_hasOtherBits_6 rfl rfl ?_
  refine aw_ishl dX8_hasOtherBits_7 ?_
  refine aw_toe 1024 (by decide) ?_
  refine aw_icmp_lt 15 dX8_hasOtherBits_8 (by decide) (fun c8 => absurd c8 (by simp only [i_lt, (show (1024 : Int32).toInt = 1024 from rfl)]; omega)) (fun c8 => ?_)
  refine aw_iconst (1) dX8_hasOtherBits_11 (by decide) ?_
  refine aw_goto 16 dX8_hasOtherBits_12 (by decide) ?_
  exact aw_zret rfl rfl dX8_hasOtherBits_16 (by decide) (by decide) ⟨rfl, rfl⟩
set_option maxHeartbeats 4000000 in
theorem X8_hasOtherBits10_f {l : Launch} {G : xG} {h : List va_E} {w : Int32} (hw : 0 ≤ w.toInt ∧ w.toInt < 1024) : CD l G yX8_hasOtherBits cX8_hasOtherBits 2 (some .boolean) 0 0 0 [.int w, .int 10] h (some (.int 0)) h := by
  refine cm_of rfl (Nat.le_of_ble_eq_true rfl) [(0, .int w), (1, .int 10)] rfl ?_
  refine aw_iload_n 0 dX8_hasOtherBits_0 rfl rfl ?_
  refine aw_if_lt 11 dX8_hasOtherBits_1 (by decide) (fun c1 => absurd c1 (by simp only [i_lt, (show (0 : Int32).toInt = 0 from rfl)]; omega)) (fun c1 => ?_)
  refine aw_iload_n 0 dX8_hasOtherBits_4 rfl rfl ?_
  refine aw_iconst (1) dX8_hasOtherBits_5 (by decide) ?_
  refine aw_iload_n 1 dX8_hasOtherBits_6 rfl rfl ?_
  refine aw_ishl dX8_hasOtherBits_7 ?_
  refine aw_toe 1024 (by decide) ?_
  refine aw_icmp_lt 15 dX8_hasOtherBits_8 (by decide) (fun c8 => ?_) (fun c8 => absurd (by simp only [i_lt, (show (1024 : Int32).toInt = 1024 from rfl)]; omega) c8)
  refine aw_iconst (0) dX8_hasOtherBits_15 (by decide) ?_
  exact aw_zret rfl rfl dX8_hasOtherBits_16 (by decide) (by decide) ⟨rfl, rfl⟩
theorem X8_hasOtherBits10_t {l : Launch} {G : xG} {h : List va_E} {w : Int32} (hw : ¬ (0 ≤ w.toInt ∧ w.toInt < 1024)) : CD l G yX8_hasOtherBits cX8_hasOtherBits 2 (some .boolean) 0 0 0 [.int w, .int 10] h (some (.int 1)) h := by
  by_cases h0 : w.toInt < 0
  · exact X8_hasOtherBits10_t1 h0
  · exact X8_hasOtherBits10_t2 (by omega)
set_option maxHeartbeats 4000000 in
theorem X8_daysRefusal_a {l : Launch} {G : xG} {h : List va_E} {d k : Int32} (h0 : d.toInt < 0) : CD l G yX8_daysRefusal cX8_daysRefusal 2 (some .int) 0 0 0 [.int d, .int k] h (some (.int (-4))) h := by
  refine cm_of rfl (Nat.le_of_ble_eq_true rfl) [(0, .int d), (1, .int k)] rfl ?_
  refine aw_iload_n 0 dX8_daysRefusal_0 rfl rfl ?_
  refine aw_if_lt 8 dX8_daysRefusal_1 (by decide) (fun c1 => ?_) (fun c1 => absurd (by simp only [i_lt, (show (0 : Int32).toInt = 0 from rfl)]; omega) c1)
  refine aw_bipush (-4) dX8_daysRefusal_8 (by decide) ?_
  exact aw_iret rfl dX8_daysRefusal_10 (by decide) (by decide) ⟨rfl, rfl⟩
set_option maxHeartbeats 4000000 in
theorem X8_daysRefusal_b {l : Launch} {G : xG} {h : List va_E} {d k : Int32} (h0 : 0 ≤ d.toInt) (h1 : k.toInt < 0) : CD l G yX8_daysRefusal cX8_daysRefusal 2 (some .int) 0 0 0 [.int d, .int k] h (some (.int (-4))) h := by
  refine cm_of rfl (Nat.le_of_ble_eq_true rfl) [(0, .int d), (1, .int k)] rfl ?_
  refine aw_iload_n 0 dX8_daysRefusal_0 rfl rfl ?_
  refine aw_if_lt 8 dX8_daysRefusal_1 (by decide) (fun c1 => absurd c1 (by simp only [i_lt, (show (0 : Int32).toInt = 0 from rfl)]; omega)) (fun c1 => ?_)
  refine aw_iload_n 1 dX8_daysRefusal_4 rfl rfl ?_
  refine aw_if_ge 11 dX8_daysRefusal_5 (by decide) (fun c5 => absurd c5 (by simp only [i_le, (show (0 : Int32).toInt = 0 from rfl)]; omega)) (fun c5 => ?_)
  refine aw_bipush (-4) dX8_daysRefusal_8 (by decide) ?_
  exact aw_iret rfl dX8_daysRefusal_10 (by decide) (by decide) ⟨rfl, rfl⟩
set_option maxHeartbeats 4000000 in
theorem X8_daysRefusal_c {l : Launch} {G : xG} {h : List va_E} {d k : Int32} (h0 : 80000 < d.toInt) (h1 : 0 ≤ k.toInt) : CD l G yX8_daysRefusal cX8_daysRefusal 2 (some .int) 0 0 0 [.int d, .int k] h (some (.int (-6))) h := by
  refine cm_of rfl (Nat.le_of_ble_eq_true rfl) [(0, .int d), (1, .int k)] rfl ?_
  refine aw_iload_n 0 dX8_daysRefusal_0 rfl rfl ?_
  refine aw_if_lt 8 dX8_daysRefusal_1 (by decide) (fun c1 => absurd c1 (by simp only [i_lt, (show (0 : Int32).toInt = 0 from rfl)]; omega)) (fun c1 => ?_)
  refine aw_iload_n 1 dX8_daysRefusal_4 rfl rfl ?_
  refine aw_if_ge 11 dX8_daysRefusal_5 (by decide) (fun c5 => ?_) (fun c5 => absurd (by simp only [i_le, (show (0 : Int32).toInt = 0 from rfl)]; omega) c5)
  refine aw_iload_n 0 dX8_daysRefusal_11 rfl rfl ?_
  refine aw_ldc (80000) kX8_172 dX8_daysRefusal_12 ?_
  refine aw_icmp_gt 23 dX8_daysRefusal_14 (by decide) (fun c14 => ?_) (fun c14 => absurd (by simp only [i_lt, (show (80000 : Int32).toInt = 80000 from rfl)]; omega) c14)
  refine aw_bipush (-6) dX8_daysRefusal_23 (by decide) ?_
  refine aw_goto 29 dX8_daysRefusal_25 (by decide) ?_
  exact aw_iret rfl dX8_daysRefusal_29 (by decide) (by decide) ⟨rfl, rfl⟩
set_option maxHeartbeats 4000000 in
theorem X8_daysRefusal_e {l : Launch} {G : xG} {h : List va_E} {d k : Int32} (h0 : 0 ≤ d.toInt ∧ d.toInt < 80001) (h1 : 80000 < k.toInt) : CD l G yX8_daysRefusal cX8_daysRefusal 2 (some .int) 0 0 0 [.int d, .int k] h (some (.int (-6))) h := by
  refine cm_of rfl (Nat.le_of_ble_eq_true rfl) [(0, .int d), (1, .int k)] rfl ?_
  refine aw_iload_n 0 dX8_daysRefusal_0 rfl rfl ?_
  refine aw_if_lt 8 dX8_daysRefusal_1 (by decide) (fun c1 => absurd c1 (by simp only [i_lt, (show (0 : Int32).toInt = 0 from rfl)]; omega)) (fun c1 => ?_)
  refine aw_iload_n 1 dX8_daysRefusal_4 rfl rfl ?_
  refine aw_if_ge 11 dX8_daysRefusal_5 (by decide) (fun c5 => ?_) (fun c5 => absurd (by simp only [i_le, (show (0 : Int32).toInt = 0 from rfl)]; omega) c5)
  refine aw_iload_n 0 dX8_daysRefusal_11 rfl rfl ?_
  refine aw_ldc (80000) kX8_172 dX8_daysRefusal_12 ?_
  refine aw_icmp_gt 23 dX8_daysRefusal_14 (by decide) (fun c14 => absurd c14 (by simp only [i_lt, (show (80000 : Int32).toInt = 80000 from rfl)]; omega)) (fun c14 => ?_)
  refine aw_iload_n 1 dX8_daysRefusal_17 rfl rfl ?_
  refine aw_ldc (80000) kX8_172 dX8_daysRefusal_18 ?_
  refine aw_icmp_le 28 dX8_daysRefusal_20 (by decide) (fun c20 => absurd c20 (by simp only [i_le, (show (80000 : Int32).toInt = 80000 from rfl)]; omega)) (fun c20 => ?_)
  refine aw_bipush (-6) dX8_daysRefusal_23 (by decide) ?_
  refine aw_goto 29 dX8_daysRefusal_25 (by decide) ?_
  exact aw_iret rfl dX8_daysRefusal_29 (by decide) (by decide) ⟨rfl, rfl⟩
set_option maxHeartbeats 4000000 in
theorem X8_daysRefusal_o {l : Launch} {G : xG} {h : List va_E} {d k : Int32} (h0 : 0 ≤ d.toInt ∧ d.toInt < 80001) (h1 : 0 ≤ k.toInt ∧ k.toInt < 80001) : CD l G yX8_daysRefusal cX8_daysRefusal 2 (some .int) 0 0 0 [.int d, .int k] h (some (.int 0)) h := by
  refine cm_of rfl (Nat.le_of_ble_eq_true rfl) [(0, .int d), (1, .int k)] rfl ?_
  refine aw_iload_n 0 dX8_daysRefusal_0 rfl rfl ?_
  refine aw_if_lt 8 dX8_daysRefusal_1 (by decide) (fun c1 => absurd c1 (by simp only [i_lt, (show (0 : Int32).toInt = 0 from rfl)]; omega)) (fun c1 => ?_)
  refine aw_iload_n 1 dX8_daysRefusal_4 rfl rfl ?_
  refine aw_if_ge 11 dX8_daysRefusal_5 (by decide) (fun c5 => ?_) (fun c5 => absurd (by simp only [i_le, (show (0 : Int32).toInt = 0 from rfl)]; omega) c5)
  refine aw_iload_n 0 dX8_daysRefusal_11 rfl rfl ?_
  refine aw_ldc (80000) kX8_172 dX8_daysRefusal_12 ?_
  refine aw_icmp_gt 23 dX8_daysRefusal_14 (by decide) (fun c14 => absurd c14 (by simp only [i_lt, (show (80000 : Int32).toInt = 80000 from rfl)]; omega)) (fun c14 => ?_)
  refine aw_iload_n 1 dX8_daysRefusal_17 rfl rfl ?_
  refine aw_ldc (80000) kX8_172 dX8_daysRefusal_18 ?_
  refine aw_icmp_le 28 dX8_daysRefusal_20 (by decide) (fun c20 => ?_) (fun c20 => absurd (by simp only [i_le, (show (80000 : Int32).toInt = 80000 from rfl)]; omega) c20)
  refine aw_iconst (0) dX8_daysRefusal_28 (by decide) ?_
  exact aw_iret rfl dX8_daysRefusal_29 (by decide) (by decide) ⟨rfl, rfl⟩
set_option maxHeartbeats 4000000 in
theorem X9_wrongDays_a {l : Launch} {G : xG} {h : List va_E} {d k : Int32} (h0 : d.toInt < 0) : CD l G yX9_wrongDays cX9_wrongDays 2 (some .int) 0 0 0 [.int d, .int k] h (some (.int (-4))) h := by
  refine cm_of rfl (Nat.le_of_ble_eq_true rfl) [(0, .int d), (1, .int k)] rfl ?_
  refine aw_iload_n 0 dX9_wrongDays_0 rfl rfl ?_
  refine aw_if_lt 8 dX9_wrongDays_1 (by decide) (fun c1 => ?_) (fun c1 => absurd (by simp only [i_lt, (show (0 : Int32).toInt = 0 from rfl)]; omega) c1)
  refine aw_bipush (-4) dX9_wrongDays_8 (by decide) ?_
  exact aw_iret rfl dX9_wrongDays_10 (by decide) (by decide) ⟨rfl, rfl⟩
set_option maxHeartbeats 4000000 in
theorem X9_wrongDays_b {l : Launch} {G : xG} {h : List va_E} {d k : Int32} (h0 : 0 ≤ d.toInt) (h1 : k.toInt < 0) : CD l G yX9_wrongDays cX9_wrongDays 2 (some .int) 0 0 0 [.int d, .int k] h (some (.int (-4))) h := by
  refine cm_of rfl (Nat.le_of_ble_eq_true rfl) [(0, .int d), (1, .int k)] rfl ?_
  refine aw_iload_n 0 dX9_wrongDays_0 rfl rfl ?_
  refine aw_if_lt 8 dX9_wrongDays_1 (by decide) (fun c1 => absurd c1 (by simp only [i_lt, (show (0 : Int32).toInt = 0 from rfl)]; omega)) (fun c1 => ?_)
  refine aw_iload_n 1 dX9_wrongDays_4 rfl rfl ?_
  refine aw_if_ge 11 dX9_wrongDays_5 (by decide) (fun c5 => absurd c5 (by simp only [i_le, (show (0 : Int32).toInt = 0 from rfl)]; omega)) (fun c5 => ?_)
  refine aw_bipush (-4) dX9_wrongDays_8 (by decide) ?_
  exact aw_iret rfl dX9_wrongDays_10 (by decide) (by decide) ⟨rfl, rfl⟩
set_option maxHeartbeats 4000000 in
theorem X9_wrongDays_c {l : Launch} {G : xG} {h : List va_E} {d k : Int32} (h0 : 80000 < d.toInt) (h1 : 0 ≤ k.toInt) : CD l G yX9_wrongDays cX9_wrongDays 2 (some .int) 0 0 0 [.int d, .int k] h (some (.int (-6))) h := by
  refine cm_of rfl (Nat.le_of_ble_eq_true rfl) [(0, .int d), (1, .int k)] rfl ?_
  refine aw_iload_n 0 dX9_wrongDays_0 rfl rfl ?_
  refine aw_if_lt 8 dX9_wrongDays_1 (by decide) (fun c1 => absurd c1 (by simp only [i_lt, (show (0 : Int32).toInt = 0 from rfl)]; omega)) (fun c1 => ?_)
  refine aw_iload_n 1 dX9_wrongDays_4 rfl rfl ?_
  refine aw_if_ge 11 dX9_wrongDays_5 (by decide) (fun c5 => ?_) (fun c5 => absurd (by simp only [i_le, (show (0 : Int32).toInt = 0 from rfl)]; omega) c5)
  refine aw_iload_n 0 dX9_wrongDays_11 rfl rfl ?_
  refine aw_ldc (80000) kX9_194 dX9_wrongDays_12 ?_
  refine aw_icmp_gt 23 dX9_wrongDays_14 (by decide) (fun c14 => ?_) (fun c14 => absurd (by simp only [i_lt, (show (80000 : Int32).toInt = 80000 from rfl)]; omega) c14)
  refine aw_bipush (-6) dX9_wrongDays_23 (by decide) ?_
  refine aw_goto 29 dX9_wrongDays_25 (by decide) ?_
  exact aw_iret rfl dX9_wrongDays_29 (by decide) (by decide) ⟨rfl, rfl⟩
set_option maxHeartbeats 4000000 in
theorem X9_wrongDays_e {l : Launch} {G : xG} {h : List va_E} {d k : Int32} (h0 : 0 ≤ d.toInt ∧ d.toInt < 80001) (h1 : 80000 < k.toInt) : CD l G yX9_wrongDays cX9_wrongDays 2 (some .int) 0 0 0 [.int d, .int k] h (some (.int (-6))) h := by
  refine cm_of rfl (Nat.le_of_ble_eq_true rfl) [(0, .int d), (1, .int k)] rfl ?_
  refine aw_iload_n 0 dX9_wrongDays_0 rfl rfl ?_
  refine aw_if_lt 8 dX9_wrongDays_1 (by decide) (fun c1 => absurd c1 (by simp only [i_lt, (show (0 : Int32).toInt = 0 from rfl)]; omega)) (fun c1 => ?_)
  refine aw_iload_n 1 dX9_wrongDays_4 rfl rfl ?_
  refine aw_if_ge 11 dX9_wrongDays_5 (by decide) (fun c5 => ?_) (fun c5 => absurd (by simp only [i_le, (show (0 : Int32).toInt = 0 from rfl)]; omega) c5)
  refine aw_iload_n 0 dX9_wrongDays_11 rfl rfl ?_
  refine aw_ldc (80000) kX9_194 dX9_wrongDays_12 ?_
  refine aw_icmp_gt 23 dX9_wrongDays_14 (by decide) (fun c14 => absurd c14 (by simp only [i_lt, (show (80000 : Int32).toInt = 80000 from rfl)]; omega)) (fun c14 => ?_)
  refine aw_iload_n 1 dX9_wrongDays_17 rfl rfl ?_
  refine aw_ldc (80000) kX9_194 dX9_wrongDays_18 ?_
  refine aw_icmp_le 28 dX9_wrongDays_20 (by decide) (fun c20 => absurd c20 (by simp only [i_le, (show (80000 : Int32).toInt = 80000 from rfl)]; omega)) (fun c20 => ?_)
  refine aw_bipush (-6) dX9_wrongDays_23 (by decide) ?_
  refine aw_goto 29 dX9_wrongDays_25 (by decide) ?_
  exact aw_iret rfl dX9_wrongDays_29 (by decide) (by decide) ⟨rfl, rfl⟩
set_option maxHeartbeats 4000000 in
theorem X9_wrongDays_o {l : Launch} {G : xG} {h : List va_E} {d k : Int32} (h0 : 0 ≤ d.toInt ∧ d.toInt < 80001) (h1 : 0 ≤ k.toInt ∧ k.toInt < 80001) : CD l G yX9_wrongDays cX9_wrongDays 2 (some .int) 0 0 0 [.int d, .int k] h (some (.int 0)) h := by
  refine cm_of rfl (Nat.le_of_ble_eq_true rfl) [(0, .int d), (1, .int k)] rfl ?_
  refine aw_iload_n 0 dX9_wrongDays_0 rfl rfl ?_
  refine aw_if_lt 8 dX9_wrongDays_1 (by decide) (fun c1 => absurd c1 (by simp only [i_lt, (show (0 : Int32).toInt = 0 from rfl)]; omega)) (fun c1 => ?_)
  refine aw_iload_n 1 dX9_wrongDays_4 rfl rfl ?_
  refine aw_if_ge 11 dX9_wrongDays_5 (by decide) (fun c5 => ?_) (fun c5 => absurd (by simp only [i_le, (show (0 : Int32).toInt = 0 from rfl)]; omega) c5)
  refine aw_iload_n 0 dX9_wrongDays_11 rfl rfl ?_
  refine aw_ldc (80000) kX9_194 dX9_wrongDays_12 ?_
  refine aw_icmp_gt 23 dX9_wrongDays_14 (by decide) (fun c14 => absurd c14 (by simp only [i_lt, (show (80000 : Int32).toInt = 80000 from rfl)]; omega)) (fun c14 => ?_)
  refine aw_iload_n 1 dX9_wrongDays_17 rfl rfl ?_
  refine aw_ldc (80000) kX9_194 dX9_wrongDays_18 ?_
  refine aw_icmp_le 28 dX9_wrongDays_20 (by decide) (fun c20 => ?_) (fun c20 => absurd (by simp only [i_le, (show (80000 : Int32).toInt = 80000 from rfl)]; omega) c20)
  refine aw_iconst (0) dX9_wrongDays_28 (by decide) ?_
  exact aw_iret rfl dX9_wrongDays_29 (by decide) (by decide) ⟨rfl, rfl⟩
set_option maxHeartbeats 4000000 in
theorem X8_refuse1 {l : Launch} {G : xG} {h : List va_E} (hF : xF8 G h) : CE l G yX8_refuse cX8_refuse 2 (some .int) 0 0 0 [.ref (G.1 + 0), .int (-1)] h (some (.int (-1))) (kp h) := by
  refine cm_of rfl (Nat.le_of_ble_eq_true rfl) [(0, .ref (G.1 + 0)), (1, .int (-1))] rfl ?_
  refine aw_aload_n 0 dX8_refuse_0 rfl rfl ?_
  refine aw_get fX8_62 dX8_refuse_1 hF.1 rfl ?_
  refine aw_iload_n 1 dX8_refuse_4 rfl rfl ?_
  refine aw_ineg dX8_refuse_5 ?_
  refine aw_toe 1 (by decide) ?_
  refine aw_dup2 dX8_refuse_6 rfl rfl ?_
  refine aw_iald 1 (rfl) (by decide) (by decide) dX8_refuse_7 hF.2.2.2.2.2.2.2.2.2.2.2.2.2.2.2.2.2.2.2.2.2.2.2.2.2.2.2.2.2.2.2.2.2.2.2.2.2.2.2.1 ?_
  refine aw_toe 0 (rfl) ?_
  refine aw_iconst (1) dX8_refuse_8 (by decide) ?_
  refine aw_iadd dX8_refuse_9 ?_
  refine aw_toe 1 (by decide) ?_
  refine aw_iast 1 (rfl) (by decide) (by decide) dX8_refuse_10 hF.2.2.2.2.2.2.2.2.2.2.2.2.2.2.2.2.2.2.2.2.2.2.2.2.2.2.2.2.2.2.2.2.2.2.2.2.2.2.2.1 ?_
  refine aw_iload_n 1 dX8_refuse_11 rfl rfl ?_
  exact aw_iret rfl dX8_refuse_12 (by decide) (by decide) ⟨rfl, kp_set (kp_rf h) (by decide)⟩
set_option maxHeartbeats 4000000 in
theorem X9_refuse1 {l : Launch} {G : xG} {h : List va_E} (hM : xF9 G h) : CE l G yX9_refuse cX9_refuse 2 (some .int) 0 0 0 [.ref (G.1 + 88), .int (-1)] h (some (.int (-1))) (fun _ => True) := by
  refine cm_of rfl (Nat.le_of_ble_eq_true rfl) [(0, .ref (G.1 + 88)), (1, .int (-1))] rfl ?_
  refine aw_aload_n 0 dX9_refuse_0 rfl rfl ?_
  refine aw_get fX9_7 dX9_refuse_1 hM.1 rfl ?_
  refine aw_iload_n 1 dX9_refuse_4 rfl rfl ?_
  refine aw_ineg dX9_refuse_5 ?_
  refine aw_toe 1 (by decide) ?_
  refine aw_dup2 dX9_refuse_6 rfl rfl ?_
  refine aw_iald 1 (rfl) (by decide) (by decide) dX9_refuse_7 hM.2.1 ?_
  refine aw_toe 0 (rfl) ?_
  refine aw_iconst (1) dX9_refuse_8 (by decide) ?_
  refine aw_iadd dX9_refuse_9 ?_
  refine aw_toe 1 (by decide) ?_
  refine aw_iast 1 (rfl) (by decide) (by decide) dX9_refuse_10 hM.2.1 ?_
  refine aw_iload_n 1 dX9_refuse_11 rfl rfl ?_
  exact aw_iret rfl dX9_refuse_12 (by decide) (by decide) ⟨rfl, trivial⟩
set_option maxHeartbeats 4000000 in
theorem X8_refuse2 {l : Launch} {G : xG} {h : List va_E} (hF : xF8 G h) : CE l G yX8_refuse cX8_refuse 2 (some .int) 0 0 0 [.ref (G.1 + 0), .int (-2)] h (some (.int (-2))) (kp h) := by
  refine cm_of rfl (Nat.le_of_ble_eq_true rfl) [(0, .ref (G.1 + 0)), (1, .int (-2))] rfl ?_
  refine aw_aload_n 0 dX8_refuse_0 rfl rfl ?_
  refine aw_get fX8_62 dX8_refuse_1 hF.1 rfl ?_
  refine aw_iload_n 1 dX8_refuse_4 rfl rfl ?_
  refine aw_ineg dX8_refuse_5 ?_
  refine aw_toe 2 (by decide) ?_
  refine aw_dup2 dX8_refuse_6 rfl rfl ?_
  refine aw_iald 2 (rfl) (by decide) (by decide) dX8_refuse_7 hF.2.2.2.2.2.2.2.2.2.2.2.2.2.2.2.2.2.2.2.2.2.2.2.2.2.2.2.2.2.2.2.2.2.2.2.2.2.2.2.1 ?_
  refine aw_toe 0 (rfl) ?_
  refine aw_iconst (1) dX8_refuse_8 (by decide) ?_
  refine aw_iadd dX8_refuse_9 ?_
  refine aw_toe 1 (by decide) ?_
  refine aw_iast 2 (rfl) (by decide) (by decide) dX8_refuse_10 hF.2.2.2.2.2.2.2.2.2.2.2.2.2.2.2.2.2.2.2.2.2.2.2.2.2.2.2.2.2.2.2.2.2.2.2.2.2.2.2.1 ?_
  refine aw_iload_n 1 dX8_refuse_11 rfl rfl ?_
  exact aw_iret rfl dX8_refuse_12 (by decide) (by decide) ⟨rfl, kp_set (kp_rf h) (by decide)⟩
set_option maxHeartbeats 4000000 in
theorem X9_refuse2 {l : Launch} {G : xG} {h : List va_E} (hM : xF9 G h) : CE l G yX9_refuse cX9_refuse 2 (some .int) 0 0 0 [.ref (G.1 + 88), .int (-2)] h (some (.int (-2))) (fun _ => True) := by
  refine cm_of rfl (Nat.le_of_ble_eq_true rfl) [(0, .ref (G.1 + 88)), (1, .int (-2))] rfl ?_
  refine aw_aload_n 0 dX9_refuse_0 rfl rfl ?_
  refine aw_get fX9_7 dX9_refuse_1 hM.1 rfl ?_
  refine aw_iload_n 1 dX9_refuse_4 rfl rfl ?_
  refine aw_ineg dX9_refuse_5 ?_
  refine aw_toe 2 (by decide) ?_
  refine aw_dup2 dX9_refuse_6 rfl rfl ?_
  refine aw_iald 2 (rfl) (by decide) (by decide) dX9_refuse_7 hM.2.1 ?_
  refine aw_toe 0 (rfl) ?_
  refine aw_iconst (1) dX9_refuse_8 (by decide) ?_
  refine aw_iadd dX9_refuse_9 ?_
  refine aw_toe 1 (by decide) ?_
  refine aw_iast 2 (rfl) (by decide) (by decide) dX9_refuse_10 hM.2.1 ?_
  refine aw_iload_n 1 dX9_refuse_11 rfl rfl ?_
  exact aw_iret rfl dX9_refuse_12 (by decide) (by decide) ⟨rfl, trivial⟩
set_option maxHeartbeats 4000000 in
theorem X8_refuse3 {l : Launch} {G : xG} {h : List va_E} (hF : xF8 G h) : CE l G yX8_refuse cX8_refuse 2 (some .int) 0 0 0 [.ref (G.1 + 0), .int (-3)] h (some (.int (-3))) (kp h) := by
  refine cm_of rfl (Nat.le_of_ble_eq_true rfl) [(0, .ref (G.1 + 0)), (1, .int (-3))] rfl ?_
  refine aw_aload_n 0 dX8_refuse_0 rfl rfl ?_
  refine aw_get fX8_62 dX8_refuse_1 hF.1 rfl ?_
  refine aw_iload_n 1 dX8_refuse_4 rfl rfl ?_
  refine aw_ineg dX8_refuse_5 ?_
  refine aw_toe 3 (by decide) ?_
  refine aw_dup2 dX8_refuse_6 rfl rfl ?_
  refine aw_iald 3 (rfl) (by decide) (by decide) dX8_refuse_7 hF.2.2.2.2.2.2.2.2.2.2.2.2.2.2.2.2.2.2.2.2.2.2.2.2.2.2.2.2.2.2.2.2.2.2.2.2.2.2.2.1 ?_
  refine aw_toe 0 (rfl) ?_
  refine aw_iconst (1) dX8_refuse_8 (by decide) ?_
  refine aw_iadd dX8_refuse_9 ?_
  refine aw_toe 1 (by decide) ?_
  refine aw_iast 3 (rfl) (by decide) (by decide) dX8_refuse_10 hF.2.2.2.2.2.2.2.2.2.2.2.2.2.2.2.2.2.2.2.2.2.2.2.2.2.2.2.2.2.2.2.2.2.2.2.2.2.2.2.1 ?_
  refine aw_iload_n 1 dX8_refuse_11 rfl rfl ?_
  exact aw_iret rfl dX8_refuse_12 (by decide) (by decide) ⟨rfl, kp_set (kp_rf h) (by decide)⟩
set_option maxHeartbeats 4000000 in
theorem X9_refuse3 {l : Launch} {G : xG} {h : List va_E} (hM : xF9 G h) : CE l G yX9_refuse cX9_refuse 2 (some .int) 0 0 0 [.ref (G.1 + 88), .int (-3)] h (some (.int (-3))) (fun _ => True) := by
  refine cm_of rfl (Nat.le_of_ble_eq_true rfl) [(0, .ref (G.1 + 88)), (1, .int (-3))] rfl ?_
  refine aw_aload_n 0 dX9_refuse_0 rfl rfl ?_
  refine aw_get fX9_7 dX9_refuse_1 hM.1 rfl ?_
  refine aw_iload_n 1 dX9_refuse_4 rfl rfl ?_
  refine aw_ineg dX9_refuse_5 ?_
  refine aw_toe 3 (by decide) ?_
  refine aw_dup2 dX9_refuse_6 rfl rfl ?_
  refine aw_iald 3 (rfl) (by decide) (by decide) dX9_refuse_7 hM.2.1 ?_
  refine aw_toe 0 (rfl) ?_
  refine aw_iconst (1) dX9_refuse_8 (by decide) ?_
  refine aw_iadd dX9_refuse_9 ?_
  refine aw_toe 1 (by decide) ?_
  refine aw_iast 3 (rfl) (by decide) (by decide) dX9_refuse_10 hM.2.1 ?_
  refine aw_iload_n 1 dX9_refuse_11 rfl rfl ?_
  exact aw_iret rfl dX9_refuse_12 (by decide) (by decide) ⟨rfl, trivial⟩
set_option maxHeartbeats 4000000 in
theorem X8_refuse4 {l : Launch} {G : xG} {h : List va_E} (hF : xF8 G h) : CE l G yX8_refuse cX8_refuse 2 (some .int) 0 0 0 [.ref (G.1 + 0), .int (-4)] h (some (.int (-4))) (kp h) := by
  refine cm_of rfl (Nat.le_of_ble_eq_true rfl) [(0, .ref (G.1 + 0)), (1, .int (-4))] rfl ?_
  refine aw_aload_n 0 dX8_refuse_0 rfl rfl ?_
  refine aw_get fX8_62 dX8_refuse_1 hF.1 rfl ?_
  refine aw_iload_n 1 dX8_refuse_4 rfl rfl ?_
  refine aw_ineg dX8_refuse_5 ?_
  refine aw_toe 4 (by decide) ?_
  refine aw_dup2 dX8_refuse_6 rfl rfl ?_
  refine aw_iald 4 (rfl) (by decide) (by decide) dX8_refuse_7 hF.2.2.2.2.2.2.2.2.2.2.2.2.2.2.2.2.2.2.2.2.2.2.2.2.2.2.2.2.2.2.2.2.2.2.2.2.2.2.2.1 ?_
  refine aw_toe 0 (rfl) ?_
  refine aw_iconst (1) dX8_refuse_8 (by decide) ?_
  refine aw_iadd dX8_refuse_9 ?_
  refine aw_toe 1 (by decide) ?_
  refine aw_iast 4 (rfl) (by decide) (by decide) dX8_refuse_10 hF.2.2.2.2.2.2.2.2.2.2.2.2.2.2.2.2.2.2.2.2.2.2.2.2.2.2.2.2.2.2.2.2.2.2.2.2.2.2.2.1 ?_
  refine aw_iload_n 1 dX8_refuse_11 rfl rfl ?_
  exact aw_iret rfl dX8_refuse_12 (by decide) (by decide) ⟨rfl, kp_set (kp_rf h) (by decide)⟩
set_option maxHeartbeats 4000000 in
theorem X9_refuse4 {l : Launch} {G : xG} {h : List va_E} (hM : xF9 G h) : CE l G yX9_refuse cX9_refuse 2 (some .int) 0 0 0 [.ref (G.1 + 88), .int (-4)] h (some (.int (-4))) (fun _ => True) := by
  refine cm_of rfl (Nat.le_of_ble_eq_true rfl) [(0, .ref (G.1 + 88)), (1, .int (-4))] rfl ?_
  refine aw_aload_n 0 dX9_refuse_0 rfl rfl ?_
  refine aw_get fX9_7 dX9_refuse_1 hM.1 rfl ?_
  refine aw_iload_n 1 dX9_refuse_4 rfl rfl ?_
  refine aw_ineg dX9_refuse_5 ?_
  refine aw_toe 4 (by decide) ?_
  refine aw_dup2 dX9_refuse_6 rfl rfl ?_
  refine aw_iald 4 (rfl) (by decide) (by decide) dX9_refuse_7 hM.2.1 ?_
  refine aw_toe 0 (rfl) ?_
  refine aw_iconst (1) dX9_refuse_8 (by decide) ?_
  refine aw_iadd dX9_refuse_9 ?_
  refine aw_toe 1 (by decide) ?_
  refine aw_iast 4 (rfl) (by decide) (by decide) dX9_refuse_10 hM.2.1 ?_
  refine aw_iload_n 1 dX9_refuse_11 rfl rfl ?_
  exact aw_iret rfl dX9_refuse_12 (by decide) (by decide) ⟨rfl, trivial⟩
set_option maxHeartbeats 4000000 in
theorem X8_refuse6 {l : Launch} {G : xG} {h : List va_E} (hF : xF8 G h) : CE l G yX8_refuse cX8_refuse 2 (some .int) 0 0 0 [.ref (G.1 + 0), .int (-6)] h (some (.int (-6))) (kp h) := by
  refine cm_of rfl (Nat.le_of_ble_eq_true rfl) [(0, .ref (G.1 + 0)), (1, .int (-6))] rfl ?_
  refine aw_aload_n 0 dX8_refuse_0 rfl rfl ?_
  refine aw_get fX8_62 dX8_refuse_1 hF.1 rfl ?_
  refine aw_iload_n 1 dX8_refuse_4 rfl rfl ?_
  refine aw_ineg dX8_refuse_5 ?_
  refine aw_toe 6 (by decide) ?_
  refine aw_dup2 dX8_refuse_6 rfl rfl ?_
  refine aw_iald 6 (rfl) (by decide) (by decide) dX8_refuse_7 hF.2.2.2.2.2.2.2.2.2.2.2.2.2.2.2.2.2.2.2.2.2.2.2.2.2.2.2.2.2.2.2.2.2.2.2.2.2.2.2.1 ?_
  refine aw_toe 0 (rfl) ?_
  refine aw_iconst (1) dX8_refuse_8 (by decide) ?_
  refine aw_iadd dX8_refuse_9 ?_
  refine aw_toe 1 (by decide) ?_
  refine aw_iast 6 (rfl) (by decide) (by decide) dX8_refuse_10 hF.2.2.2.2.2.2.2.2.2.2.2.2.2.2.2.2.2.2.2.2.2.2.2.2.2.2.2.2.2.2.2.2.2.2.2.2.2.2.2.1 ?_
  refine aw_iload_n 1 dX8_refuse_11 rfl rfl ?_
  exact aw_iret rfl dX8_refuse_12 (by decide) (by decide) ⟨rfl, kp_set (kp_rf h) (by decide)⟩
set_option maxHeartbeats 4000000 in
theorem X9_refuse6 {l : Launch} {G : xG} {h : List va_E} (hM : xF9 G h) : CE l G yX9_refuse cX9_refuse 2 (some .int) 0 0 0 [.ref (G.1 + 88), .int (-6)] h (some (.int (-6))) (fun _ => True) := by
  refine cm_of rfl (Nat.le_of_ble_eq_true rfl) [(0, .ref (G.1 + 88)), (1, .int (-6))] rfl ?_
  refine aw_aload_n 0 dX9_refuse_0 rfl rfl ?_
  refine aw_get fX9_7 dX9_refuse_1 hM.1 rfl ?_
  refine aw_iload_n 1 dX9_refuse_4 rfl rfl ?_
  refine aw_ineg dX9_refuse_5 ?_
  refine aw_toe 6 (by decide) ?_
  refine aw_dup2 dX9_refuse_6 rfl rfl ?_
  refine aw_iald 6 (rfl) (by decide) (by decide) dX9_refuse_7 hM.2.1 ?_
  refine aw_toe 0 (rfl) ?_
  refine aw_iconst (1) dX9_refuse_8 (by decide) ?_
  refine aw_iadd dX9_refuse_9 ?_
  refine aw_toe 1 (by decide) ?_
  refine aw_iast 6 (rfl) (by decide) (by decide) dX9_refuse_10 hM.2.1 ?_
  refine aw_iload_n 1 dX9_refuse_11 rfl rfl ?_
  exact aw_iret rfl dX9_refuse_12 (by decide) (by decide) ⟨rfl, trivial⟩
