set_option maxHeartbeats 4000000 in
theorem X8_isWord_t {l : Launch} {G : xG} {h : List va_E} {w : Int32} (hw : 0 ≤ w.toInt ∧ w.toInt < 20) : CD l G yX8_isWord cX8_isWord 1 (some .boolean) 0 0 0 [.int w] h (some (.int 1)) h := by
  refine cm_of rfl (Nat.le_of_ble_eq_true rfl) [(0, .int w)] rfl ?_
  refine aw_iload_n 0 dX8_isWord_0 rfl rfl ?_
  refine aw_if_lt 14 dX8_isWord_1 (by decide) (fun c1 => absurd c1 (by simp only [i_lt, (show (0 : Int32).toInt = 0 from rfl)]; omega)) (fun c1 => ?_)
  refine aw_iload_n 0 dX8_isWord_4 rfl rfl ?_
  refine aw_bipush (20) dX8_isWord_5 (by decide) ?_
  refine aw_icmp_ge 14 dX8_isWord_7 (by decide) (fun c7 => absurd c7 (by simp only [i_le, (show (20 : Int32).toInt = 20 from rfl)]; omega)) (fun c7 => ?_)
  refine aw_iconst (1) dX8_isWord_10 (by decide) ?_
  refine aw_goto 15 dX8_isWord_11 (by decide) ?_
  exact aw_zret rfl rfl dX8_isWord_15 (by decide) (by decide) ⟨rfl, rfl⟩
set_option maxHeartbeats 4000000 in
theorem X8_isWord_f {l : Launch} {G : xG} {h : List va_E} {w : Int32} (hw : ¬ (0 ≤ w.toInt ∧ w.toInt < 20)) : CD l G yX8_isWord cX8_isWord 1 (some .boolean) 0 0 0 [.int w] h (some (.int 0)) h := by
  refine cm_of rfl (Nat.le_of_ble_eq_true rfl) [(0, .int w)] rfl ?_
  refine aw_iload_n 0 dX8_isWord_0 rfl rfl ?_
  refine aw_if_lt 14 dX8_isWord_1 (by decide) (fun c1 => ?_) (fun c1 => ?_)
  · refine aw_iconst (0) dX8_isWord_14 (by decide) ?_
    exact aw_zret rfl rfl dX8_isWord_15 (by decide) (by decide) ⟨rfl, rfl⟩
  · refine aw_iload_n 0 dX8_isWord_4 rfl rfl ?_
    refine aw_bipush (20) dX8_isWord_5 (by decide) ?_
    refine aw_icmp_ge 14 dX8_isWord_7 (by decide) (fun c7 => ?_) (fun c7 => ?_)
    · refine aw_iconst (0) dX8_isWord_14 (by decide) ?_
      exact aw_zret rfl rfl dX8_isWord_15 (by decide) (by decide) ⟨rfl, rfl⟩
    · refine aw_iconst (1) dX8_isWord_10 (by decide) ?_
      refine aw_goto 15 dX8_isWord_11 (by decide) ?_
      exact aw_zret rfl rfl dX8_isWord_15 (by decide) (by decide) ⟨absurd (by simp only [i_lt, i_le, (show (0 : Int32).toInt = 0 from rfl), (show (20 : Int32).toInt = 20 from rfl)] at *; omega) hw, rfl⟩
set_option maxHeartbeats 4000000 in
theorem X8_isCatalogue_t {l : Launch} {G : xG} {h : List va_E} {w : Int32} (hw : 0 ≤ w.toInt ∧ w.toInt < 4) : CD l G yX8_isCatalogue cX8_isCatalogue 1 (some .boolean) 0 0 0 [.int w] h (some (.int 1)) h := by
  refine cm_of rfl (Nat.le_of_ble_eq_true rfl) [(0, .int w)] rfl ?_
  refine aw_iload_n 0 dX8_isCatalogue_0 rfl rfl ?_
  refine aw_if_lt 13 dX8_isCatalogue_1 (by decide) (fun c1 => absurd c1 (by simp only [i_lt, (show (0 : Int32).toInt = 0 from rfl)]; omega)) (fun c1 => ?_)
  refine aw_iload_n 0 dX8_isCatalogue_4 rfl rfl ?_
  refine aw_iconst (4) dX8_isCatalogue_5 (by decide) ?_
  refine aw_icmp_ge 13 dX8_isCatalogue_6 (by decide) (fun c6 => absurd c6 (by simp only [i_le, (show (4 : Int32).toInt = 4 from rfl)]; omega)) (fun c6 => ?_)
  refine aw_iconst (1) dX8_isCatalogue_9 (by decide) ?_
  refine aw_goto 14 dX8_isCatalogue_10 (by decide) ?_
  exact aw_zret rfl rfl dX8_isCatalogue_14 (by decide) (by decide) ⟨rfl, rfl⟩
set_option maxHeartbeats 4000000 in
theorem X8_isCatalogue_f {l : Launch} {G : xG} {h : List va_E} {w : Int32} (hw : ¬ (0 ≤ w.toInt ∧ w.toInt < 4)) : CD l G yX8_isCatalogue cX8_isCatalogue 1 (some .boolean) 0 0 0 [.int w] h (some (.int 0)) h := by
  refine cm_of rfl (Nat.le_of_ble_eq_true rfl) [(0, .int w)] rfl ?_
  refine aw_iload_n 0 dX8_isCatalogue_0 rfl rfl ?_
  refine aw_if_lt 13 dX8_isCatalogue_1 (by decide) (fun c1 => ?_) (fun c1 => ?_)
  · refine aw_iconst (0) dX8_isCatalogue_13 (by decide) ?_
    exact aw_zret rfl rfl dX8_isCatalogue_14 (by decide) (by decide) ⟨rfl, rfl⟩
  · refine aw_iload_n 0 dX8_isCatalogue_4 rfl rfl ?_
    refine aw_iconst (4) dX8_isCatalogue_5 (by decide) ?_
    refine aw_icmp_ge 13 dX8_isCatalogue_6 (by decide) (fun c6 => ?_) (fun c6 => ?_)
    · refine aw_iconst (0) dX8_isCatalogue_13 (by decide) ?_
      exact aw_zret rfl rfl dX8_isCatalogue_14 (by decide) (by decide) ⟨rfl, rfl⟩
    · refine aw_iconst (1) dX8_isCatalogue_9 (by decide) ?_
      refine aw_goto 14 dX8_isCatalogue_10 (by decide) ?_
      exact aw_zret rfl rfl dX8_isCatalogue_14 (by decide) (by decide) ⟨absurd (by simp only [i_lt, i_le, (show (0 : Int32).toInt = 0 from rfl), (show (4 : Int32).toInt = 4 from rfl)] at *; omega) hw, rfl⟩
set_option maxHeartbeats 4000000 in
theorem X8_isThing_t {l : Launch} {G : xG} {h : List va_E} {w : Int32} (hw : 0 ≤ w.toInt ∧ w.toInt < 12) : CD l G yX8_isThing cX8_isThing 1 (some .boolean) 0 0 0 [.int w] h (some (.int 1)) h := by
  refine cm_of rfl (Nat.le_of_ble_eq_true rfl) [(0, .int w)] rfl ?_
  refine aw_iload_n 0 dX8_isThing_0 rfl rfl ?_
  refine aw_if_lt 14 dX8_isThing_1 (by decide) (fun c1 => absurd c1 (by simp only [i_lt, (show (0 : Int32).toInt = 0 from rfl)]; omega)) (fun c1 => ?_)
  refine aw_iload_n 0 dX8_isThing_4 rfl rfl ?_
  refine aw_bipush (12) dX8_isThing_5 (by decide) ?_
  refine aw_icmp_ge 14 dX8_isThing_7 (by decide) (fun c7 => absurd c7 (by simp only [i_le, (show (12 : Int32).toInt = 12 from rfl)]; omega)) (fun c7 => ?_)
  refine aw_iconst (1) dX8_isThing_10 (by decide) ?_
  refine aw_goto 15 dX8_isThing_11 (by decide) ?_
  exact aw_zret rfl rfl dX8_isThing_15 (by decide) (by decide) ⟨rfl, rfl⟩
set_option maxHeartbeats 4000000 in
theorem X8_isThing_f {l : Launch} {G : xG} {h : List va_E} {w : Int32} (hw : ¬ (0 ≤ w.toInt ∧ w.toInt < 12)) : CD l G yX8_isThing cX8_isThing 1 (some .boolean) 0 0 0 [.int w] h (some (.int 0)) h := by
  refine cm_of rfl (Nat.le_of_ble_eq_true rfl) [(0, .int w)] rfl ?_
  refine aw_iload_n 0 dX8_isThing_0 rfl rfl ?_
  refine aw_if_lt 14 dX8_isThing_1 (by decide) (fun c1 => ?_) (fun c1 => ?_)
  · refine aw_iconst (0) dX8_isThing_14 (by decide) ?_
    exact aw_zret rfl rfl dX8_isThing_15 (by decide) (by decide) ⟨rfl, rfl⟩
  · refine aw_iload_n 0 dX8_isThing_4 rfl rfl ?_
    refine aw_bipush (12) dX8_isThing_5 (by decide) ?_
    refine aw_icmp_ge 14 dX8_isThing_7 (by decide) (fun c7 => ?_) (fun c7 => ?_)
    · refine aw_iconst (0) dX8_isThing_14 (by decide) ?_
      exact aw_zret rfl rfl dX8_isThing_15 (by decide) (by decide) ⟨rfl, rfl⟩
    · refine aw_iconst (1) dX8_isThing_10 (by decide) ?_
      refine aw_goto 15 dX8_isThing_11 (by decide) ?_
      exact aw_zret rfl rfl dX8_isThing_15 (by decide) (by decide) ⟨absurd (by simp only [i_lt, i_le, (show (0 : Int32).toInt = 0 from rfl), (show (12 : Int32).toInt = 12 from rfl)] at *; omega) hw, rfl⟩
