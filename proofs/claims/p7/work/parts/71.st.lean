set_option maxHeartbeats 4000000 in
theorem bX8_isWord {l : Launch} {G : xG} {h : List va_E} {x : Int32}   : CD l G yX8_isWord cX8_isWord 1 (some .boolean) 0 0 0 [.int x] h (some (.int (if (0 ≤ x.toInt ∧ x.toInt < 20) then 1 else 0))) h := by
  refine cm_ofQ rfl (Nat.le_of_ble_eq_true rfl) [(0, .int x)] rfl (fun QF hQF => ?_)
  refine aw_iload_n 0 dX8_isWord_0 rfl rfl ?_
  refine aw_if_lt 14 dX8_isWord_1 (by decide) (fun c1 => ?_) (fun c1 => ?_)
  · have d1 := (j_lt (a := x.toInt) (b := (0)) (rfl) (rfl)).mp c1
    refine aw_iconst (0) dX8_isWord_14 (by decide) ?_
    subst hQF
    exact aw_zret rfl rfl dX8_isWord_15 (by decide) (by decide) ⟨by rw [if_neg (by omega)], rfl⟩
  · have d1 := mt (j_lt (a := x.toInt) (b := (0)) (rfl) (rfl)).mpr c1
    refine aw_iload_n 0 dX8_isWord_4 rfl rfl ?_
    refine aw_bipush (20) dX8_isWord_5 (by decide) ?_
    refine aw_icmp_ge 14 dX8_isWord_7 (by decide) (fun c7 => ?_) (fun c7 => ?_)
    · have d7 := (j_le (a := (20)) (b := x.toInt) (rfl) (rfl)).mp c7
      refine aw_iconst (0) dX8_isWord_14 (by decide) ?_
      subst hQF
      exact aw_zret rfl rfl dX8_isWord_15 (by decide) (by decide) ⟨by rw [if_neg (by omega)], rfl⟩
    · have d7 := mt (j_le (a := (20)) (b := x.toInt) (rfl) (rfl)).mpr c7
      refine aw_iconst (1) dX8_isWord_10 (by decide) ?_
      refine aw_goto 15 dX8_isWord_11 (by decide) ?_
      subst hQF
      exact aw_zret rfl rfl dX8_isWord_15 (by decide) (by decide) ⟨by rw [if_pos (by omega)], rfl⟩
set_option maxHeartbeats 4000000 in
theorem bX8_isCatalogue {l : Launch} {G : xG} {h : List va_E} {x : Int32}   : CD l G yX8_isCatalogue cX8_isCatalogue 1 (some .boolean) 0 0 0 [.int x] h (some (.int (if (0 ≤ x.toInt ∧ x.toInt < 4) then 1 else 0))) h := by
  refine cm_ofQ rfl (Nat.le_of_ble_eq_true rfl) [(0, .int x)] rfl (fun QF hQF => ?_)
  refine aw_iload_n 0 dX8_isCatalogue_0 rfl rfl ?_
  refine aw_if_lt 13 dX8_isCatalogue_1 (by decide) (fun c1 => ?_) (fun c1 => ?_)
  · have d1 := (j_lt (a := x.toInt) (b := (0)) (rfl) (rfl)).mp c1
    refine aw_iconst (0) dX8_isCatalogue_13 (by decide) ?_
    subst hQF
    exact aw_zret rfl rfl dX8_isCatalogue_14 (by decide) (by decide) ⟨by rw [if_neg (by omega)], rfl⟩
  · have d1 := mt (j_lt (a := x.toInt) (b := (0)) (rfl) (rfl)).mpr c1
    refine aw_iload_n 0 dX8_isCatalogue_4 rfl rfl ?_
    refine aw_iconst (4) dX8_isCatalogue_5 (by decide) ?_
    refine aw_icmp_ge 13 dX8_isCatalogue_6 (by decide) (fun c6 => ?_) (fun c6 => ?_)
    · have d6 := (j_le (a := (4)) (b := x.toInt) (rfl) (rfl)).mp c6
      refine aw_iconst (0) dX8_isCatalogue_13 (by decide) ?_
      subst hQF
      exact aw_zret rfl rfl dX8_isCatalogue_14 (by decide) (by decide) ⟨by rw [if_neg (by omega)], rfl⟩
    · have d6 := mt (j_le (a := (4)) (b := x.toInt) (rfl) (rfl)).mpr c6
      refine aw_iconst (1) dX8_isCatalogue_9 (by decide) ?_
      refine aw_goto 14 dX8_isCatalogue_10 (by decide) ?_
      subst hQF
      exact aw_zret rfl rfl dX8_isCatalogue_14 (by decide) (by decide) ⟨by rw [if_pos (by omega)], rfl⟩
set_option maxHeartbeats 4000000 in
theorem bX8_isThing {l : Launch} {G : xG} {h : List va_E} {x : Int32}   : CD l G yX8_isThing cX8_isThing 1 (some .boolean) 0 0 0 [.int x] h (some (.int (if (0 ≤ x.toInt ∧ x.toInt < 12) then 1 else 0))) h := by
  refine cm_ofQ rfl (Nat.le_of_ble_eq_true rfl) [(0, .int x)] rfl (fun QF hQF => ?_)
  refine aw_iload_n 0 dX8_isThing_0 rfl rfl ?_
  refine aw_if_lt 14 dX8_isThing_1 (by decide) (fun c1 => ?_) (fun c1 => ?_)
  · have d1 := (j_lt (a := x.toInt) (b := (0)) (rfl) (rfl)).mp c1
    refine aw_iconst (0) dX8_isThing_14 (by decide) ?_
    subst hQF
    exact aw_zret rfl rfl dX8_isThing_15 (by decide) (by decide) ⟨by rw [if_neg (by omega)], rfl⟩
  · have d1 := mt (j_lt (a := x.toInt) (b := (0)) (rfl) (rfl)).mpr c1
    refine aw_iload_n 0 dX8_isThing_4 rfl rfl ?_
    refine aw_bipush (12) dX8_isThing_5 (by decide) ?_
    refine aw_icmp_ge 14 dX8_isThing_7 (by decide) (fun c7 => ?_) (fun c7 => ?_)
    · have d7 := (j_le (a := (12)) (b := x.toInt) (rfl) (rfl)).mp c7
      refine aw_iconst (0) dX8_isThing_14 (by decide) ?_
      subst hQF
      exact aw_zret rfl rfl dX8_isThing_15 (by decide) (by decide) ⟨by rw [if_neg (by omega)], rfl⟩
    · have d7 := mt (j_le (a := (12)) (b := x.toInt) (rfl) (rfl)).mpr c7
      refine aw_iconst (1) dX8_isThing_10 (by decide) ?_
      refine aw_goto 15 dX8_isThing_11 (by decide) ?_
      subst hQF
      exact aw_zret rfl rfl dX8_isThing_15 (by decide) (by decide) ⟨by rw [if_pos (by omega)], rfl⟩
set_option maxHeartbeats 4000000 in
theorem bX8_needsTwo {l : Launch} {G : xG} {h : List va_E} {x : Int32}   : CD l G yX8_needsTwo cX8_needsTwo 1 (some .boolean) 0 0 0 [.int x] h (some (.int (if (x.toInt = 0 ∨ x.toInt = 1) then 1 else 0))) h := by
  refine cm_ofQ rfl (Nat.le_of_ble_eq_true rfl) [(0, .int x)] rfl (fun QF hQF => ?_)
  refine aw_iload_n 0 dX8_needsTwo_0 rfl rfl ?_
  refine aw_if_eq 9 dX8_needsTwo_1 (by decide) (fun c1 => ?_) (fun c1 => ?_)
  · have d1 := (j_eq (a := x.toInt) (b := (0)) (rfl) (rfl)).mp c1
    refine aw_iconst (1) dX8_needsTwo_9 (by decide) ?_
    refine aw_goto 14 dX8_needsTwo_10 (by decide) ?_
    subst hQF
    exact aw_zret rfl rfl dX8_needsTwo_14 (by decide) (by decide) ⟨by rw [if_pos (by omega)], rfl⟩
  · have d1 := mt (j_eq (a := x.toInt) (b := (0)) (rfl) (rfl)).mpr c1
    refine aw_iload_n 0 dX8_needsTwo_4 rfl rfl ?_
    refine aw_iconst (1) dX8_needsTwo_5 (by decide) ?_
    refine aw_icmp_ne 13 dX8_needsTwo_6 (by decide) (fun c6 => ?_) (fun c6 => ?_)
    · have d6 := mt (j_eq (a := x.toInt) (b := (1)) (rfl) (rfl)).mpr c6
      refine aw_iconst (0) dX8_needsTwo_13 (by decide) ?_
      subst hQF
      exact aw_zret rfl rfl dX8_needsTwo_14 (by decide) (by decide) ⟨by rw [if_neg (by omega)], rfl⟩
    · have d6 := (j_eq (a := x.toInt) (b := (1)) (rfl) (rfl)).mp c6
      refine aw_iconst (1) dX8_needsTwo_9 (by decide) ?_
      refine aw_goto 14 dX8_needsTwo_10 (by decide) ?_
      subst hQF
      exact aw_zret rfl rfl dX8_needsTwo_14 (by decide) (by decide) ⟨by rw [if_pos (by omega)], rfl⟩
set_option maxHeartbeats 4000000 in
theorem bX8_areTwo {l : Launch} {G : xG} {h : List va_E} {a b : Int32}   : CD l G yX8_areTwo cX8_areTwo 2 (some .boolean) 1 0 0 [.int a, .int b] h (some (.int (if ((0 ≤ a.toInt ∧ a.toInt < 4) ∧ (0 ≤ b.toInt ∧ b.toInt < 4) ∧ a.toInt ≠ b.toInt) then 1 else 0))) h := by
  refine cm_ofQ rfl (Nat.le_of_ble_eq_true rfl) [(0, .int a), (1, .int b)] rfl (fun QF hQF => ?_)
  refine aw_iload_n 0 dX8_areTwo_0 rfl rfl ?_
  refine aw_dS [.int a] [] lX8_81 sX8_isCatalogue mX8_isCatalogue dX8_areTwo_1 (bX8_isCatalogue (x := a) ) rfl (Nat.le_of_ble_eq_true rfl) (by decide) (by decide) rfl ?_
  refine aw_if_eq 23 dX8_areTwo_4 (by decide) (fun c4 => ?_) (fun c4 => ?_)
  · have t4 := ite_0 c4
    refine aw_iconst (0) dX8_areTwo_23 (by decide) ?_
    subst hQF
    exact aw_zret rfl rfl dX8_areTwo_24 (by decide) (by decide) ⟨by rw [if_neg (by omega)], rfl⟩
  · have t4 := ite_1 c4
    refine aw_iload_n 1 dX8_areTwo_7 rfl rfl ?_
    refine aw_dS [.int b] [] lX8_81 sX8_isCatalogue mX8_isCatalogue dX8_areTwo_8 (bX8_isCatalogue (x := b) ) rfl (Nat.le_of_ble_eq_true rfl) (by decide) (by decide) rfl ?_
    refine aw_if_eq 23 dX8_areTwo_11 (by decide) (fun c11 => ?_) (fun c11 => ?_)
    · have t11 := ite_0 c11
      refine aw_iconst (0) dX8_areTwo_23 (by decide) ?_
      subst hQF
      exact aw_zret rfl rfl dX8_areTwo_24 (by decide) (by decide) ⟨by rw [if_neg (by omega)], rfl⟩
    · have t11 := ite_1 c11
      refine aw_iload_n 0 dX8_areTwo_14 rfl rfl ?_
      refine aw_iload_n 1 dX8_areTwo_15 rfl rfl ?_
      refine aw_icmp_eq 23 dX8_areTwo_16 (by decide) (fun c16 => ?_) (fun c16 => ?_)
      · have d16 := (j_eq (a := a.toInt) (b := b.toInt) (rfl) (rfl)).mp c16
        refine aw_iconst (0) dX8_areTwo_23 (by decide) ?_
        subst hQF
        exact aw_zret rfl rfl dX8_areTwo_24 (by decide) (by decide) ⟨by rw [if_neg (by omega)], rfl⟩
      · have d16 := mt (j_eq (a := a.toInt) (b := b.toInt) (rfl) (rfl)).mpr c16
        refine aw_iconst (1) dX8_areTwo_19 (by decide) ?_
        refine aw_goto 24 dX8_areTwo_20 (by decide) ?_
        subst hQF
        exact aw_zret rfl rfl dX8_areTwo_24 (by decide) (by decide) ⟨by rw [if_pos (by omega)], rfl⟩
set_option maxHeartbeats 4000000 in
theorem bX8_hasOtherBits20 {l : Launch} {G : xG} {h : List va_E} {x : Int32}   : CD l G yX8_hasOtherBits cX8_hasOtherBits 2 (some .boolean) 0 0 0 [.int x, .int 20] h (some (.int (if (¬ (0 ≤ x.toInt ∧ x.toInt < 1048576)) then 1 else 0))) h := by
  refine cm_ofQ rfl (Nat.le_of_ble_eq_true rfl) [(0, .int x), (1, .int 20)] rfl (fun QF hQF => ?_)
  refine aw_iload_n 0 dX8_hasOtherBits_0 rfl rfl ?_
  refine aw_if_lt 11 dX8_hasOtherBits_1 (by decide) (fun c1 => ?_) (fun c1 => ?_)
  · have d1 := (j_lt (a := x.toInt) (b := (0)) (rfl) (rfl)).mp c1
    refine aw_iconst (1) dX8_hasOtherBits_11 (by decide) ?_
    refine aw_goto 16 dX8_hasOtherBits_12 (by decide) ?_
    subst hQF
    exact aw_zret rfl rfl dX8_hasOtherBits_16 (by decide) (by decide) ⟨by rw [if_pos (by omega)], rfl⟩
  · have d1 := mt (j_lt (a := x.toInt) (b := (0)) (rfl) (rfl)).mpr c1
    refine aw_iload_n 0 dX8_hasOtherBits_4 rfl rfl ?_
    refine aw_iconst (1) dX8_hasOtherBits_5 (by decide) ?_
    refine aw_iload_n 1 dX8_hasOtherBits_6 rfl rfl ?_
    refine aw_ishl dX8_hasOtherBits_7 ?_
    refine aw_toe 1048576 (by decide) ?_
    refine aw_icmp_lt 15 dX8_hasOtherBits_8 (by decide) (fun c8 => ?_) (fun c8 => ?_)
    · have d8 := (j_lt (a := x.toInt) (b := (1048576)) (rfl) (rfl)).mp c8
      refine aw_iconst (0) dX8_hasOtherBits_15 (by decide) ?_
      subst hQF
      exact aw_zret rfl rfl dX8_hasOtherBits_16 (by decide) (by decide) ⟨by rw [if_neg (by omega)], rfl⟩
    · have d8 := mt (j_lt (a := x.toInt) (b := (1048576)) (rfl) (rfl)).mpr c8
      refine aw_iconst (1) dX8_hasOtherBits_11 (by decide) ?_
      refine aw_goto 16 dX8_hasOtherBits_12 (by decide) ?_
      subst hQF
      exact aw_zret rfl rfl dX8_hasOtherBits_16 (by decide) (by decide) ⟨by rw [if_pos (by omega)], rfl⟩
set_option maxHeartbeats 4000000 in
theorem bX8_hasOtherBits12 {l : Launch} {G : xG} {h : List va_E} {x : Int32}   : CD l G yX8_hasOtherBits cX8_hasOtherBits 2 (some .boolean) 0 0 0 [.int x, .int 12] h (some (.int (if (¬ (0 ≤ x.toInt ∧ x.toInt < 4096)) then 1 else 0))) h := by
  refine cm_ofQ rfl (Nat.le_of_ble_eq_true rfl) [(0, .int x), (1, .int 12)] rfl (fun QF hQF => ?_)
  refine aw_iload_n 0 dX8_hasOtherBits_0 rfl rfl ?_
  refine aw_if_lt 11 dX8_hasOtherBits_1 (by decide) (fun c1 => ?_) (fun c1 => ?_)
  · have d1 := (j_lt (a := x.toInt) (b := (0)) (rfl) (rfl)).mp c1
    refine aw_iconst (1) dX8_hasOtherBits_11 (by decide) ?_
    refine aw_goto 16 dX8_hasOtherBits_12 (by decide) ?_
    subst hQF
    exact aw_zret rfl rfl dX8_hasOtherBits_16 (by decide) (by decide) ⟨by rw [if_pos (by omega)], rfl⟩
  · have d1 := mt (j_lt (a := x.toInt) (b := (0)) (rfl) (rfl)).mpr c1
    refine aw_iload_n 0 dX8_hasOtherBits_4 rfl rfl ?_
    refine aw_iconst (1) dX8_hasOtherBits_5 (by decide) ?_
    refine aw_iload_n 1 dX8_hasOtherBits_6 rfl rfl ?_
    refine aw_ishl dX8_hasOtherBits_7 ?_
    refine aw_toe 4096 (by decide) ?_
    refine aw_icmp_lt 15 dX8_hasOtherBits_8 (by decide) (fun c8 => ?_) (fun c8 => ?_)
    · have d8 := (j_lt (a := x.toInt) (b := (4096)) (rfl) (rfl)).mp c8
      refine aw_iconst (0) dX8_hasOtherBits_15 (by decide) ?_
      subst hQF
      exact aw_zret rfl rfl dX8_hasOtherBits_16 (by decide) (by decide) ⟨by rw [if_neg (by omega)], rfl⟩
    · have d8 := mt (j_lt (a := x.toInt) (b := (4096)) (rfl) (rfl)).mpr c8
      refine aw_iconst (1) dX8_hasOtherBits_11 (by decide) ?_
      refine aw_goto 16 dX8_hasOtherBits_12 (by decide) ?_
      subst hQF
      exact aw_zret rfl rfl dX8_hasOtherBits_16 (by decide) (by decide) ⟨by rw [if_pos (by omega)], rfl⟩
set_option maxHeartbeats 4000000 in
theorem bX8_hasOtherBits10 {l : Launch} {G : xG} {h : List va_E} {x : Int32}   : CD l G yX8_hasOtherBits cX8_hasOtherBits 2 (some .boolean) 0 0 0 [.int x, .int 10] h (some (.int (if (¬ (0 ≤ x.toInt ∧ x.toInt < 1024)) then 1 else 0))) h := by
  refine cm_ofQ rfl (Nat.le_of_ble_eq_true rfl) [(0, .int x), (1, .int 10)] rfl (fun QF hQF => ?_)
  refine aw_iload_n 0 dX8_hasOtherBits_0 rfl rfl ?_
  refine aw_if_lt 11 dX8_hasOtherBits_1 (by decide) (fun c1 => ?_) (fun c1 => ?_)
  · have d1 := (j_lt (a := x.toInt) (b := (0)) (rfl) (rfl)).mp c1
    refine aw_iconst (1) dX8_hasOtherBits_11 (by decide) ?_
    refine aw_goto 16 dX8_hasOtherBits_12 (by decide) ?_
    subst hQF
    exact aw_zret rfl rfl dX8_hasOtherBits_16 (by decide) (by decide) ⟨by rw [if_pos (by omega)], rfl⟩
  · have d1 := mt (j_lt (a := x.toInt) (b := (0)) (rfl) (rfl)).mpr c1
    refine aw_iload_n 0 dX8_hasOtherBits_4 rfl rfl ?_
    refine aw_iconst (1) dX8_hasOtherBits_5 (by decide) ?_
    refine aw_iload_n 1 dX8_hasOtherBits_6 rfl rfl ?_
    refine aw_ishl dX8_hasOtherBits_7 ?_
    refine aw_toe 1024 (by decide) ?_
    refine aw_icmp_lt 15 dX8_hasOtherBits_8 (by decide) (fun c8 => ?_) (fun c8 => ?_)
    · have d8 := (j_lt (a := x.toInt) (b := (1024)) (rfl) (rfl)).mp c8
      refine aw_iconst (0) dX8_hasOtherBits_15 (by decide) ?_
      subst hQF
      exact aw_zret rfl rfl dX8_hasOtherBits_16 (by decide) (by decide) ⟨by rw [if_neg (by omega)], rfl⟩
    · have d8 := mt (j_lt (a := x.toInt) (b := (1024)) (rfl) (rfl)).mpr c8
      refine aw_iconst (1) dX8_hasOtherBits_11 (by decide) ?_
      refine aw_goto 16 dX8_hasOtherBits_12 (by decide) ?_
      subst hQF
      exact aw_zret rfl rfl dX8_hasOtherBits_16 (by decide) (by decide) ⟨by rw [if_pos (by omega)], rfl⟩
set_option maxHeartbeats 4000000 in
theorem bX8_daysRefusal {l : Launch} {G : xG} {h : List va_E} {x k : Int32}   : CD l G yX8_daysRefusal cX8_daysRefusal 2 (some .int) 0 0 0 [.int x, .int k] h (some (.int (dyF x k))) h := by
  refine cm_ofQ rfl (Nat.le_of_ble_eq_true rfl) [(0, .int x), (1, .int k)] rfl (fun QF hQF => ?_)
  refine aw_iload_n 0 dX8_daysRefusal_0 rfl rfl ?_
  refine aw_if_lt 8 dX8_daysRefusal_1 (by decide) (fun c1 => ?_) (fun c1 => ?_)
  · have d1 := (j_lt (a := x.toInt) (b := (0)) (rfl) (rfl)).mp c1
    refine aw_bipush (-4) dX8_daysRefusal_8 (by decide) ?_
    subst hQF
    exact aw_iret rfl dX8_daysRefusal_10 (by decide) (by decide) ⟨by unfold dyF; repeat (first | rw [if_pos (by omega)] | rw [if_neg (by omega)]), rfl⟩
  · have d1 := mt (j_lt (a := x.toInt) (b := (0)) (rfl) (rfl)).mpr c1
    refine aw_iload_n 1 dX8_daysRefusal_4 rfl rfl ?_
    refine aw_if_ge 11 dX8_daysRefusal_5 (by decide) (fun c5 => ?_) (fun c5 => ?_)
    · have d5 := (j_le (a := (0)) (b := k.toInt) (rfl) (rfl)).mp c5
      refine aw_iload_n 0 dX8_daysRefusal_11 rfl rfl ?_
      refine aw_ldc (80000) kX8_172 dX8_daysRefusal_12 ?_
      refine aw_icmp_gt 23 dX8_daysRefusal_14 (by decide) (fun c14 => ?_) (fun c14 => ?_)
      · have d14 := (j_lt (a := (80000)) (b := x.toInt) (rfl) (rfl)).mp c14
        refine aw_bipush (-6) dX8_daysRefusal_23 (by decide) ?_
        refine aw_goto 29 dX8_daysRefusal_25 (by decide) ?_
        subst hQF
        exact aw_iret rfl dX8_daysRefusal_29 (by decide) (by decide) ⟨by unfold dyF; repeat (first | rw [if_pos (by omega)] | rw [if_neg (by omega)]), rfl⟩
      · have d14 := mt (j_lt (a := (80000)) (b := x.toInt) (rfl) (rfl)).mpr c14
        refine aw_iload_n 1 dX8_daysRefusal_17 rfl rfl ?_
        refine aw_ldc (80000) kX8_172 dX8_daysRefusal_18 ?_
        refine aw_icmp_le 28 dX8_daysRefusal_20 (by decide) (fun c20 => ?_) (fun c20 => ?_)
        · have d20 := (j_le (a := k.toInt) (b := (80000)) (rfl) (rfl)).mp c20
          refine aw_iconst (0) dX8_daysRefusal_28 (by decide) ?_
          subst hQF
          exact aw_iret rfl dX8_daysRefusal_29 (by decide) (by decide) ⟨by unfold dyF; repeat (first | rw [if_pos (by omega)] | rw [if_neg (by omega)]), rfl⟩
        · have d20 := mt (j_le (a := k.toInt) (b := (80000)) (rfl) (rfl)).mpr c20
          refine aw_bipush (-6) dX8_daysRefusal_23 (by decide) ?_
          refine aw_goto 29 dX8_daysRefusal_25 (by decide) ?_
          subst hQF
          exact aw_iret rfl dX8_daysRefusal_29 (by decide) (by decide) ⟨by unfold dyF; repeat (first | rw [if_pos (by omega)] | rw [if_neg (by omega)]), rfl⟩
    · have d5 := mt (j_le (a := (0)) (b := k.toInt) (rfl) (rfl)).mpr c5
      refine aw_bipush (-4) dX8_daysRefusal_8 (by decide) ?_
      subst hQF
      exact aw_iret rfl dX8_daysRefusal_10 (by decide) (by decide) ⟨by unfold dyF; repeat (first | rw [if_pos (by omega)] | rw [if_neg (by omega)]), rfl⟩
set_option maxHeartbeats 4000000 in
theorem bX9_wrongDays {l : Launch} {G : xG} {h : List va_E} {x k : Int32}   : CD l G yX9_wrongDays cX9_wrongDays 2 (some .int) 0 0 0 [.int x, .int k] h (some (.int (dyF x k))) h := by
  refine cm_ofQ rfl (Nat.le_of_ble_eq_true rfl) [(0, .int x), (1, .int k)] rfl (fun QF hQF => ?_)
  refine aw_iload_n 0 dX9_wrongDays_0 rfl rfl ?_
  refine aw_if_lt 8 dX9_wrongDays_1 (by decide) (fun c1 => ?_) (fun c1 => ?_)
  · have d1 := (j_lt (a := x.toInt) (b := (0)) (rfl) (rfl)).mp c1
    refine aw_bipush (-4) dX9_wrongDays_8 (by decide) ?_
    subst hQF
    exact aw_iret rfl dX9_wrongDays_10 (by decide) (by decide) ⟨by unfold dyF; repeat (first | rw [if_pos (by omega)] | rw [if_neg (by omega)]), rfl⟩
  · have d1 := mt (j_lt (a := x.toInt) (b := (0)) (rfl) (rfl)).mpr c1
    refine aw_iload_n 1 dX9_wrongDays_4 rfl rfl ?_
    refine aw_if_ge 11 dX9_wrongDays_5 (by decide) (fun c5 => ?_) (fun c5 => ?_)
    · have d5 := (j_le (a := (0)) (b := k.toInt) (rfl) (rfl)).mp c5
      refine aw_iload_n 0 dX9_wrongDays_11 rfl rfl ?_
      refine aw_ldc (80000) kX9_194 dX9_wrongDays_12 ?_
      refine aw_icmp_gt 23 dX9_wrongDays_14 (by decide) (fun c14 => ?_) (fun c14 => ?_)
      · have d14 := (j_lt (a := (80000)) (b := x.toInt) (rfl) (rfl)).mp c14
        refine aw_bipush (-6) dX9_wrongDays_23 (by decide) ?_
        refine aw_goto 29 dX9_wrongDays_25 (by decide) ?_
        subst hQF
        exact aw_iret rfl dX9_wrongDays_29 (by decide) (by decide) ⟨by unfold dyF; repeat (first | rw [if_pos (by omega)] | rw [if_neg (by omega)]), rfl⟩
      · have d14 := mt (j_lt (a := (80000)) (b := x.toInt) (rfl) (rfl)).mpr c14
        refine aw_iload_n 1 dX9_wrongDays_17 rfl rfl ?_
        refine aw_ldc (80000) kX9_194 dX9_wrongDays_18 ?_
        refine aw_icmp_le 28 dX9_wrongDays_20 (by decide) (fun c20 => ?_) (fun c20 => ?_)
        · have d20 := (j_le (a := k.toInt) (b := (80000)) (rfl) (rfl)).mp c20
          refine aw_iconst (0) dX9_wrongDays_28 (by decide) ?_
          subst hQF
          exact aw_iret rfl dX9_wrongDays_29 (by decide) (by decide) ⟨by unfold dyF; repeat (first | rw [if_pos (by omega)] | rw [if_neg (by omega)]), rfl⟩
        · have d20 := mt (j_le (a := k.toInt) (b := (80000)) (rfl) (rfl)).mpr c20
          refine aw_bipush (-6) dX9_wrongDays_23 (by decide) ?_
          refine aw_goto 29 dX9_wrongDays_25 (by decide) ?_
          subst hQF
          exact aw_iret rfl dX9_wrongDays_29 (by decide) (by decide) ⟨by unfold dyF; repeat (first | rw [if_pos (by omega)] | rw [if_neg (by omega)]), rfl⟩
    · have d5 := mt (j_le (a := (0)) (b := k.toInt) (rfl) (rfl)).mpr c5
      refine aw_bipush (-4) dX9_wrongDays_8 (by decide) ?_
      subst hQF
      exact aw_iret rfl dX9_wrongDays_10 (by decide) (by decide) ⟨by unfold dyF; repeat (first | rw [if_pos (by omega)] | rw [if_neg (by omega)]), rfl⟩
set_option maxHeartbeats 4000000 in
theorem bX9_wrong {l : Launch} {G : xG} {h : List va_E} {x y z : Int32}   : CD l G yX9_wrong cX9_wrong 3 (some .int) 0 0 0 [.int x, .int y, .int z] h (some (.int (wrF x y z))) h := by
  refine cm_ofQ rfl (Nat.le_of_ble_eq_true rfl) [(0, .int x), (1, .int y), (2, .int z)] rfl (fun QF hQF => ?_)
  refine aw_iload_n 0 dX9_wrong_0 rfl rfl ?_
  refine aw_iload_n 1 dX9_wrong_1 rfl rfl ?_
  refine aw_icmp_ge 10 dX9_wrong_2 (by decide) (fun c2 => ?_) (fun c2 => ?_)
  · have d2 := (j_le (a := y.toInt) (b := x.toInt) (rfl) (rfl)).mp c2
    refine aw_iload_n 0 dX9_wrong_10 rfl rfl ?_
    refine aw_iload_n 2 dX9_wrong_11 rfl rfl ?_
    refine aw_icmp_le 20 dX9_wrong_12 (by decide) (fun c12 => ?_) (fun c12 => ?_)
    · have d12 := (j_le (a := x.toInt) (b := z.toInt) (rfl) (rfl)).mp c12
      refine aw_iconst (0) dX9_wrong_20 (by decide) ?_
      subst hQF
      exact aw_iret rfl dX9_wrong_21 (by decide) (by decide) ⟨by unfold wrF; repeat (first | rw [if_pos (by omega)] | rw [if_neg (by omega)]), rfl⟩
    · have d12 := mt (j_le (a := x.toInt) (b := z.toInt) (rfl) (rfl)).mpr c12
      refine aw_bipush (-6) dX9_wrong_15 (by decide) ?_
      refine aw_goto 21 dX9_wrong_17 (by decide) ?_
      subst hQF
      exact aw_iret rfl dX9_wrong_21 (by decide) (by decide) ⟨by unfold wrF; repeat (first | rw [if_pos (by omega)] | rw [if_neg (by omega)]), rfl⟩
  · have d2 := mt (j_le (a := y.toInt) (b := x.toInt) (rfl) (rfl)).mpr c2
    refine aw_bipush (-4) dX9_wrong_5 (by decide) ?_
    refine aw_goto 21 dX9_wrong_7 (by decide) ?_
    subst hQF
    exact aw_iret rfl dX9_wrong_21 (by decide) (by decide) ⟨by unfold wrF; repeat (first | rw [if_pos (by omega)] | rw [if_neg (by omega)]), rfl⟩
set_option maxHeartbeats 4000000 in
theorem bX9_isIn {l : Launch} {G : xG} {h : List va_E} {x : Int32} {n : Nat}  (bn : n < 2 ^ 31) : CD l G yX9_isIn cX9_isIn 2 (some .boolean) 0 0 0 [.int x, .int (nI n)] h (some (.int (if (0 ≤ x.toInt ∧ x.toInt < (n : Int)) then 1 else 0))) h := by
  refine cm_ofQ rfl (Nat.le_of_ble_eq_true rfl) [(0, .int x), (1, .int (nI n))] rfl (fun QF hQF => ?_)
  refine aw_iload_n 0 dX9_isIn_0 rfl rfl ?_
  refine aw_if_lt 13 dX9_isIn_1 (by decide) (fun c1 => ?_) (fun c1 => ?_)
  · have d1 := (j_lt (a := x.toInt) (b := (0)) (rfl) (rfl)).mp c1
    refine aw_iconst (0) dX9_isIn_13 (by decide) ?_
    subst hQF
    exact aw_zret rfl rfl dX9_isIn_14 (by decide) (by decide) ⟨by rw [if_neg (by omega)], rfl⟩
  · have d1 := mt (j_lt (a := x.toInt) (b := (0)) (rfl) (rfl)).mpr c1
    refine aw_iload_n 0 dX9_isIn_4 rfl rfl ?_
    refine aw_iload_n 1 dX9_isIn_5 rfl rfl ?_
    refine aw_icmp_ge 13 dX9_isIn_6 (by decide) (fun c6 => ?_) (fun c6 => ?_)
    · have d6 := (j_le (a := ((n : Nat) : Int)) (b := x.toInt) (i_toNat (rfl) (by omega)) (rfl)).mp c6
      refine aw_iconst (0) dX9_isIn_13 (by decide) ?_
      subst hQF
      exact aw_zret rfl rfl dX9_isIn_14 (by decide) (by decide) ⟨by rw [if_neg (by omega)], rfl⟩
    · have d6 := mt (j_le (a := ((n : Nat) : Int)) (b := x.toInt) (i_toNat (rfl) (by omega)) (rfl)).mpr c6
      refine aw_iconst (1) dX9_isIn_9 (by decide) ?_
      refine aw_goto 14 dX9_isIn_10 (by decide) ?_
      subst hQF
      exact aw_zret rfl rfl dX9_isIn_14 (by decide) (by decide) ⟨by rw [if_pos (by omega)], rfl⟩
set_option maxHeartbeats 4000000 in
theorem bX9_isBeast {l : Launch} {G : xG} {h : List va_E} {x : Int32}   : CD l G yX9_isBeast cX9_isBeast 1 (some .boolean) 0 0 0 [.int x] h (some (.int (if (0 ≤ x.toInt ∧ x.toInt < 1024) then 1 else 0))) h := by
  refine cm_ofQ rfl (Nat.le_of_ble_eq_true rfl) [(0, .int x)] rfl (fun QF hQF => ?_)
  refine aw_iload_n 0 dX9_isBeast_0 rfl rfl ?_
  refine aw_if_lt 15 dX9_isBeast_1 (by decide) (fun c1 => ?_) (fun c1 => ?_)
  · have d1 := (j_lt (a := x.toInt) (b := (0)) (rfl) (rfl)).mp c1
    refine aw_iconst (0) dX9_isBeast_15 (by decide) ?_
    subst hQF
    exact aw_zret rfl rfl dX9_isBeast_16 (by decide) (by decide) ⟨by rw [if_neg (by omega)], rfl⟩
  · have d1 := mt (j_lt (a := x.toInt) (b := (0)) (rfl) (rfl)).mpr c1
    refine aw_iload_n 0 dX9_isBeast_4 rfl rfl ?_
    refine aw_sipush (1024) dX9_isBeast_5 (by decide) ?_
    refine aw_icmp_ge 15 dX9_isBeast_8 (by decide) (fun c8 => ?_) (fun c8 => ?_)
    · have d8 := (j_le (a := (1024)) (b := x.toInt) (rfl) (rfl)).mp c8
      refine aw_iconst (0) dX9_isBeast_15 (by decide) ?_
      subst hQF
      exact aw_zret rfl rfl dX9_isBeast_16 (by decide) (by decide) ⟨by rw [if_neg (by omega)], rfl⟩
    · have d8 := mt (j_le (a := (1024)) (b := x.toInt) (rfl) (rfl)).mpr c8
      refine aw_iconst (1) dX9_isBeast_11 (by decide) ?_
      refine aw_goto 16 dX9_isBeast_12 (by decide) ?_
      subst hQF
      exact aw_zret rfl rfl dX9_isBeast_16 (by decide) (by decide) ⟨by rw [if_pos (by omega)], rfl⟩
set_option maxHeartbeats 4000000 in
theorem bX9_areBooks {l : Launch} {G : xG} {h : List va_E} {a b : Int32}   : CD l G yX9_areBooks cX9_areBooks 3 (some .boolean) 1 0 0 [.ref (G.1 + 88), .int a, .int b] h (some (.int (if ((0 ≤ a.toInt ∧ a.toInt < 4) ∧ (0 ≤ b.toInt ∧ b.toInt < 4) ∧ a.toInt ≠ b.toInt) then 1 else 0))) h := by
  refine cm_ofQ rfl (Nat.le_of_ble_eq_true rfl) [(0, .ref (G.1 + 88)), (1, .int a), (2, .int b)] rfl (fun QF hQF => ?_)
  refine aw_iload_n 1 dX9_areBooks_0 rfl rfl ?_
  refine aw_iconst (4) dX9_areBooks_1 (by decide) ?_
  refine aw_dS [.int a, .int 4] [] lX9_126 sX9_isIn mX9_isIn dX9_areBooks_2 (bX9_isIn (x := a) (n := 4) (by decide)) rfl (Nat.le_of_ble_eq_true rfl) (by decide) (by decide) rfl ?_
  refine aw_if_eq 25 dX9_areBooks_5 (by decide) (fun c5 => ?_) (fun c5 => ?_)
  · have t5 := ite_0 c5
    refine aw_iconst (0) dX9_areBooks_25 (by decide) ?_
    subst hQF
    exact aw_zret rfl rfl dX9_areBooks_26 (by decide) (by decide) ⟨by rw [if_neg (by omega)], rfl⟩
  · have t5 := ite_1 c5
    refine aw_iload_n 2 dX9_areBooks_8 rfl rfl ?_
    refine aw_iconst (4) dX9_areBooks_9 (by decide) ?_
    refine aw_dS [.int b, .int 4] [] lX9_126 sX9_isIn mX9_isIn dX9_areBooks_10 (bX9_isIn (x := b) (n := 4) (by decide)) rfl (Nat.le_of_ble_eq_true rfl) (by decide) (by decide) rfl ?_
    refine aw_if_eq 25 dX9_areBooks_13 (by decide) (fun c13 => ?_) (fun c13 => ?_)
    · have t13 := ite_0 c13
      refine aw_iconst (0) dX9_areBooks_25 (by decide) ?_
      subst hQF
      exact aw_zret rfl rfl dX9_areBooks_26 (by decide) (by decide) ⟨by rw [if_neg (by omega)], rfl⟩
    · have t13 := ite_1 c13
      refine aw_iload_n 1 dX9_areBooks_16 rfl rfl ?_
      refine aw_iload_n 2 dX9_areBooks_17 rfl rfl ?_
      refine aw_icmp_eq 25 dX9_areBooks_18 (by decide) (fun c18 => ?_) (fun c18 => ?_)
      · have d18 := (j_eq (a := a.toInt) (b := b.toInt) (rfl) (rfl)).mp c18
        refine aw_iconst (0) dX9_areBooks_25 (by decide) ?_
        subst hQF
        exact aw_zret rfl rfl dX9_areBooks_26 (by decide) (by decide) ⟨by rw [if_neg (by omega)], rfl⟩
      · have d18 := mt (j_eq (a := a.toInt) (b := b.toInt) (rfl) (rfl)).mpr c18
        refine aw_iconst (1) dX9_areBooks_21 (by decide) ?_
        refine aw_goto 26 dX9_areBooks_22 (by decide) ?_
        subst hQF
        exact aw_zret rfl rfl dX9_areBooks_26 (by decide) (by decide) ⟨by rw [if_pos (by omega)], rfl⟩
set_option maxHeartbeats 4000000 in
theorem bX8_shelfRefusal {l : Launch} {G : xG} {h : List va_E} {x : Int32}   : CD l G yX8_shelfRefusal cX8_shelfRefusal 1 (some .int) 1 0 0 [.int x] h (some (.int (shR x))) h := by
  refine cm_ofQ rfl (Nat.le_of_ble_eq_true rfl) [(0, .int x)] rfl (fun QF hQF => ?_)
  refine aw_iload_n 0 dX8_shelfRefusal_0 rfl rfl ?_
  refine aw_if_eq 13 dX8_shelfRefusal_1 (by decide) (fun c1 => ?_) (fun c1 => ?_)
  · have d1 := (j_eq (a := x.toInt) (b := (0)) (rfl) (rfl)).mp c1
    refine aw_iconst (-1) dX8_shelfRefusal_13 (by decide) ?_
    subst hQF
    exact aw_iret rfl dX8_shelfRefusal_14 (by decide) (by decide) ⟨by unfold shR; repeat (first | rw [if_pos (by omega)] | rw [if_neg (by omega)]), rfl⟩
  · have d1 := mt (j_eq (a := x.toInt) (b := (0)) (rfl) (rfl)).mpr c1
    refine aw_iload_n 0 dX8_shelfRefusal_4 rfl rfl ?_
    refine aw_bipush (12) dX8_shelfRefusal_5 (by decide) ?_
    refine aw_dS [.int x, .int 12] [] lX8_87 sX8_hasOtherBits mX8_hasOtherBits dX8_shelfRefusal_7 (bX8_hasOtherBits12 (x := x) ) rfl (Nat.le_of_ble_eq_true rfl) (by decide) (by decide) rfl ?_
    refine aw_if_eq 15 dX8_shelfRefusal_10 (by decide) (fun c10 => ?_) (fun c10 => ?_)
    · have t10 := ite_0 c10
      obtain ⟨xa, bb_xa, ee_xa⟩ := i_nat (x := x) (N := 4096) (by omega) (by omega)
      subst ee_xa
      have tt_xa : (nI xa).toInt = (xa : Int) := nI_toInt (by omega)
      have nn_xa : tn (nI xa) = xa := tn_nI (by omega)
      refine aw_iload_n 0 dX8_shelfRefusal_15 rfl rfl ?_
      refine aw_dS [.int (nI xa)] [] lX8_246 sJ6_bitCount_0f7a4 mJ6_bitCount_0f7a4 dX8_shelfRefusal_16 (J6_bitCount_g (x := (nI xa)) ) rfl (Nat.le_of_ble_eq_true rfl) (by decide) (by decide) rfl ?_
      refine aw_toe (nI (popN xa)) (bc_pop bb_xa) ?_
      have bpx := popN_le xa
      refine aw_bipush (8) dX8_shelfRefusal_19 (by decide) ?_
      refine aw_icmp_le 29 dX8_shelfRefusal_21 (by decide) (fun c21 => ?_) (fun c21 => ?_)
      · have d21 := (nv_le (a := popN xa) (b := 8) (rfl) (rfl) (by omega) (by omega)).mp c21
        refine aw_iconst (0) dX8_shelfRefusal_29 (by decide) ?_
        subst hQF
        exact aw_iret rfl dX8_shelfRefusal_30 (by decide) (by decide) ⟨by unfold shR; rw [nn_xa]; repeat (first | rw [if_pos (by omega)] | rw [if_neg (by omega)]), rfl⟩
      · have d21 := mt (nv_le (a := popN xa) (b := 8) (rfl) (rfl) (by omega) (by omega)).mpr c21
        refine aw_bipush (-6) dX8_shelfRefusal_24 (by decide) ?_
        refine aw_goto 30 dX8_shelfRefusal_26 (by decide) ?_
        subst hQF
        exact aw_iret rfl dX8_shelfRefusal_30 (by decide) (by decide) ⟨by unfold shR; rw [nn_xa]; repeat (first | rw [if_pos (by omega)] | rw [if_neg (by omega)]), rfl⟩
    · have t10 := ite_1 c10
      refine aw_iconst (-1) dX8_shelfRefusal_13 (by decide) ?_
      subst hQF
      exact aw_iret rfl dX8_shelfRefusal_14 (by decide) (by decide) ⟨by unfold shR; repeat (first | rw [if_pos (by omega)] | rw [if_neg (by omega)]), rfl⟩
set_option maxHeartbeats 4000000 in
theorem bX8_refuse {l : Launch} {G : xG} {h : List va_E} {jv bv : Value} {rf : Nat → Int32} {x : Int32} {q : Nat} (h0 : h[0]? = some (oB 8 (lX G (jv) (bv)))) (h87 : h[87]? = some (aI 7 rf)) (bq : q < 7) (eq : x = -(nI q)) : CE l G yX8_refuse cX8_refuse 2 (some .int) 0 0 0 [.ref (G.1 + 0), .int x] h (some (.int x)) (fun h1 => ∃ rf1 : Nat → Int32, h1[87]? = some (aI 7 rf1) ∧ rng 87 87 h h1) := by
  refine cm_ofQ rfl (Nat.le_of_ble_eq_true rfl) [(0, .ref (G.1 + 0)), (1, .int x)] rfl (fun QF hQF => ?_)
  refine aw_aload_n 0 dX8_refuse_0 rfl rfl ?_
  refine aw_get fX8_62 dX8_refuse_1 h0 rfl ?_
  refine aw_iload_n 1 dX8_refuse_4 rfl rfl ?_
  refine aw_ineg dX8_refuse_5 ?_
  refine aw_toe (nI q) (by rw [eq]; exact neg_nI) ?_
  refine aw_dup2 dX8_refuse_6 rfl rfl ?_
  refine aw_iald q (rfl) (by omega) (by decide) dX8_refuse_7 h87 ?_
  refine aw_iconst (1) dX8_refuse_8 (by decide) ?_
  refine aw_iadd dX8_refuse_9 ?_
  refine aw_iast q (rfl) (by omega) (by decide) dX8_refuse_10 h87 ?_
  refine aw_iload_n 1 dX8_refuse_11 rfl rfl ?_
  subst hQF
  exact aw_iret rfl dX8_refuse_12 (by decide) (by decide) ⟨rfl, _, (gs h87), rng_set (rng_rf 87 87 h) (by decide) (by decide)⟩
