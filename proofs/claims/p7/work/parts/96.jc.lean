set_option maxHeartbeats 4000000 in
theorem bX8_isWay {l : Launch} {G : xG} {h : List va_E} {a : Nat} {y : Int32}  (ba : a < 4) : CD l G yX8_isWay cX8_isWay 5 (some .boolean) 3 0 0 [.int (nI a), .int y] h (some (.int (if (wyF a y = true) then 1 else 0))) h := by
  refine cm_ofQ rfl (Nat.le_of_ble_eq_true rfl) [(0, .int (nI a)), (1, .int y)] rfl (fun QF hQF => ?_)
  refine aw_iload_n 1 dX8_isWay_0 rfl rfl ?_
  refine aw_iconst (1) dX8_isWay_1 (by decide) ?_
  refine aw_icmp_lt 12 dX8_isWay_2 (by decide) (fun c2 => ?_) (fun c2 => ?_)
  · have d2 := (j_lt (a := y.toInt) (b := (1)) (rfl) (rfl)).mp c2
    refine aw_iconst (0) dX8_isWay_12 (by decide) ?_
    subst hQF
    exact aw_zret rfl rfl dX8_isWay_13 (by decide) (by decide) ⟨by rw [if_neg (by unfold wyF; simp only [Bool.and_eq_true, decide_eq_true_eq]; omega)], rfl⟩
  · have d2 := mt (j_lt (a := y.toInt) (b := (1)) (rfl) (rfl)).mpr c2
    refine aw_iload_n 1 dX8_isWay_5 rfl rfl ?_
    refine aw_sipush (999) dX8_isWay_6 (by decide) ?_
    refine aw_icmp_le 14 dX8_isWay_9 (by decide) (fun c9 => ?_) (fun c9 => ?_)
    · have d9 := (j_le (a := y.toInt) (b := (999)) (rfl) (rfl)).mp c9
      obtain ⟨y0, bb_y0, ee_y0⟩ := i_nat (x := y) (N := 1000) (by omega) (by omega)
      subst ee_y0
      have tt_y0 : (nI y0).toInt = (y0 : Int) := nI_toInt (by omega)
      have nn_y0 : tn (nI y0) = y0 := tn_nI (by omega)
      have pwa := pw4 a ba
      refine aw_iconst (1) dX8_isWay_14 (by decide) ?_
      refine aw_iload_n 0 dX8_isWay_15 rfl rfl ?_
      refine aw_ishl dX8_isWay_16 ?_
      refine aw_toe (nI (2 ^ a)) (nv_shl1 (rfl) (by omega)) ?_
      refine aw_istore_n [(2, .int (nI (2 ^ a))), (0, .int (nI a)), (1, .int (nI y0))] dX8_isWay_17 rfl (by decide) rfl ?_
      refine aw_iload_n 2 dX8_isWay_18 rfl rfl ?_
      refine aw_istore_n [(3, .int (nI y0)), (2, .int (nI (2 ^ a))), (0, .int (nI a)), (1, .int (nI y0))] dX8_isWay_19 rfl (by decide) rfl ?_
      refine aw_lv [(3, .int (nI y0)), (2, .int (nI (2 ^ a))), (1, .int (nI y0)), (0, .int (nI a))] [0, 1, 3, 2] rfl ?_
      suffices L4879 : ∀ (mm : Nat) (f : Nat) (se : Nat) (v : Nat), v < mm → (v < 1000) → (se < 16) → (wyG 3 (2 ^ a) y0 = wyG f se v) → (v < 10 ^ f) → AW l G yX8_isWay cX8_isWay 5 (some .boolean) (xR 3 0 0) (fun _ _ => True) QF 0 0 20 [(3, .int (nI v)), (2, .int (nI se)), (1, .int (nI y0)), (0, .int (nI a))] [] h from L4879 (y0 + 1) 3 (2 ^ a) y0 (Nat.lt_succ_self _) (by omega) (pw4 a ba) (rfl) (by omega)
      intro mm
      induction mm with
      | zero =>
        intro f se v hmm hv3 hse hw hv
        exact absurd hmm (Nat.not_lt_zero _)
      | succ mm ih4879 =>
        intro f se v hmm hv3 hse hw hv
        refine aw_iload_n 0 dX8_isWay_20 rfl rfl ?_
        refine aw_if_le 66 dX8_isWay_21 (by decide) (fun c21 => ?_) (fun c21 => ?_)
        · have d21 := (nv_le (a := v) (b := 0) (rfl) (rfl) (by omega) (by omega)).mp c21
          refine aw_iconst (1) dX8_isWay_66 (by decide) ?_
          subst hQF
          exact aw_zret rfl rfl dX8_isWay_67 (by decide) (by decide) ⟨by rw [if_pos (by unfold wyF; rw [nn_y0, hw, show v = 0 by omega, wyG_0]; simp only [Bool.and_true, decide_eq_true_eq]; omega)], rfl⟩
        · have d21 := mt (nv_le (a := v) (b := 0) (rfl) (rfl) (by omega) (by omega)).mpr c21
          rcases f with _ | f
          · exfalso; rw [Nat.pow_zero] at hv; omega
          refine aw_iload_n 0 dX8_isWay_24 rfl rfl ?_
          refine aw_bipush (10) dX8_isWay_25 (by decide) ?_
          refine aw_irem dX8_isWay_27 (by decide) ?_
          refine aw_toe (nI (v % 10)) (nv_rem (rfl) (rfl) (by omega) (by decide) (by decide)) ?_
          refine aw_iconst (1) dX8_isWay_28 (by decide) ?_
          refine aw_isub dX8_isWay_29 ?_
          refine aw_istore [(4, .int ((nI (v % 10)) - 1)), (3, .int (nI v)), (2, .int (nI se)), (1, .int (nI y0)), (0, .int (nI a))] dX8_isWay_30 (by decide) rfl ?_
          refine aw_iload 0 dX8_isWay_32 rfl ?_
          refine aw_dS [.int ((nI (v % 10)) - 1)] [] lX8_81 sX8_isCatalogue mX8_isCatalogue dX8_isWay_34 (bX8_isCatalogue (x := (nI (v % 10)) - 1) ) rfl (Nat.le_of_ble_eq_true rfl) (by decide) (by decide) rfl ?_
          refine aw_if_eq 49 dX8_isWay_37 (by decide) (fun c37 => ?_) (fun c37 => ?_)
          · have t37 := ite_0 c37
            refine aw_iconst (0) dX8_isWay_49 (by decide) ?_
            subst hQF
            exact aw_zret rfl rfl dX8_isWay_50 (by decide) (by decide) ⟨by rw [if_neg (by unfold wyF; rw [nn_y0, hw, wyG_n (by omega) (fun q => t37 (by rw [dig_i (by omega)]; omega))]; simp)], rfl⟩
          · have t37 := ite_1 c37
            have g0 : 1 ≤ v % 10 ∧ v % 10 ≤ 4 := by rw [dig_i (by omega)] at t37; omega
            rw [dig_e g0.1]
            refine aw_iload_n 2 dX8_isWay_40 rfl rfl ?_
            refine aw_iload 0 dX8_isWay_41 rfl ?_
            refine aw_ishr dX8_isWay_43 ?_
            refine aw_iconst (1) dX8_isWay_44 (by decide) ?_
            refine aw_iand dX8_isWay_45 ?_
            refine aw_toe (if se.testBit (v % 10 - 1) = true then 1 else 0) (nv_bit (rfl) (rfl) (by omega) (by omega)) ?_
            refine aw_if_eq 51 dX8_isWay_46 (by decide) (fun c46 => ?_) (fun c46 => ?_)
            · have t46 := ite_0 c46
              refine aw_iload_n 2 dX8_isWay_51 rfl rfl ?_
              refine aw_iconst (1) dX8_isWay_52 (by decide) ?_
              refine aw_iload 0 dX8_isWay_53 rfl ?_
              refine aw_ishl dX8_isWay_55 ?_
              refine aw_toe (nI (2 ^ (v % 10 - 1))) (nv_shl1 (rfl) (by omega)) ?_
              refine aw_ior dX8_isWay_56 ?_
              refine aw_toe (nI (se ||| (2 ^ (v % 10 - 1)))) (nv_or (rfl) (rfl)) ?_
              refine aw_istore_n [(2, .int (nI (se ||| (2 ^ (v % 10 - 1))))), (4, .int (nI (v % 10 - 1))), (3, .int (nI v)), (1, .int (nI y0)), (0, .int (nI a))] dX8_isWay_57 rfl (by decide) rfl ?_
              refine aw_iload_n 2 dX8_isWay_58 rfl rfl ?_
              refine aw_bipush (10) dX8_isWay_59 (by decide) ?_
              refine aw_idiv dX8_isWay_61 (by decide) ?_
              refine aw_toe (nI (v / 10)) (nv_div (rfl) (rfl) (by omega) (by decide) (by decide)) ?_
              refine aw_istore_n [(3, .int (nI (v / 10))), (2, .int (nI (se ||| (2 ^ (v % 10 - 1))))), (4, .int (nI (v % 10 - 1))), (1, .int (nI y0)), (0, .int (nI a))] dX8_isWay_62 rfl (by decide) rfl ?_
              refine aw_goto 20 dX8_isWay_63 (by decide) ?_
              refine aw_lv [(3, .int (nI (v / 10))), (2, .int (nI (se ||| (2 ^ (v % 10 - 1))))), (1, .int (nI y0)), (0, .int (nI a))] [0, 1, 3, 4] rfl ?_
              exact ih4879 f (se ||| 2 ^ (v % 10 - 1)) (v / 10) (by omega) (by omega) (or_16 hse (by omega)) (hw.trans (wyG_y (by omega) g0 t46)) (by rw [Nat.pow_succ] at hv; omega)
            · have t46 := ite_1 c46
              refine aw_iconst (0) dX8_isWay_49 (by decide) ?_
              subst hQF
              exact aw_zret rfl rfl dX8_isWay_50 (by decide) (by decide) ⟨by rw [if_neg (by unfold wyF; rw [nn_y0, hw, wyG_n (by omega) (fun q => q.2 t46)]; simp)], rfl⟩
    · have d9 := mt (j_le (a := y.toInt) (b := (999)) (rfl) (rfl)).mpr c9
      refine aw_iconst (0) dX8_isWay_12 (by decide) ?_
      subst hQF
      exact aw_zret rfl rfl dX8_isWay_13 (by decide) (by decide) ⟨by rw [if_neg (by unfold wyF; simp only [Bool.and_eq_true, decide_eq_true_eq]; omega)], rfl⟩
