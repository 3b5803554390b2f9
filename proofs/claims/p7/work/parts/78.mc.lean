set_option maxHeartbeats 4000000 in
theorem bX9_senses {l : Launch} {G : xG} {h : List va_E} {sp fa nb ns nm nv sh : Nat} {ho ow sl : Int32} {m : Nat → Nat} {W : Nat → Int32} {x : Nat} (h88 : h[88]? = some (oB 9 (lM G (nI sp) (nI fa) (nI nb) (nI ns) (nI nm) ho ow sl (nI nv) (nI sh)))) (h90 : h[90]? = some (aI 20 (nA m))) (h93 : h[93]? = some (aI 40 W)) (hm : ∀ j, j < 20 → m j ≤ j) (bx : x < 40) : CD l G yX9_senses cX9_senses 4 (some .int) 1 0 0 [.ref (G.1 + 88), .int (nI x)] h (some (.int (snF (root m) (W x) 20))) h := by
  refine cm_ofQ rfl (Nat.le_of_ble_eq_true rfl) [(0, .ref (G.1 + 88)), (1, .int (nI x))] rfl (fun QF hQF => ?_)
  refine aw_iconst (0) dX9_senses_0 (by decide) ?_
  refine aw_istore_n [(2, .int 0), (0, .ref (G.1 + 88)), (1, .int (nI x))] dX9_senses_1 rfl (by decide) rfl ?_
  refine aw_iconst (0) dX9_senses_2 (by decide) ?_
  refine aw_istore_n [(3, .int 0), (2, .int 0), (0, .ref (G.1 + 88)), (1, .int (nI x))] dX9_senses_3 rfl (by decide) rfl ?_
  refine aw_lv [(3, .int 0), (2, .int 0), (1, .int (nI x)), (0, .ref (G.1 + 88))] [0, 1, 3, 2] rfl ?_
  suffices L1639 : ∀ (mm : Nat) (k : Nat) (bv : Int32), 20 - k < mm → (k ≤ 20) → (bv = snF (root m) (W x) k) → AW l G yX9_senses cX9_senses 4 (some .int) (xR 1 0 0) (fun _ _ => True) QF 0 0 4 [(3, .int (nI k)), (2, .int bv), (1, .int (nI x)), (0, .ref (G.1 + 88))] [] h from L1639 (20 - 0 + 1) 0 0 (Nat.lt_succ_self _) (Nat.zero_le _) (rfl)
  intro mm
  induction mm with
  | zero =>
    intro k bv hmm hk hb
    exact absurd hmm (Nat.not_lt_zero _)
  | succ mm ih1639 =>
    intro k bv hmm hk hb
    refine aw_iload_n 0 dX9_senses_4 rfl rfl ?_
    refine aw_bipush (20) dX9_senses_5 (by decide) ?_
    refine aw_icmp_ge 40 dX9_senses_7 (by decide) (fun c7 => ?_) (fun c7 => ?_)
    · have d7 := (nv_le (a := 20) (b := k) (rfl) (rfl) (by omega) (by omega)).mp c7
      refine aw_iload_n 1 dX9_senses_40 rfl rfl ?_
      subst hQF
      exact aw_iret rfl dX9_senses_41 (by decide) (by decide) ⟨by rw [hb, show k = 20 by omega], rfl⟩
    · have d7 := mt (nv_le (a := 20) (b := k) (rfl) (rfl) (by omega) (by omega)).mpr c7
      refine aw_aload_n 3 dX9_senses_10 rfl rfl ?_
      refine aw_get fX9_22 dX9_senses_11 h88 rfl ?_
      refine aw_iload_n 2 dX9_senses_14 rfl rfl ?_
      refine aw_iald x (rfl) (by omega) (by decide) dX9_senses_15 h93 ?_
      refine aw_iload_n 0 dX9_senses_16 rfl rfl ?_
      refine aw_ishr dX9_senses_17 ?_
      refine aw_iconst (1) dX9_senses_18 (by decide) ?_
      refine aw_iand dX9_senses_19 ?_
      refine aw_iconst (1) dX9_senses_20 (by decide) ?_
      refine aw_icmp_ne 34 dX9_senses_21 (by decide) (fun c21 => ?_) (fun c21 => ?_)
      · have d21 := mt (j_eq (a := (((W x) >>> ((nI k) &&& 31)) &&& 1).toInt) (b := (1)) (rfl) (rfl)).mpr c21
        refine aw_iinc (j := 0) (nI (k + 1)) [(3, .int (nI (k + 1))), (2, .int bv), (1, .int (nI x)), (0, .ref (G.1 + 88))] dX9_senses_34 rfl (nv_inc (rfl)) (by decide) rfl ?_
        refine aw_goto 4 dX9_senses_37 (by decide) ?_
        refine aw_lv [(3, .int (nI (k + 1))), (2, .int bv), (1, .int (nI x)), (0, .ref (G.1 + 88))] [0, 1, 2, 3] rfl ?_
        exact ih1639 (k + 1) bv (by omega) (by omega) (by rw [hb, snF_0 (an_0 c21)])
      · have d21 := (j_eq (a := (((W x) >>> ((nI k) &&& 31)) &&& 1).toInt) (b := (1)) (rfl) (rfl)).mp c21
        refine aw_iload_n 1 dX9_senses_24 rfl rfl ?_
        refine aw_iconst (1) dX9_senses_25 (by decide) ?_
        refine aw_aload_n 3 dX9_senses_26 rfl rfl ?_
        refine aw_iload_n 0 dX9_senses_27 rfl rfl ?_
        refine aw_dV [.int (nI k)] [.int 1, .int bv] lX9_134 vX9_senseOf mX9_senseOf dX9_senses_28 (oX9_senseOf (sp := sp) (fa := fa) (nb := nb) (ns := ns) (nm := nm) (nv := nv) (sh := sh) (ho := ho) (ow := ow) (sl := sl) (m := m) (w := k) h88 h90 hm (by omega)) h88 rfl rfl rfl (Nat.le_of_ble_eq_true rfl) (by decide) (by decide) rfl ?_
        refine aw_ishl dX9_senses_31 ?_
        refine aw_ior dX9_senses_32 ?_
        refine aw_istore_n [(2, .int (bv ||| (1 <<< ((nI (root m k)) &&& 31)))), (3, .int (nI k)), (1, .int (nI x)), (0, .ref (G.1 + 88))] dX9_senses_33 rfl (by decide) rfl ?_
        refine aw_iinc (j := 1) (nI (k + 1)) [(3, .int (nI (k + 1))), (2, .int (bv ||| (1 <<< ((nI (root m k)) &&& 31)))), (1, .int (nI x)), (0, .ref (G.1 + 88))] dX9_senses_34 rfl (nv_inc (rfl)) (by decide) rfl ?_
        refine aw_goto 4 dX9_senses_37 (by decide) ?_
        refine aw_lv [(3, .int (nI (k + 1))), (2, .int (bv ||| (1 <<< ((nI (root m k)) &&& 31)))), (1, .int (nI x)), (0, .ref (G.1 + 88))] [0, 1, 2, 3] rfl ?_
        exact ih1639 (k + 1) (bv ||| (1 <<< ((nI (root m k)) &&& 31))) (by omega) (by omega) (by rw [hb, snF_1 (an_1 c21)])
set_option maxHeartbeats 4000000 in
theorem bX9_bitsOf {l : Launch} {G : xG} {h : List va_E} {a : Nat}  (ha : a < 1048576) : CD l G yX9_bitsOf cX9_bitsOf 3 (some .int) 0 0 0 [.int (nI a)] h (some (.int (nI (pcF 20 a)))) h := by
  refine cm_ofQ rfl (Nat.le_of_ble_eq_true rfl) [(0, .int (nI a))] rfl (fun QF hQF => ?_)
  refine aw_iconst (0) dX9_bitsOf_0 (by decide) ?_
  refine aw_istore_n [(1, .int 0), (0, .int (nI a))] dX9_bitsOf_1 rfl (by decide) rfl ?_
  refine aw_iload_n 1 dX9_bitsOf_2 rfl rfl ?_
  refine aw_istore_n [(2, .int (nI a)), (1, .int 0), (0, .int (nI a))] dX9_bitsOf_3 rfl (by decide) rfl ?_
  refine aw_lv [(2, .int (nI a)), (1, .int 0), (0, .int (nI a))] [0, 1, 2] rfl ?_
  suffices L1640 : ∀ (mm : Nat) (x : Nat) (c : Nat), x < mm → (x < 1048576) → (c + pcF 20 x = pcF 20 a) → AW l G yX9_bitsOf cX9_bitsOf 3 (some .int) (xR 0 0 0) (fun _ _ => True) QF 0 0 4 [(2, .int (nI x)), (1, .int (nI c)), (0, .int (nI a))] [] h from L1640 (a + 1) a 0 (Nat.lt_succ_self _) (ha) (by omega)
  intro mm
  induction mm with
  | zero =>
    intro x c hmm hx hc
    exact absurd hmm (Nat.not_lt_zero _)
  | succ mm ih1640 =>
    intro x c hmm hx hc
    have b7 := pcF_le 20 a
    refine aw_iload_n 0 dX9_bitsOf_4 rfl rfl ?_
    refine aw_if_eq 20 dX9_bitsOf_5 (by decide) (fun c5 => ?_) (fun c5 => ?_)
    · have d5 := (nv_eq (a := x) (b := 0) (rfl) (rfl) (by omega) (by omega)).mp c5
      refine aw_iload_n 1 dX9_bitsOf_20 rfl rfl ?_
      subst hQF
      exact aw_iret rfl dX9_bitsOf_21 (by decide) (by decide) ⟨by rw [← hc, show x = 0 by omega, pcF_0]; rfl, rfl⟩
    · have d5 := mt (nv_eq (a := x) (b := 0) (rfl) (rfl) (by omega) (by omega)).mpr c5
      refine aw_iinc (j := 1) (nI (c + 1)) [(1, .int (nI (c + 1))), (2, .int (nI x)), (0, .int (nI a))] dX9_bitsOf_8 rfl (nv_inc (rfl)) (by decide) rfl ?_
      refine aw_iload_n 1 dX9_bitsOf_11 rfl rfl ?_
      refine aw_iload_n 1 dX9_bitsOf_12 rfl rfl ?_
      refine aw_iconst (1) dX9_bitsOf_13 (by decide) ?_
      refine aw_isub dX9_bitsOf_14 ?_
      refine aw_toe (nI (x - 1)) (nv_sub (rfl) (rfl) (by omega)) ?_
      refine aw_iand dX9_bitsOf_15 ?_
      refine aw_toe (nI (x &&& (x - 1))) (nv_and (rfl) (rfl)) ?_
      refine aw_istore_n [(2, .int (nI (x &&& (x - 1)))), (1, .int (nI (c + 1))), (0, .int (nI a))] dX9_bitsOf_16 rfl (by decide) rfl ?_
      refine aw_goto 4 dX9_bitsOf_17 (by decide) ?_
      refine aw_lv [(2, .int (nI (x &&& (x - 1)))), (1, .int (nI (c + 1))), (0, .int (nI a))] [0, 1, 2] rfl ?_
      have b9 : x &&& (x - 1) ≤ x - 1 := Nat.and_le_right
      have b8 := pcF_st 20 x hx (by omega)
      exact ih1640 (x &&& (x - 1)) (c + 1) (by omega) (by omega) (by omega)
