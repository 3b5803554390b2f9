set_option maxHeartbeats 4000000 in
theorem bX9_stands {l : Launch} {G : xG} {h : List va_E} {sp fa nb ns nm nv sh : Nat} {ho ow sl : Int32} {tg : Nat → Nat} {p t : Nat} (h88 : h[88]? = some (oB 9 (lM G (nI sp) (nI fa) (nI nb) (nI ns) (nI nm) ho ow sl (nI nv) (nI sh)))) (h120 : h[120]? = some (aI 8 (nA tg))) (htg : ∀ j, j < 8 → tg j < 12) (hsh : sh ≤ 8) (bp : p < 256) (bt : t < 12) : CD l G yX9_stands cX9_stands 5 (some .boolean) 0 0 0 [.ref (G.1 + 88), .int (nI p), .int (nI t)] h (some (.int (if (sdF tg p t sh = true) then 1 else 0))) h := by
  refine cm_ofQ rfl (Nat.le_of_ble_eq_true rfl) [(0, .ref (G.1 + 88)), (1, .int (nI p)), (2, .int (nI t))] rfl (fun QF hQF => ?_)
  refine aw_iconst (0) dX9_stands_0 (by decide) ?_
  refine aw_istore_n [(3, .int 0), (0, .ref (G.1 + 88)), (1, .int (nI p)), (2, .int (nI t))] dX9_stands_1 rfl (by decide) rfl ?_
  refine aw_iconst (0) dX9_stands_2 (by decide) ?_
  refine aw_istore [(4, .int 0), (3, .int 0), (0, .ref (G.1 + 88)), (1, .int (nI p)), (2, .int (nI t))] dX9_stands_3 (by decide) rfl ?_
  refine aw_lv [(4, .int 0), (3, .int 0), (2, .int (nI t)), (1, .int (nI p)), (0, .ref (G.1 + 88))] [0, 1, 4, 3, 2] rfl ?_
  suffices L3289 : ∀ (mm : Nat) (k : Nat) (bv : Int32), sh - k < mm → (k ≤ sh) → (bv = if (sdF tg p t k = true) then 1 else 0) → AW l G yX9_stands cX9_stands 5 (some .boolean) (xR 0 0 0) (fun _ _ => True) QF 0 0 5 [(4, .int (nI k)), (3, .int bv), (2, .int (nI t)), (1, .int (nI p)), (0, .ref (G.1 + 88))] [] h from L3289 (sh - 0 + 1) 0 0 (Nat.lt_succ_self _) (Nat.zero_le _) (rfl)
  intro mm
  induction mm with
  | zero =>
    intro k bv hmm hk hb
    exact absurd hmm (Nat.not_lt_zero _)
  | succ mm ih3289 =>
    intro k bv hmm hk hb
    subst hb
    · refine aw_iload 0 dX9_stands_5 rfl ?_
      refine aw_aload_n 4 dX9_stands_7 rfl rfl ?_
      refine aw_get fX9_233 dX9_stands_8 h88 rfl ?_
      refine aw_icmp_ge 51 dX9_stands_11 (by decide) (fun c11 => ?_) (fun c11 => ?_)
      · have d11 := (nv_le (a := sh) (b := k) (rfl) (rfl) (by omega) (by omega)).mp c11
        refine aw_iload_n 1 dX9_stands_51 rfl rfl ?_
        subst hQF
        exact aw_zret rfl (by first | rfl | (split <;> rfl)) dX9_stands_52 (by decide) (by decide) ⟨by rw [show k = sh by omega], rfl⟩
      · have d11 := mt (nv_le (a := sh) (b := k) (rfl) (rfl) (by omega) (by omega)).mpr c11
        refine aw_iload_n 1 dX9_stands_14 rfl rfl ?_
        refine aw_if_ne 39 dX9_stands_15 (by decide) (fun c15 => ?_) (fun c15 => ?_)
        · have t15 := ite_1 c15
          refine aw_iconst (1) dX9_stands_39 (by decide) ?_
          refine aw_goto 44 dX9_stands_40 (by decide) ?_
          refine aw_istore_n [(3, .int 1), (4, .int (nI k)), (2, .int (nI t)), (1, .int (nI p)), (0, .ref (G.1 + 88))] dX9_stands_44 rfl (by decide) rfl ?_
          refine aw_iinc (j := 1) (nI (k + 1)) [(4, .int (nI (k + 1))), (3, .int 1), (2, .int (nI t)), (1, .int (nI p)), (0, .ref (G.1 + 88))] dX9_stands_45 rfl (nv_inc (rfl)) (by decide) rfl ?_
          refine aw_goto 5 dX9_stands_48 (by decide) ?_
          refine aw_lv [(4, .int (nI (k + 1))), (3, .int 1), (2, .int (nI t)), (1, .int (nI p)), (0, .ref (G.1 + 88))] [0, 1, 2, 3, 4] rfl ?_
          exact ih3289 (k + 1) 1 (by omega) (by omega) (sdF_t (Or.inl t15))
        · have t15 := ite_0 c15
          refine aw_iload_n 3 dX9_stands_18 rfl rfl ?_
          refine aw_iload 0 dX9_stands_19 rfl ?_
          refine aw_ishr dX9_stands_21 ?_
          refine aw_iconst (1) dX9_stands_22 (by decide) ?_
          refine aw_iand dX9_stands_23 ?_
          refine aw_toe (if p.testBit k = true then 1 else 0) (nv_bit (rfl) (rfl) (by omega) (by omega)) ?_
          refine aw_iconst (1) dX9_stands_24 (by decide) ?_
          refine aw_icmp_ne 43 dX9_stands_25 (by decide) (fun c25 => ?_) (fun c25 => ?_)
          · have t25 := ite_0e c25
            refine aw_iconst (0) dX9_stands_43 (by decide) ?_
            refine aw_istore_n [(3, .int 0), (4, .int (nI k)), (2, .int (nI t)), (1, .int (nI p)), (0, .ref (G.1 + 88))] dX9_stands_44 rfl (by decide) rfl ?_
            refine aw_iinc (j := 1) (nI (k + 1)) [(4, .int (nI (k + 1))), (3, .int 0), (2, .int (nI t)), (1, .int (nI p)), (0, .ref (G.1 + 88))] dX9_stands_45 rfl (nv_inc (rfl)) (by decide) rfl ?_
            refine aw_goto 5 dX9_stands_48 (by decide) ?_
            refine aw_lv [(4, .int (nI (k + 1))), (3, .int 0), (2, .int (nI t)), (1, .int (nI p)), (0, .ref (G.1 + 88))] [0, 1, 2, 3, 4] rfl ?_
            exact ih3289 (k + 1) 0 (by omega) (by omega) (sdF_f t15 (fun q => t25 q.1))
          · have t25 := ite_1e c25
            refine aw_aload_n 4 dX9_stands_28 rfl rfl ?_
            refine aw_get fX9_110 dX9_stands_29 h88 rfl ?_
            refine aw_iload 0 dX9_stands_32 rfl ?_
            refine aw_iald k (rfl) (by omega) (by decide) dX9_stands_34 h120 ?_
            refine aw_toe (nI (tg k)) (rfl) ?_
            have b3290 := htg k (by omega)
            refine aw_iload_n 2 dX9_stands_35 rfl rfl ?_
            refine aw_icmp_ne 43 dX9_stands_36 (by decide) (fun c36 => ?_) (fun c36 => ?_)
            · have d36 := mt (nv_eq (a := tg k) (b := t) (rfl) (rfl) (by omega) (by omega)).mpr c36
              refine aw_iconst (0) dX9_stands_43 (by decide) ?_
              refine aw_istore_n [(3, .int 0), (4, .int (nI k)), (2, .int (nI t)), (1, .int (nI p)), (0, .ref (G.1 + 88))] dX9_stands_44 rfl (by decide) rfl ?_
              refine aw_iinc (j := 1) (nI (k + 1)) [(4, .int (nI (k + 1))), (3, .int 0), (2, .int (nI t)), (1, .int (nI p)), (0, .ref (G.1 + 88))] dX9_stands_45 rfl (nv_inc (rfl)) (by decide) rfl ?_
              refine aw_goto 5 dX9_stands_48 (by decide) ?_
              refine aw_lv [(4, .int (nI (k + 1))), (3, .int 0), (2, .int (nI t)), (1, .int (nI p)), (0, .ref (G.1 + 88))] [0, 1, 2, 3, 4] rfl ?_
              exact ih3289 (k + 1) 0 (by omega) (by omega) (sdF_f t15 (fun q => d36 q.2))
            · have d36 := (nv_eq (a := tg k) (b := t) (rfl) (rfl) (by omega) (by omega)).mp c36
              refine aw_iconst (1) dX9_stands_39 (by decide) ?_
              refine aw_goto 44 dX9_stands_40 (by decide) ?_
              refine aw_istore_n [(3, .int 1), (4, .int (nI k)), (2, .int (nI t)), (1, .int (nI p)), (0, .ref (G.1 + 88))] dX9_stands_44 rfl (by decide) rfl ?_
              refine aw_iinc (j := 1) (nI (k + 1)) [(4, .int (nI (k + 1))), (3, .int 1), (2, .int (nI t)), (1, .int (nI p)), (0, .ref (G.1 + 88))] dX9_stands_45 rfl (nv_inc (rfl)) (by decide) rfl ?_
              refine aw_goto 5 dX9_stands_48 (by decide) ?_
              refine aw_lv [(4, .int (nI (k + 1))), (3, .int 1), (2, .int (nI t)), (1, .int (nI p)), (0, .ref (G.1 + 88))] [0, 1, 2, 3, 4] rfl ?_
              exact ih3289 (k + 1) 1 (by omega) (by omega) (sdF_t (Or.inr ⟨t25, d36⟩))
