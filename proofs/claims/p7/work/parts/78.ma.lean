set_option maxHeartbeats 4000000 in
theorem bX9_isEntry {l : Launch} {G : xG} {h : List va_E} {sp fa nb ns nm nv sh : Nat} {ho ow sl : Int32} {fi : Nat → Nat} {c i : Int32} (h88 : h[88]? = some (oB 9 (lM G (nI sp) (nI fa) (nI nb) (nI ns) (nI nm) ho ow sl (nI nv) (nI sh)))) (h92 : h[92]? = some (aI 4 (nA fi))) (hfi : ∀ j, j < 4 → fi j < 11) : CD l G yX9_isEntry cX9_isEntry 3 (some .boolean) 2 0 0 [.ref (G.1 + 88), .int c, .int i] h (some (.int (if ((0 ≤ c.toInt ∧ c.toInt < 4) ∧ 0 ≤ i.toInt ∧ i.toInt < (fi (tn c) : Int)) then 1 else 0))) h := by
  refine cm_ofQ rfl (Nat.le_of_ble_eq_true rfl) [(0, .ref (G.1 + 88)), (1, .int c), (2, .int i)] rfl (fun QF hQF => ?_)
  refine aw_iload_n 1 dX9_isEntry_0 rfl rfl ?_
  refine aw_iconst (4) dX9_isEntry_1 (by decide) ?_
  refine aw_dS [.int c, .int 4] [] lX9_126 sX9_isIn mX9_isIn dX9_isEntry_2 (bX9_isIn (x := c) (n := 4) (by omega)) rfl (Nat.le_of_ble_eq_true rfl) (by decide) (by decide) rfl ?_
  refine aw_if_eq 25 dX9_isEntry_5 (by decide) (fun c5 => ?_) (fun c5 => ?_)
  · have t5 := ite_0 c5
    refine aw_iconst (0) dX9_isEntry_25 (by decide) ?_
    subst hQF
    exact aw_zret rfl rfl dX9_isEntry_26 (by decide) (by decide) ⟨by rw [if_neg (by omega)], rfl⟩
  · have t5 := ite_1 c5
    obtain ⟨ca, bb_ca, ee_ca⟩ := i_nat (x := c) (N := 4) (by omega) (by omega)
    subst ee_ca
    have tt_ca : (nI ca).toInt = (ca : Int) := nI_toInt (by omega)
    have nn_ca : tn (nI ca) = ca := tn_nI (by omega)
    refine aw_iload_n 2 dX9_isEntry_8 rfl rfl ?_
    refine aw_aload_n 0 dX9_isEntry_9 rfl rfl ?_
    refine aw_get fX9_19 dX9_isEntry_10 h88 rfl ?_
    refine aw_iload_n 1 dX9_isEntry_13 rfl rfl ?_
    refine aw_iald ca (rfl) (by omega) (by decide) dX9_isEntry_14 h92 ?_
    refine aw_toe (nI (fi ca)) (rfl) ?_
    have b1595 := hfi ca (by omega)
    refine aw_dS [.int i, .int (nI (fi ca))] [] lX9_126 sX9_isIn mX9_isIn dX9_isEntry_15 (bX9_isIn (x := i) (n := fi ca) (by omega)) rfl (Nat.le_of_ble_eq_true rfl) (by decide) (by decide) rfl ?_
    refine aw_if_eq 25 dX9_isEntry_18 (by decide) (fun c18 => ?_) (fun c18 => ?_)
    · have t18 := ite_0 c18
      refine aw_iconst (0) dX9_isEntry_25 (by decide) ?_
      subst hQF
      exact aw_zret rfl rfl dX9_isEntry_26 (by decide) (by decide) ⟨by rw [if_neg (by rw [nn_ca]; omega)], rfl⟩
    · have t18 := ite_1 c18
      refine aw_iconst (1) dX9_isEntry_21 (by decide) ?_
      refine aw_goto 26 dX9_isEntry_22 (by decide) ?_
      subst hQF
      exact aw_zret rfl rfl dX9_isEntry_26 (by decide) (by decide) ⟨by rw [if_pos (by rw [nn_ca]; omega)], rfl⟩
set_option maxHeartbeats 4000000 in
theorem bX9_isBarred {l : Launch} {G : xG} {h : List va_E} {sp fa nb ns nm nv sh : Nat} {ho ow sl : Int32} {b1 b2 : Nat → Nat} {x y : Nat} (h88 : h[88]? = some (oB 9 (lM G (nI sp) (nI fa) (nI nb) (nI ns) (nI nm) ho ow sl (nI nv) (nI sh)))) (h97 : h[97]? = some (aI 30 (nA b1))) (h98 : h[98]? = some (aI 30 (nA b2))) (hnb : nb ≤ 30) (bb1 : ∀ j, j < 30 → b1 j < 40) (bb2 : ∀ j, j < 30 → b2 j < 40) (bx : x < 40) (by_ : y < 40) : CD l G yX9_isBarred cX9_isBarred 5 (some .boolean) 0 0 0 [.ref (G.1 + 88), .int (nI x), .int (nI y)] h (some (.int (if (brF b1 b2 x y nb = true) then 1 else 0))) h := by
  refine cm_ofQ rfl (Nat.le_of_ble_eq_true rfl) [(0, .ref (G.1 + 88)), (1, .int (nI x)), (2, .int (nI y))] rfl (fun QF hQF => ?_)
  refine aw_iconst (0) dX9_isBarred_0 (by decide) ?_
  refine aw_istore_n [(3, .int 0), (0, .ref (G.1 + 88)), (1, .int (nI x)), (2, .int (nI y))] dX9_isBarred_1 rfl (by decide) rfl ?_
  refine aw_iconst (0) dX9_isBarred_2 (by decide) ?_
  refine aw_istore [(4, .int 0), (3, .int 0), (0, .ref (G.1 + 88)), (1, .int (nI x)), (2, .int (nI y))] dX9_isBarred_3 (by decide) rfl ?_
  refine aw_lv [(4, .int 0), (3, .int 0), (2, .int (nI y)), (1, .int (nI x)), (0, .ref (G.1 + 88))] [0, 1, 4, 3, 2] rfl ?_
  suffices L1596 : ∀ (mm : Nat) (k : Nat) (bv : Int32), nb - k < mm → (k ≤ nb) → (bv = if (brF b1 b2 x y k = true) then 1 else 0) → AW l G yX9_isBarred cX9_isBarred 5 (some .boolean) (xR 0 0 0) (fun _ _ => True) QF 0 0 5 [(4, .int (nI k)), (3, .int bv), (2, .int (nI y)), (1, .int (nI x)), (0, .ref (G.1 + 88))] [] h from L1596 (nb - 0 + 1) 0 0 (Nat.lt_succ_self _) (Nat.zero_le _) (rfl)
  intro mm
  induction mm with
  | zero =>
    intro k bv hmm hk hb
    exact absurd hmm (Nat.not_lt_zero _)
  | succ mm ih1596 =>
    intro k bv hmm hk hb
    subst hb
    · refine aw_iload 0 dX9_isBarred_5 rfl ?_
      refine aw_aload_n 4 dX9_isBarred_7 rfl rfl ?_
      refine aw_get fX9_142 dX9_isBarred_8 h88 rfl ?_
      refine aw_icmp_ge 74 dX9_isBarred_11 (by decide) (fun c11 => ?_) (fun c11 => ?_)
      · have d11 := (nv_le (a := nb) (b := k) (rfl) (rfl) (by omega) (by omega)).mp c11
        refine aw_iload_n 1 dX9_isBarred_74 rfl rfl ?_
        subst hQF
        exact aw_zret rfl (by first | rfl | (split <;> rfl)) dX9_isBarred_75 (by decide) (by decide) ⟨by rw [show k = nb by omega], rfl⟩
      · have d11 := mt (nv_le (a := nb) (b := k) (rfl) (rfl) (by omega) (by omega)).mpr c11
        refine aw_iload_n 1 dX9_isBarred_14 rfl rfl ?_
        refine aw_if_ne 62 dX9_isBarred_15 (by decide) (fun c15 => ?_) (fun c15 => ?_)
        · have t15 := ite_1 c15
          refine aw_iconst (1) dX9_isBarred_62 (by decide) ?_
          refine aw_goto 67 dX9_isBarred_63 (by decide) ?_
          refine aw_istore_n [(3, .int 1), (4, .int (nI k)), (2, .int (nI y)), (1, .int (nI x)), (0, .ref (G.1 + 88))] dX9_isBarred_67 rfl (by decide) rfl ?_
          refine aw_iinc (j := 1) (nI (k + 1)) [(4, .int (nI (k + 1))), (3, .int 1), (2, .int (nI y)), (1, .int (nI x)), (0, .ref (G.1 + 88))] dX9_isBarred_68 rfl (nv_inc (rfl)) (by decide) rfl ?_
          refine aw_goto 5 dX9_isBarred_71 (by decide) ?_
          refine aw_lv [(4, .int (nI (k + 1))), (3, .int 1), (2, .int (nI y)), (1, .int (nI x)), (0, .ref (G.1 + 88))] [0, 1, 2, 3, 4] rfl ?_
          exact ih1596 (k + 1) 1 (by omega) (by omega) (brF_t (Or.inl t15))
        · have t15 := ite_0 c15
          refine aw_aload_n 4 dX9_isBarred_18 rfl rfl ?_
          refine aw_get fX9_34 dX9_isBarred_19 h88 rfl ?_
          refine aw_iload 0 dX9_isBarred_22 rfl ?_
          refine aw_iald k (rfl) (by omega) (by decide) dX9_isBarred_24 h97 ?_
          refine aw_toe (nI (b1 k)) (rfl) ?_
          have b1597 := bb1 k (by omega)
          refine aw_iload_n 3 dX9_isBarred_25 rfl rfl ?_
          refine aw_icmp_ne 40 dX9_isBarred_26 (by decide) (fun c26 => ?_) (fun c26 => ?_)
          · have d26 := mt (nv_eq (a := b1 k) (b := x) (rfl) (rfl) (by omega) (by omega)).mpr c26
            refine aw_aload_n 4 dX9_isBarred_40 rfl rfl ?_
            refine aw_get fX9_34 dX9_isBarred_41 h88 rfl ?_
            refine aw_iload 0 dX9_isBarred_44 rfl ?_
            refine aw_iald k (rfl) (by omega) (by decide) dX9_isBarred_46 h97 ?_
            refine aw_toe (nI (b1 k)) (rfl) ?_
            have b1598 := bb1 k (by omega)
            refine aw_iload_n 2 dX9_isBarred_47 rfl rfl ?_
            refine aw_icmp_ne 66 dX9_isBarred_48 (by decide) (fun c48 => ?_) (fun c48 => ?_)
            · have d48 := mt (nv_eq (a := b1 k) (b := y) (rfl) (rfl) (by omega) (by omega)).mpr c48
              refine aw_iconst (0) dX9_isBarred_66 (by decide) ?_
              refine aw_istore_n [(3, .int 0), (4, .int (nI k)), (2, .int (nI y)), (1, .int (nI x)), (0, .ref (G.1 + 88))] dX9_isBarred_67 rfl (by decide) rfl ?_
              refine aw_iinc (j := 1) (nI (k + 1)) [(4, .int (nI (k + 1))), (3, .int 0), (2, .int (nI y)), (1, .int (nI x)), (0, .ref (G.1 + 88))] dX9_isBarred_68 rfl (nv_inc (rfl)) (by decide) rfl ?_
              refine aw_goto 5 dX9_isBarred_71 (by decide) ?_
              refine aw_lv [(4, .int (nI (k + 1))), (3, .int 0), (2, .int (nI y)), (1, .int (nI x)), (0, .ref (G.1 + 88))] [0, 1, 2, 3, 4] rfl ?_
              exact ih1596 (k + 1) 0 (by omega) (by omega) (brF_f t15 (by omega))
            · have d48 := (nv_eq (a := b1 k) (b := y) (rfl) (rfl) (by omega) (by omega)).mp c48
              refine aw_aload_n 4 dX9_isBarred_51 rfl rfl ?_
              refine aw_get fX9_37 dX9_isBarred_52 h88 rfl ?_
              refine aw_iload 0 dX9_isBarred_55 rfl ?_
              refine aw_iald k (rfl) (by omega) (by decide) dX9_isBarred_57 h98 ?_
              refine aw_toe (nI (b2 k)) (rfl) ?_
              have b1599 := bb2 k (by omega)
              refine aw_iload_n 3 dX9_isBarred_58 rfl rfl ?_
              refine aw_icmp_ne 66 dX9_isBarred_59 (by decide) (fun c59 => ?_) (fun c59 => ?_)
              · have d59 := mt (nv_eq (a := b2 k) (b := x) (rfl) (rfl) (by omega) (by omega)).mpr c59
                refine aw_iconst (0) dX9_isBarred_66 (by decide) ?_
                refine aw_istore_n [(3, .int 0), (4, .int (nI k)), (2, .int (nI y)), (1, .int (nI x)), (0, .ref (G.1 + 88))] dX9_isBarred_67 rfl (by decide) rfl ?_
                refine aw_iinc (j := 1) (nI (k + 1)) [(4, .int (nI (k + 1))), (3, .int 0), (2, .int (nI y)), (1, .int (nI x)), (0, .ref (G.1 + 88))] dX9_isBarred_68 rfl (nv_inc (rfl)) (by decide) rfl ?_
                refine aw_goto 5 dX9_isBarred_71 (by decide) ?_
                refine aw_lv [(4, .int (nI (k + 1))), (3, .int 0), (2, .int (nI y)), (1, .int (nI x)), (0, .ref (G.1 + 88))] [0, 1, 2, 3, 4] rfl ?_
                exact ih1596 (k + 1) 0 (by omega) (by omega) (brF_f t15 (by omega))
              · have d59 := (nv_eq (a := b2 k) (b := x) (rfl) (rfl) (by omega) (by omega)).mp c59
                refine aw_iconst (1) dX9_isBarred_62 (by decide) ?_
                refine aw_goto 67 dX9_isBarred_63 (by decide) ?_
                refine aw_istore_n [(3, .int 1), (4, .int (nI k)), (2, .int (nI y)), (1, .int (nI x)), (0, .ref (G.1 + 88))] dX9_isBarred_67 rfl (by decide) rfl ?_
                refine aw_iinc (j := 1) (nI (k + 1)) [(4, .int (nI (k + 1))), (3, .int 1), (2, .int (nI y)), (1, .int (nI x)), (0, .ref (G.1 + 88))] dX9_isBarred_68 rfl (nv_inc (rfl)) (by decide) rfl ?_
                refine aw_goto 5 dX9_isBarred_71 (by decide) ?_
                refine aw_lv [(4, .int (nI (k + 1))), (3, .int 1), (2, .int (nI y)), (1, .int (nI x)), (0, .ref (G.1 + 88))] [0, 1, 2, 3, 4] rfl ?_
                exact ih1596 (k + 1) 1 (by omega) (by omega) (brF_t (Or.inr (by omega)))
          · have d26 := (nv_eq (a := b1 k) (b := x) (rfl) (rfl) (by omega) (by omega)).mp c26
            refine aw_aload_n 4 dX9_isBarred_29 rfl rfl ?_
            refine aw_get fX9_37 dX9_isBarred_30 h88 rfl ?_
            refine aw_iload 0 dX9_isBarred_33 rfl ?_
            refine aw_iald k (rfl) (by omega) (by decide) dX9_isBarred_35 h98 ?_
            refine aw_toe (nI (b2 k)) (rfl) ?_
            have b1600 := bb2 k (by omega)
            refine aw_iload_n 2 dX9_isBarred_36 rfl rfl ?_
            refine aw_icmp_eq 62 dX9_isBarred_37 (by decide) (fun c37 => ?_) (fun c37 => ?_)
            · have d37 := (nv_eq (a := b2 k) (b := y) (rfl) (rfl) (by omega) (by omega)).mp c37
              refine aw_iconst (1) dX9_isBarred_62 (by decide) ?_
              refine aw_goto 67 dX9_isBarred_63 (by decide) ?_
              refine aw_istore_n [(3, .int 1), (4, .int (nI k)), (2, .int (nI y)), (1, .int (nI x)), (0, .ref (G.1 + 88))] dX9_isBarred_67 rfl (by decide) rfl ?_
              refine aw_iinc (j := 1) (nI (k + 1)) [(4, .int (nI (k + 1))), (3, .int 1), (2, .int (nI y)), (1, .int (nI x)), (0, .ref (G.1 + 88))] dX9_isBarred_68 rfl (nv_inc (rfl)) (by decide) rfl ?_
              refine aw_goto 5 dX9_isBarred_71 (by decide) ?_
              refine aw_lv [(4, .int (nI (k + 1))), (3, .int 1), (2, .int (nI y)), (1, .int (nI x)), (0, .ref (G.1 + 88))] [0, 1, 2, 3, 4] rfl ?_
              exact ih1596 (k + 1) 1 (by omega) (by omega) (brF_t (Or.inr (by omega)))
            · have d37 := mt (nv_eq (a := b2 k) (b := y) (rfl) (rfl) (by omega) (by omega)).mpr c37
              refine aw_aload_n 4 dX9_isBarred_40 rfl rfl ?_
              refine aw_get fX9_34 dX9_isBarred_41 h88 rfl ?_
              refine aw_iload 0 dX9_isBarred_44 rfl ?_
              refine aw_iald k (rfl) (by omega) (by decide) dX9_isBarred_46 h97 ?_
              refine aw_toe (nI (b1 k)) (rfl) ?_
              have b1601 := bb1 k (by omega)
              refine aw_iload_n 2 dX9_isBarred_47 rfl rfl ?_
              refine aw_icmp_ne 66 dX9_isBarred_48 (by decide) (fun c48 => ?_) (fun c48 => ?_)
              · have d48 := mt (nv_eq (a := b1 k) (b := y) (rfl) (rfl) (by omega) (by omega)).mpr c48
                refine aw_iconst (0) dX9_isBarred_66 (by decide) ?_
                refine aw_istore_n [(3, .int 0), (4, .int (nI k)), (2, .int (nI y)), (1, .int (nI x)), (0, .ref (G.1 + 88))] dX9_isBarred_67 rfl (by decide) rfl ?_
                refine aw_iinc (j := 1) (nI (k + 1)) [(4, .int (nI (k + 1))), (3, .int 0), (2, .int (nI y)), (1, .int (nI x)), (0, .ref (G.1 + 88))] dX9_isBarred_68 rfl (nv_inc (rfl)) (by decide) rfl ?_
                refine aw_goto 5 dX9_isBarred_71 (by decide) ?_
                refine aw_lv [(4, .int (nI (k + 1))), (3, .int 0), (2, .int (nI y)), (1, .int (nI x)), (0, .ref (G.1 + 88))] [0, 1, 2, 3, 4] rfl ?_
                exact ih1596 (k + 1) 0 (by omega) (by omega) (brF_f t15 (by omega))
              · have d48 := (nv_eq (a := b1 k) (b := y) (rfl) (rfl) (by omega) (by omega)).mp c48
                refine aw_aload_n 4 dX9_isBarred_51 rfl rfl ?_
                refine aw_get fX9_37 dX9_isBarred_52 h88 rfl ?_
                refine aw_iload 0 dX9_isBarred_55 rfl ?_
                refine aw_iald k (rfl) (by omega) (by decide) dX9_isBarred_57 h98 ?_
                refine aw_toe (nI (b2 k)) (rfl) ?_
                have b1602 := bb2 k (by omega)
                refine aw_iload_n 3 dX9_isBarred_58 rfl rfl ?_
                refine aw_icmp_ne 66 dX9_isBarred_59 (by decide) (fun c59 => ?_) (fun c59 => ?_)
                · have d59 := mt (nv_eq (a := b2 k) (b := x) (rfl) (rfl) (by omega) (by omega)).mpr c59
                  refine aw_iconst (0) dX9_isBarred_66 (by decide) ?_
                  refine aw_istore_n [(3, .int 0), (4, .int (nI k)), (2, .int (nI y)), (1, .int (nI x)), (0, .ref (G.1 + 88))] dX9_isBarred_67 rfl (by decide) rfl ?_
                  refine aw_iinc (j := 1) (nI (k + 1)) [(4, .int (nI (k + 1))), (3, .int 0), (2, .int (nI y)), (1, .int (nI x)), (0, .ref (G.1 + 88))] dX9_isBarred_68 rfl (nv_inc (rfl)) (by decide) rfl ?_
                  refine aw_goto 5 dX9_isBarred_71 (by decide) ?_
                  refine aw_lv [(4, .int (nI (k + 1))), (3, .int 0), (2, .int (nI y)), (1, .int (nI x)), (0, .ref (G.1 + 88))] [0, 1, 2, 3, 4] rfl ?_
                  exact ih1596 (k + 1) 0 (by omega) (by omega) (brF_f t15 (by omega))
                · have d59 := (nv_eq (a := b2 k) (b := x) (rfl) (rfl) (by omega) (by omega)).mp c59
                  refine aw_iconst (1) dX9_isBarred_62 (by decide) ?_
                  refine aw_goto 67 dX9_isBarred_63 (by decide) ?_
                  refine aw_istore_n [(3, .int 1), (4, .int (nI k)), (2, .int (nI y)), (1, .int (nI x)), (0, .ref (G.1 + 88))] dX9_isBarred_67 rfl (by decide) rfl ?_
                  refine aw_iinc (j := 1) (nI (k + 1)) [(4, .int (nI (k + 1))), (3, .int 1), (2, .int (nI y)), (1, .int (nI x)), (0, .ref (G.1 + 88))] dX9_isBarred_68 rfl (nv_inc (rfl)) (by decide) rfl ?_
                  refine aw_goto 5 dX9_isBarred_71 (by decide) ?_
                  refine aw_lv [(4, .int (nI (k + 1))), (3, .int 1), (2, .int (nI y)), (1, .int (nI x)), (0, .ref (G.1 + 88))] [0, 1, 2, 3, 4] rfl ?_
                  exact ih1596 (k + 1) 1 (by omega) (by omega) (brF_t (Or.inr (by omega)))
