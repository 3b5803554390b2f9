set_option maxHeartbeats 4000000 in
theorem bX9_isFake {l : Launch} {G : xG} {h : List va_E} {sp fa nb ns nm nv sh : Nat} {ho ow sl : Int32} {kd fo : Nat → Nat} {b : Nat} (h88 : h[88]? = some (oB 9 (lM G (nI sp) (nI fa) (nI nb) (nI ns) (nI nm) ho ow sl (nI nv) (nI sh)))) (h123 : h[123]? = some (aI 10 (nA kd))) (h124 : h[124]? = some (aZ 36 (clM fo))) (bkd : ∀ j, j < 10 → kd j < 6) (bb : b < 1024) : CD l G yX9_isFake cX9_isFake 5 (some .boolean) 0 0 0 [.ref (G.1 + 88), .int (nI b)] h (some (.int (if (fkO kd fo b 10 = true) then 1 else 0))) h := by
  refine cm_ofQ rfl (Nat.le_of_ble_eq_true rfl) [(0, .ref (G.1 + 88)), (1, .int (nI b))] rfl (fun QF hQF => ?_)
  refine aw_iconst (0) dX9_isFake_0 (by decide) ?_
  refine aw_istore_n [(2, .int 0), (0, .ref (G.1 + 88)), (1, .int (nI b))] dX9_isFake_1 rfl (by decide) rfl ?_
  refine aw_iconst (0) dX9_isFake_2 (by decide) ?_
  refine aw_istore_n [(3, .int 0), (2, .int 0), (0, .ref (G.1 + 88)), (1, .int (nI b))] dX9_isFake_3 rfl (by decide) rfl ?_
  refine aw_lv [(3, .int 0), (2, .int 0), (1, .int (nI b)), (0, .ref (G.1 + 88))] [0, 1, 3, 2] rfl ?_
  suffices L3511 : ∀ (mm : Nat) (p : Nat) (bv : Int32), 10 - p < mm → (p ≤ 10) → (bv = if (fkO kd fo b p = true) then 1 else 0) → AW l G yX9_isFake cX9_isFake 5 (some .boolean) (xR 0 0 0) (fun _ _ => True) QF 0 0 4 [(3, .int (nI p)), (2, .int bv), (1, .int (nI b)), (0, .ref (G.1 + 88))] [] h from L3511 (10 - 0 + 1) 0 0 (Nat.lt_succ_self _) (Nat.zero_le _) (rfl)
  intro mm
  induction mm with
  | zero =>
    intro p bv hmm hp hb
    exact absurd hmm (Nat.not_lt_zero _)
  | succ mm ih3511 =>
    intro p bv hmm hp hb
    subst hb
    · refine aw_iload_n 0 dX9_isFake_4 rfl rfl ?_
      refine aw_bipush (10) dX9_isFake_5 (by decide) ?_
      refine aw_icmp_ge 85 dX9_isFake_7 (by decide) (fun c7 => ?_) (fun c7 => ?_)
      · have d7 := (nv_le (a := 10) (b := p) (rfl) (rfl) (by omega) (by omega)).mp c7
        refine aw_iload_n 1 dX9_isFake_85 rfl rfl ?_
        subst hQF
        exact aw_zret rfl (by first | rfl | (split <;> rfl)) dX9_isFake_86 (by decide) (by decide) ⟨by rw [show p = 10 by omega], rfl⟩
      · have d7 := mt (nv_le (a := 10) (b := p) (rfl) (rfl) (by omega) (by omega)).mpr c7
        refine aw_iconst (0) dX9_isFake_10 (by decide) ?_
        refine aw_istore [(4, .int 0), (3, .int (nI p)), (2, .int (if (fkO kd fo b p = true) then 1 else 0)), (1, .int (nI b)), (0, .ref (G.1 + 88))] dX9_isFake_11 (by decide) rfl ?_
        refine aw_lv [(4, .int 0), (3, .int (nI p)), (2, .int (if (fkO kd fo b p = true) then 1 else 0)), (1, .int (nI b)), (0, .ref (G.1 + 88))] [0, 1, 2, 3, 4] rfl ?_
        suffices L3512 : ∀ (mm : Nat) (q : Nat) (bv : Int32), p - q < mm → (q ≤ p) → (bv = if ((fkO kd fo b p || fkI kd fo b p q) = true) then 1 else 0) → AW l G yX9_isFake cX9_isFake 5 (some .boolean) (xR 0 0 0) (fun _ _ => True) QF 0 0 13 [(4, .int (nI q)), (3, .int (nI p)), (2, .int bv), (1, .int (nI b)), (0, .ref (G.1 + 88))] [] h from L3512 (p - 0 + 1) 0 (if (fkO kd fo b p = true) then 1 else 0) (Nat.lt_succ_self _) (Nat.zero_le _) (by simp only [fkI, Bool.or_false])
        intro mm
        induction mm with
        | zero =>
          intro q bv hmm hq hb
          exact absurd hmm (Nat.not_lt_zero _)
        | succ mm ih3512 =>
          intro q bv hmm hq hb
          subst hb
          · refine aw_iload 0 dX9_isFake_13 rfl ?_
            refine aw_iload_n 1 dX9_isFake_15 rfl rfl ?_
            refine aw_icmp_ge 79 dX9_isFake_16 (by decide) (fun c16 => ?_) (fun c16 => ?_)
            · have d16 := (nv_le (a := p) (b := q) (rfl) (rfl) (by omega) (by omega)).mp c16
              refine aw_iinc (j := 1) (nI (p + 1)) [(3, .int (nI (p + 1))), (4, .int (nI q)), (2, .int (if ((fkO kd fo b p || fkI kd fo b p q) = true) then 1 else 0)), (1, .int (nI b)), (0, .ref (G.1 + 88))] dX9_isFake_79 rfl (nv_inc (rfl)) (by decide) rfl ?_
              refine aw_goto 4 dX9_isFake_82 (by decide) ?_
              refine aw_lv [(3, .int (nI (p + 1))), (2, .int (if ((fkO kd fo b p || fkI kd fo b p q) = true) then 1 else 0)), (1, .int (nI b)), (0, .ref (G.1 + 88))] [0, 2, 3, 4] rfl ?_
              exact ih3511 (p + 1) (if ((fkO kd fo b p || fkI kd fo b p q) = true) then 1 else 0) (by omega) (by omega) (by rw [show q = p by omega]; rfl)
            · have d16 := mt (nv_le (a := p) (b := q) (rfl) (rfl) (by omega) (by omega)).mpr c16
              refine aw_iload_n 2 dX9_isFake_19 rfl rfl ?_
              refine aw_if_ne 67 dX9_isFake_20 (by decide) (fun c20 => ?_) (fun c20 => ?_)
              · have t20 := ite_1 c20
                refine aw_iconst (1) dX9_isFake_67 (by decide) ?_
                refine aw_goto 72 dX9_isFake_68 (by decide) ?_
                refine aw_istore_n [(2, .int 1), (4, .int (nI q)), (3, .int (nI p)), (1, .int (nI b)), (0, .ref (G.1 + 88))] dX9_isFake_72 rfl (by decide) rfl ?_
                refine aw_iinc (j := 1) (nI (q + 1)) [(4, .int (nI (q + 1))), (2, .int 1), (3, .int (nI p)), (1, .int (nI b)), (0, .ref (G.1 + 88))] dX9_isFake_73 rfl (nv_inc (rfl)) (by decide) rfl ?_
                refine aw_goto 13 dX9_isFake_76 (by decide) ?_
                refine aw_lv [(4, .int (nI (q + 1))), (3, .int (nI p)), (2, .int 1), (1, .int (nI b)), (0, .ref (G.1 + 88))] [0, 2, 1, 3, 4] rfl ?_
                exact ih3512 (q + 1) 1 (by omega) (by omega) (fkI_t (Or.inl t20))
              · have t20 := ite_0 c20
                refine aw_iload_n 3 dX9_isFake_23 rfl rfl ?_
                refine aw_iload_n 1 dX9_isFake_24 rfl rfl ?_
                refine aw_ishr dX9_isFake_25 ?_
                refine aw_iconst (1) dX9_isFake_26 (by decide) ?_
                refine aw_iand dX9_isFake_27 ?_
                refine aw_toe (if b.testBit p = true then 1 else 0) (nv_bit (rfl) (rfl) (by omega) (by omega)) ?_
                refine aw_iconst (1) dX9_isFake_28 (by decide) ?_
                refine aw_icmp_ne 71 dX9_isFake_29 (by decide) (fun c29 => ?_) (fun c29 => ?_)
                · have t29 := ite_0e c29
                  refine aw_iconst (0) dX9_isFake_71 (by decide) ?_
                  refine aw_istore_n [(2, .int 0), (4, .int (nI q)), (3, .int (nI p)), (1, .int (nI b)), (0, .ref (G.1 + 88))] dX9_isFake_72 rfl (by decide) rfl ?_
                  refine aw_iinc (j := 1) (nI (q + 1)) [(4, .int (nI (q + 1))), (2, .int 0), (3, .int (nI p)), (1, .int (nI b)), (0, .ref (G.1 + 88))] dX9_isFake_73 rfl (nv_inc (rfl)) (by decide) rfl ?_
                  refine aw_goto 13 dX9_isFake_76 (by decide) ?_
                  refine aw_lv [(4, .int (nI (q + 1))), (3, .int (nI p)), (2, .int 0), (1, .int (nI b)), (0, .ref (G.1 + 88))] [0, 2, 1, 3, 4] rfl ?_
                  exact ih3512 (q + 1) 0 (by omega) (by omega) (fkI_f t20 (fun q => t29 q.1))
                · have t29 := ite_1e c29
                  refine aw_iload_n 3 dX9_isFake_32 rfl rfl ?_
                  refine aw_iload 0 dX9_isFake_33 rfl ?_
                  refine aw_ishr dX9_isFake_35 ?_
                  refine aw_iconst (1) dX9_isFake_36 (by decide) ?_
                  refine aw_iand dX9_isFake_37 ?_
                  refine aw_toe (if b.testBit q = true then 1 else 0) (nv_bit (rfl) (rfl) (by omega) (by omega)) ?_
                  refine aw_iconst (1) dX9_isFake_38 (by decide) ?_
                  refine aw_icmp_ne 71 dX9_isFake_39 (by decide) (fun c39 => ?_) (fun c39 => ?_)
                  · have t39 := ite_0e c39
                    refine aw_iconst (0) dX9_isFake_71 (by decide) ?_
                    refine aw_istore_n [(2, .int 0), (4, .int (nI q)), (3, .int (nI p)), (1, .int (nI b)), (0, .ref (G.1 + 88))] dX9_isFake_72 rfl (by decide) rfl ?_
                    refine aw_iinc (j := 1) (nI (q + 1)) [(4, .int (nI (q + 1))), (2, .int 0), (3, .int (nI p)), (1, .int (nI b)), (0, .ref (G.1 + 88))] dX9_isFake_73 rfl (nv_inc (rfl)) (by decide) rfl ?_
                    refine aw_goto 13 dX9_isFake_76 (by decide) ?_
                    refine aw_lv [(4, .int (nI (q + 1))), (3, .int (nI p)), (2, .int 0), (1, .int (nI b)), (0, .ref (G.1 + 88))] [0, 2, 1, 3, 4] rfl ?_
                    exact ih3512 (q + 1) 0 (by omega) (by omega) (fkI_f t20 (fun q => t39 q.2.1))
                  · have t39 := ite_1e c39
                    refine aw_aload_n 4 dX9_isFake_42 rfl rfl ?_
                    refine aw_get fX9_122 dX9_isFake_43 h88 rfl ?_
                    refine aw_bipush (6) dX9_isFake_46 (by decide) ?_
                    refine aw_aload_n 4 dX9_isFake_48 rfl rfl ?_
                    refine aw_get fX9_119 dX9_isFake_49 h88 rfl ?_
                    refine aw_iload_n 1 dX9_isFake_52 rfl rfl ?_
                    refine aw_iald p (rfl) (by omega) (by decide) dX9_isFake_53 h123 ?_
                    refine aw_toe (nI (kd p)) (rfl) ?_
                    have b3513 := bkd p (by omega)
                    refine aw_imul dX9_isFake_54 ?_
                    refine aw_toe (nI (6 * (kd p))) (nv_mul (rfl) (rfl)) ?_
                    refine aw_aload_n 4 dX9_isFake_55 rfl rfl ?_
                    refine aw_get fX9_119 dX9_isFake_56 h88 rfl ?_
                    refine aw_iload 0 dX9_isFake_59 rfl ?_
                    refine aw_iald q (rfl) (by omega) (by decide) dX9_isFake_61 h123 ?_
                    refine aw_toe (nI (kd q)) (rfl) ?_
                    have b3514 := bkd q (by omega)
                    refine aw_iadd dX9_isFake_62 ?_
                    refine aw_toe (nI ((6 * (kd p)) + (kd q))) (nv_add (rfl) (rfl)) ?_
                    refine aw_zald ((6 * (kd p)) + (kd q)) (rfl) (by omega) (by decide) dX9_isFake_63 h124 ?_
                    refine aw_toe (if ((fo (kd p)).testBit (kd q) = true) then 1 else 0) (clM_at (by omega)) ?_
                    refine aw_if_eq 71 dX9_isFake_64 (by decide) (fun c64 => ?_) (fun c64 => ?_)
                    · have t64 := ite_0 c64
                      refine aw_iconst (0) dX9_isFake_71 (by decide) ?_
                      refine aw_istore_n [(2, .int 0), (4, .int (nI q)), (3, .int (nI p)), (1, .int (nI b)), (0, .ref (G.1 + 88))] dX9_isFake_72 rfl (by decide) rfl ?_
                      refine aw_iinc (j := 1) (nI (q + 1)) [(4, .int (nI (q + 1))), (2, .int 0), (3, .int (nI p)), (1, .int (nI b)), (0, .ref (G.1 + 88))] dX9_isFake_73 rfl (nv_inc (rfl)) (by decide) rfl ?_
                      refine aw_goto 13 dX9_isFake_76 (by decide) ?_
                      refine aw_lv [(4, .int (nI (q + 1))), (3, .int (nI p)), (2, .int 0), (1, .int (nI b)), (0, .ref (G.1 + 88))] [0, 2, 1, 3, 4] rfl ?_
                      exact ih3512 (q + 1) 0 (by omega) (by omega) (fkI_f t20 (fun q => t64 q.2.2))
                    · have t64 := ite_1 c64
                      refine aw_iconst (1) dX9_isFake_67 (by decide) ?_
                      refine aw_goto 72 dX9_isFake_68 (by decide) ?_
                      refine aw_istore_n [(2, .int 1), (4, .int (nI q)), (3, .int (nI p)), (1, .int (nI b)), (0, .ref (G.1 + 88))] dX9_isFake_72 rfl (by decide) rfl ?_
                      refine aw_iinc (j := 1) (nI (q + 1)) [(4, .int (nI (q + 1))), (2, .int 1), (3, .int (nI p)), (1, .int (nI b)), (0, .ref (G.1 + 88))] dX9_isFake_73 rfl (nv_inc (rfl)) (by decide) rfl ?_
                      refine aw_goto 13 dX9_isFake_76 (by decide) ?_
                      refine aw_lv [(4, .int (nI (q + 1))), (3, .int (nI p)), (2, .int 1), (1, .int (nI b)), (0, .ref (G.1 + 88))] [0, 2, 1, 3, 4] rfl ?_
                      exact ih3512 (q + 1) 1 (by omega) (by omega) (fkI_t (Or.inr ⟨t29, t39, t64⟩))
set_option maxHeartbeats 4000000 in
theorem oX9_fake {l : Launch} {G : xG} {h : List va_E} {sp fa nb ns nm nv sh : Nat} {ho ow sl : Int32} {rg : Nat → Int32} {kd fo : Nat → Nat} {b : Int32} (h88 : h[88]? = some (oB 9 (lM G (nI sp) (nI fa) (nI nb) (nI ns) (nI nm) ho ow sl (nI nv) (nI sh)))) (h89 : h[89]? = some (aI 7 rg)) (h123 : h[123]? = some (aI 10 (nA kd))) (h124 : h[124]? = some (aZ 36 (clM fo))) (bkd : ∀ j, j < 10 → kd j < 6) : CE l G yX9_fake cX9_fake 2 (some .int) 2 0 0 [.ref (G.1 + 88), .int b] h (some (.int (if (0 ≤ b.toInt ∧ b.toInt < 1024) then (if fkO kd fo (tn b) 10 = true then 1 else 0) else -1))) (fun h1 => ∃ rg1 : Nat → Int32, h1[89]? = some (aI 7 rg1) ∧ rng 89 89 h h1) := by
  refine cm_ofQ rfl (Nat.le_of_ble_eq_true rfl) [(0, .ref (G.1 + 88)), (1, .int b)] rfl (fun QF hQF => ?_)
  refine aw_iload_n 1 dX9_fake_0 rfl rfl ?_
  refine aw_dS [.int b] [] lX9_245 sX9_isBeast mX9_isBeast dX9_fake_1 (bX9_isBeast (x := b) ) rfl (Nat.le_of_ble_eq_true rfl) (by decide) (by decide) rfl ?_
  refine aw_if_eq 23 dX9_fake_4 (by decide) (fun c4 => ?_) (fun c4 => ?_)
  · have t4 := ite_0 c4
    refine aw_aload_n 0 dX9_fake_23 rfl rfl ?_
    refine aw_iconst (-1) dX9_fake_24 (by decide) ?_
    refine aw_eV [.int (-1)] [] lX9_130 vX9_refuse mX9_refuse dX9_fake_25 (bX9_refuse (sp := sp) (fa := fa) (nb := nb) (ns := ns) (nm := nm) (nv := nv) (sh := sh) (ho := ho) (ow := ow) (sl := sl) (rg := rg) (x := (-1)) (q := 1) h88 h89 (by decide) (by decide)) h88 rfl rfl rfl (Nat.le_of_ble_eq_true rfl) (by decide) (by decide) rfl (fun h3517 q3516 => ?_)
    obtain ⟨rg13515, f3518, k3519⟩ := q3516
    have f3520 := rng_at k3519 (by decide) h88
    have f3521 := rng_at k3519 (by decide) h123
    have f3522 := rng_at k3519 (by decide) h124
    subst hQF
    exact aw_iret rfl dX9_fake_28 (by decide) (by decide) ⟨by rw [if_neg (by omega)], _, f3518, rng_tr (rng_rf 89 89 h) (rng_w k3519 (by decide) (by decide))⟩
  · have t4 := ite_1 c4
    obtain ⟨b0, bb_b0, ee_b0⟩ := i_nat (x := b) (N := 1024) (by omega) (by omega)
    subst ee_b0
    have tt_b0 : (nI b0).toInt = (b0 : Int) := nI_toInt (by omega)
    have nn_b0 : tn (nI b0) = b0 := tn_nI (by omega)
    refine aw_aload_n 0 dX9_fake_7 rfl rfl ?_
    refine aw_iload_n 1 dX9_fake_8 rfl rfl ?_
    refine aw_dV [.int (nI b0)] [] lX9_249 vX9_isFake mX9_isFake dX9_fake_9 (bX9_isFake (sp := sp) (fa := fa) (nb := nb) (ns := ns) (nm := nm) (nv := nv) (sh := sh) (ho := ho) (ow := ow) (sl := sl) (kd := kd) (b := b0) h88 h123 h124 bkd (by omega)) h88 rfl rfl rfl (Nat.le_of_ble_eq_true rfl) (by decide) (by decide) rfl ?_
    refine aw_if_eq 19 dX9_fake_12 (by decide) (fun c12 => ?_) (fun c12 => ?_)
    · have t12 := ite_0 c12
      refine aw_iconst (0) dX9_fake_19 (by decide) ?_
      refine aw_goto 28 dX9_fake_20 (by decide) ?_
      subst hQF
      exact aw_iret rfl dX9_fake_28 (by decide) (by decide) ⟨by rw [if_pos (by omega), nn_b0, if_neg t12], _, h89, rng_rf 89 89 h⟩
    · have t12 := ite_1 c12
      refine aw_iconst (1) dX9_fake_15 (by decide) ?_
      refine aw_goto 28 dX9_fake_16 (by decide) ?_
      subst hQF
      exact aw_iret rfl dX9_fake_28 (by decide) (by decide) ⟨by rw [if_pos (by omega), nn_b0, if_pos t12], _, h89, rng_rf 89 89 h⟩
