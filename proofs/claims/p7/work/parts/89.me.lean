set_option maxHeartbeats 4000000 in
theorem oX9_least {l : Launch} {G : xG} {h : List va_E} {sp fa nb ns nm nv sh : Nat} {ho ow sl : Int32} {rg : Nat → Int32} {kd fo : Nat → Nat} {b : Int32} (h88 : h[88]? = some (oB 9 (lM G (nI sp) (nI fa) (nI nb) (nI ns) (nI nm) ho ow sl (nI nv) (nI sh)))) (h89 : h[89]? = some (aI 7 rg)) (h123 : h[123]? = some (aI 10 (nA kd))) (h124 : h[124]? = some (aZ 36 (clM fo))) (bkd : ∀ j, j < 10 → kd j < 6) : CE l G yX9_least cX9_least 4 (some .int) 2 0 0 [.ref (G.1 + 88), .int b] h (some (.int (if (0 ≤ b.toInt ∧ b.toInt < 1024) then (if fkO kd fo (tn b) 10 = true then nI (lmF kd fo (tn b) 1024) else 0) else -1))) (fun h1 => ∃ rg1 : Nat → Int32, h1[89]? = some (aI 7 rg1) ∧ rng 89 89 h h1) := by
  refine cm_ofQ rfl (Nat.le_of_ble_eq_true rfl) [(0, .ref (G.1 + 88)), (1, .int b)] rfl (fun QF hQF => ?_)
  refine aw_iload_n 1 dX9_least_0 rfl rfl ?_
  refine aw_dS [.int b] [] lX9_245 sX9_isBeast mX9_isBeast dX9_least_1 (bX9_isBeast (x := b) ) rfl (Nat.le_of_ble_eq_true rfl) (by decide) (by decide) rfl ?_
  refine aw_if_ne 13 dX9_least_4 (by decide) (fun c4 => ?_) (fun c4 => ?_)
  · have t4 := ite_1 c4
    obtain ⟨b0, bb_b0, ee_b0⟩ := i_nat (x := b) (N := 1024) (by omega) (by omega)
    subst ee_b0
    have tt_b0 : (nI b0).toInt = (b0 : Int) := nI_toInt (by omega)
    have nn_b0 : tn (nI b0) = b0 := tn_nI (by omega)
    refine aw_iload_n 1 dX9_least_13 rfl rfl ?_
    refine aw_istore_n [(2, .int (nI b0)), (0, .ref (G.1 + 88)), (1, .int (nI b0))] dX9_least_14 rfl (by decide) rfl ?_
    refine aw_iconst (0) dX9_least_15 (by decide) ?_
    refine aw_istore_n [(3, .int 0), (2, .int (nI b0)), (0, .ref (G.1 + 88)), (1, .int (nI b0))] dX9_least_16 rfl (by decide) rfl ?_
    refine aw_lv [(3, .int 0), (2, .int (nI b0)), (1, .int (nI b0)), (0, .ref (G.1 + 88))] [0, 1, 3, 2] rfl ?_
    suffices L3523 : ∀ (mm : Nat) (s : Nat) (z : Nat), 1024 - s < mm → (s ≤ 1024) → (z = lmF kd fo b0 s) → AW l G yX9_least cX9_least 4 (some .int) (xR 2 0 0) (fun _ _ => True) QF 0 0 17 [(3, .int (nI s)), (2, .int (nI z)), (1, .int (nI b0)), (0, .ref (G.1 + 88))] [] h from L3523 (1024 - 0 + 1) 0 b0 (Nat.lt_succ_self _) (Nat.zero_le _) (rfl)
    intro mm
    induction mm with
    | zero =>
      intro s z hmm hs hz
      exact absurd hmm (Nat.not_lt_zero _)
    | succ mm ih3523 =>
      intro s z hmm hs hz
      have b9 : z < 1024 := by rw [hz]; exact lmF_lt (by omega) s hs
      have b8 : b0 &&& (1023 ^^^ s) ≤ b0 := Nat.and_le_left
      have b7 : s &&& (1023 ^^^ b0) ≤ s := Nat.and_le_left
      have b6 := pcF_le 20 s
      have b5 := pcF_le 20 z
      refine aw_iload_n 0 dX9_least_17 rfl rfl ?_
      refine aw_sipush (1024) dX9_least_18 (by decide) ?_
      refine aw_icmp_ge 63 dX9_least_21 (by decide) (fun c21 => ?_) (fun c21 => ?_)
      · have d21 := (nv_le (a := 1024) (b := s) (rfl) (rfl) (by omega) (by omega)).mp c21
        refine aw_aload_n 3 dX9_least_63 rfl rfl ?_
        refine aw_iload_n 2 dX9_least_64 rfl rfl ?_
        refine aw_dV [.int (nI b0)] [] lX9_249 vX9_isFake mX9_isFake dX9_least_65 (bX9_isFake (sp := sp) (fa := fa) (nb := nb) (ns := ns) (nm := nm) (nv := nv) (sh := sh) (ho := ho) (ow := ow) (sl := sl) (kd := kd) (b := b0) h88 h123 h124 bkd (by omega)) h88 rfl rfl rfl (Nat.le_of_ble_eq_true rfl) (by decide) (by decide) rfl ?_
        refine aw_if_eq 75 dX9_least_68 (by decide) (fun c68 => ?_) (fun c68 => ?_)
        · have t68 := ite_0 c68
          refine aw_iconst (0) dX9_least_75 (by decide) ?_
          subst hQF
          exact aw_iret rfl dX9_least_76 (by decide) (by decide) ⟨by rw [if_pos (by omega), nn_b0, if_neg t68], _, h89, rng_rf 89 89 h⟩
        · have t68 := ite_1 c68
          refine aw_iload_n 1 dX9_least_71 rfl rfl ?_
          refine aw_goto 76 dX9_least_72 (by decide) ?_
          subst hQF
          exact aw_iret rfl dX9_least_76 (by decide) (by decide) ⟨by rw [if_pos (by omega), nn_b0, if_pos t68, hz, show s = 1024 by omega], _, h89, rng_rf 89 89 h⟩
      · have d21 := mt (nv_le (a := 1024) (b := s) (rfl) (rfl) (by omega) (by omega)).mpr c21
        refine aw_iload_n 0 dX9_least_24 rfl rfl ?_
        refine aw_iload_n 2 dX9_least_25 rfl rfl ?_
        refine aw_iconst (-1) dX9_least_26 (by decide) ?_
        refine aw_ixor dX9_least_27 ?_
        refine aw_iand dX9_least_28 ?_
        refine aw_toe (nI (s &&& (1023 ^^^ b0))) (nv_andn (by omega)) ?_
        refine aw_if_ne 57 dX9_least_29 (by decide) (fun c29 => ?_) (fun c29 => ?_)
        · have d29 := mt (nv_eq (a := s &&& (1023 ^^^ b0)) (b := 0) (rfl) (rfl) (by omega) (by omega)).mpr c29
          refine aw_iinc (j := 0) (nI (s + 1)) [(3, .int (nI (s + 1))), (2, .int (nI z)), (1, .int (nI b0)), (0, .ref (G.1 + 88))] dX9_least_57 rfl (nv_inc (rfl)) (by decide) rfl ?_
          refine aw_goto 17 dX9_least_60 (by decide) ?_
          refine aw_lv [(3, .int (nI (s + 1))), (2, .int (nI z)), (1, .int (nI b0)), (0, .ref (G.1 + 88))] [0, 1, 2, 3] rfl ?_
          exact ih3523 (s + 1) z (by omega) (by omega) (by simp only [lmF]; rw [← hz, if_neg (fun q => d29 q.1)])
        · have d29 := (nv_eq (a := s &&& (1023 ^^^ b0)) (b := 0) (rfl) (rfl) (by omega) (by omega)).mp c29
          refine aw_iload_n 0 dX9_least_32 rfl rfl ?_
          refine aw_dS [.int (nI s)] [] lX9_159 sX9_bitsOf mX9_bitsOf dX9_least_33 (bX9_bitsOf (a := s) (by omega)) rfl (Nat.le_of_ble_eq_true rfl) (by decide) (by decide) rfl ?_
          refine aw_iload_n 1 dX9_least_36 rfl rfl ?_
          refine aw_dS [.int (nI z)] [.int (nI (pcF 20 s))] lX9_159 sX9_bitsOf mX9_bitsOf dX9_least_37 (bX9_bitsOf (a := z) (by omega)) rfl (Nat.le_of_ble_eq_true rfl) (by decide) (by decide) rfl ?_
          refine aw_icmp_ge 57 dX9_least_40 (by decide) (fun c40 => ?_) (fun c40 => ?_)
          · have d40 := (nv_le (a := pcF 20 z) (b := pcF 20 s) (rfl) (rfl) (by omega) (by omega)).mp c40
            refine aw_iinc (j := 0) (nI (s + 1)) [(3, .int (nI (s + 1))), (2, .int (nI z)), (1, .int (nI b0)), (0, .ref (G.1 + 88))] dX9_least_57 rfl (nv_inc (rfl)) (by decide) rfl ?_
            refine aw_goto 17 dX9_least_60 (by decide) ?_
            refine aw_lv [(3, .int (nI (s + 1))), (2, .int (nI z)), (1, .int (nI b0)), (0, .ref (G.1 + 88))] [0, 1, 2, 3] rfl ?_
            exact ih3523 (s + 1) z (by omega) (by omega) (by simp only [lmF]; rw [← hz, if_neg (fun q => by omega)])
          · have d40 := mt (nv_le (a := pcF 20 z) (b := pcF 20 s) (rfl) (rfl) (by omega) (by omega)).mpr c40
            refine aw_aload_n 3 dX9_least_43 rfl rfl ?_
            refine aw_iload_n 2 dX9_least_44 rfl rfl ?_
            refine aw_iload_n 0 dX9_least_45 rfl rfl ?_
            refine aw_iconst (-1) dX9_least_46 (by decide) ?_
            refine aw_ixor dX9_least_47 ?_
            refine aw_iand dX9_least_48 ?_
            refine aw_toe (nI (b0 &&& (1023 ^^^ s))) (nv_andn (by omega)) ?_
            refine aw_dV [.int (nI (b0 &&& (1023 ^^^ s)))] [] lX9_249 vX9_isFake mX9_isFake dX9_least_49 (bX9_isFake (sp := sp) (fa := fa) (nb := nb) (ns := ns) (nm := nm) (nv := nv) (sh := sh) (ho := ho) (ow := ow) (sl := sl) (kd := kd) (b := b0 &&& (1023 ^^^ s)) h88 h123 h124 bkd (by omega)) h88 rfl rfl rfl (Nat.le_of_ble_eq_true rfl) (by decide) (by decide) rfl ?_
            refine aw_if_ne 57 dX9_least_52 (by decide) (fun c52 => ?_) (fun c52 => ?_)
            · have t52 := ite_1 c52
              refine aw_iinc (j := 0) (nI (s + 1)) [(3, .int (nI (s + 1))), (2, .int (nI z)), (1, .int (nI b0)), (0, .ref (G.1 + 88))] dX9_least_57 rfl (nv_inc (rfl)) (by decide) rfl ?_
              refine aw_goto 17 dX9_least_60 (by decide) ?_
              refine aw_lv [(3, .int (nI (s + 1))), (2, .int (nI z)), (1, .int (nI b0)), (0, .ref (G.1 + 88))] [0, 1, 2, 3] rfl ?_
              exact ih3523 (s + 1) z (by omega) (by omega) (by simp only [lmF]; rw [← hz, if_neg (fun q => q.2.2 t52)])
            · have t52 := ite_0 c52
              refine aw_iload_n 0 dX9_least_55 rfl rfl ?_
              refine aw_istore_n [(2, .int (nI s)), (3, .int (nI s)), (1, .int (nI b0)), (0, .ref (G.1 + 88))] dX9_least_56 rfl (by decide) rfl ?_
              refine aw_iinc (j := 1) (nI (s + 1)) [(3, .int (nI (s + 1))), (2, .int (nI s)), (1, .int (nI b0)), (0, .ref (G.1 + 88))] dX9_least_57 rfl (nv_inc (rfl)) (by decide) rfl ?_
              refine aw_goto 17 dX9_least_60 (by decide) ?_
              refine aw_lv [(3, .int (nI (s + 1))), (2, .int (nI s)), (1, .int (nI b0)), (0, .ref (G.1 + 88))] [0, 1, 2, 3] rfl ?_
              exact ih3523 (s + 1) s (by omega) (by omega) (by simp only [lmF]; rw [← hz, if_pos ⟨by omega, by omega, t52⟩])
  · have t4 := ite_0 c4
    refine aw_aload_n 0 dX9_least_7 rfl rfl ?_
    refine aw_iconst (-1) dX9_least_8 (by decide) ?_
    refine aw_eV [.int (-1)] [] lX9_130 vX9_refuse mX9_refuse dX9_least_9 (bX9_refuse (sp := sp) (fa := fa) (nb := nb) (ns := ns) (nm := nm) (nv := nv) (sh := sh) (ho := ho) (ow := ow) (sl := sl) (rg := rg) (x := (-1)) (q := 1) h88 h89 (by decide) (by decide)) h88 rfl rfl rfl (Nat.le_of_ble_eq_true rfl) (by decide) (by decide) rfl (fun h3526 q3525 => ?_)
    obtain ⟨rg13524, f3527, k3528⟩ := q3525
    have f3529 := rng_at k3528 (by decide) h88
    have f3530 := rng_at k3528 (by decide) h123
    have f3531 := rng_at k3528 (by decide) h124
    subst hQF
    exact aw_iret rfl dX9_least_12 (by decide) (by decide) ⟨by rw [if_neg (by omega)], _, f3527, rng_tr (rng_rf 89 89 h) (rng_w k3528 (by decide) (by decide))⟩
