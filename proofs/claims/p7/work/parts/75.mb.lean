set_option maxHeartbeats 4000000 in
theorem oX9_year {l : Launch} {G : xG} {h : List va_E} {sp fa nb ns nm nv sh : Nat} {ho ow sl : Int32} {rg : Nat → Int32} {ye : Nat → Nat} {c y : Int32} (h88 : h[88]? = some (oB 9 (lM G (nI sp) (nI fa) (nI nb) (nI ns) (nI nm) ho ow sl (nI nv) (nI sh)))) (h89 : h[89]? = some (aI 7 rg)) (h91 : h[91]? = some (aI 4 (nA ye))) (hye : ∀ j, j < 4 → ye j < 1901) : CE l G yX9_year cX9_year 5 (some .int) 2 0 0 [.ref (G.1 + 88), .int c, .int y] h (some (.int ((spYear ye c y).1))) (fun h1 => ∃ rg1 : Nat → Int32, h1[91]? = some (aI 4 (nA (spYear ye c y).2)) ∧ h1[89]? = some (aI 7 rg1) ∧ rg2 89 89 91 91 h h1) := by
  refine cm_ofQ rfl (Nat.le_of_ble_eq_true rfl) [(0, .ref (G.1 + 88)), (1, .int c), (2, .int y)] rfl (fun QF hQF => ?_)
  refine aw_iload_n 1 dX9_year_0 rfl rfl ?_
  refine aw_iconst (4) dX9_year_1 (by decide) ?_
  refine aw_dS [.int c, .int 4] [] lX9_126 sX9_isIn mX9_isIn dX9_year_2 (bX9_isIn (x := c) (n := 4) (by omega)) rfl (Nat.le_of_ble_eq_true rfl) (by decide) (by decide) rfl ?_
  refine aw_if_eq 21 dX9_year_5 (by decide) (fun c5 => ?_) (fun c5 => ?_)
  · have t5 := ite_0 c5
    refine aw_iconst (-1) dX9_year_21 (by decide) ?_
    refine aw_istore_n [(3, .int (-1)), (0, .ref (G.1 + 88)), (1, .int c), (2, .int y)] dX9_year_22 rfl (by decide) rfl ?_
    refine aw_iload_n 0 dX9_year_23 rfl rfl ?_
    refine aw_if_eq 33 dX9_year_24 (by decide) (fun c24 => absurd c24 (by decide)) (fun c24 => ?_)
    refine aw_aload_n 1 dX9_year_27 rfl rfl ?_
    refine aw_iload_n 0 dX9_year_28 rfl rfl ?_
    refine aw_eV [.int (-1)] [] lX9_130 vX9_refuse mX9_refuse dX9_year_29 (bX9_refuse (sp := sp) (fa := fa) (nb := nb) (ns := ns) (nm := nm) (nv := nv) (sh := sh) (ho := ho) (ow := ow) (sl := sl) (rg := rg) (x := (-1)) (q := 1) h88 h89 (by decide) (by decide)) h88 rfl rfl rfl (Nat.le_of_ble_eq_true rfl) (by decide) (by decide) rfl (fun h1352 q1351 => ?_)
    obtain ⟨rg11350, f1353, k1354⟩ := q1351
    have f1355 := rng_at k1354 (by decide) h88
    have f1356 := rng_at k1354 (by decide) h91
    subst hQF
    have eS : spYear ye c y = ((-1), ye) := by unfold spYear; (repeat' split) <;> first | (exfalso; omega) | rfl
    exact aw_iret rfl dX9_year_32 (by decide) (by decide) ⟨by rw [eS], _, by rw [eS]; exact f1356, f1353, rg2_tr (rg2_rf 89 89 91 91 h) (rg2_w k1354 (by decide))⟩
  · have t5 := ite_1 c5
    refine aw_iload_n 2 dX9_year_8 rfl rfl ?_
    refine aw_sipush (1500) dX9_year_9 (by decide) ?_
    refine aw_sipush (1900) dX9_year_12 (by decide) ?_
    refine aw_dS [.int y, .int 1500, .int 1900] [] lX9_137 sX9_wrong mX9_wrong dX9_year_15 (bX9_wrong (x := y) (y := 1500) (z := 1900) ) rfl (Nat.le_of_ble_eq_true rfl) (by decide) (by decide) rfl ?_
    refine aw_goto 22 dX9_year_18 (by decide) ?_
    refine aw_istore_n [(3, .int (wrF y 1500 1900)), (0, .ref (G.1 + 88)), (1, .int c), (2, .int y)] dX9_year_22 rfl (by decide) rfl ?_
    refine aw_iload_n 0 dX9_year_23 rfl rfl ?_
    refine aw_if_eq 33 dX9_year_24 (by decide) (fun c24 => ?_) (fun c24 => ?_)
    · have d24 := (j_eq (a := (wrF y 1500 1900).toInt) (b := (0)) (rfl) (rfl)).mp c24
      have hw : 1500 ≤ y.toInt ∧ y.toInt ≤ 1900 := wrF_0 c24
      obtain ⟨a, bb_a, ee_a⟩ := i_nat (x := c) (N := 4) (by omega) (by omega)
      subst ee_a
      have tt_a : (nI a).toInt = (a : Int) := nI_toInt (by omega)
      have nn_a : tn (nI a) = a := tn_nI (by omega)
      obtain ⟨b, bb_b, ee_b⟩ := i_nat (x := y) (N := 1901) (by omega) (by omega)
      subst ee_b
      have tt_b : (nI b).toInt = (b : Int) := nI_toInt (by omega)
      have nn_b : tn (nI b) = b := tn_nI (by omega)
      refine aw_aload_n 1 dX9_year_33 rfl rfl ?_
      refine aw_get fX9_16 dX9_year_34 h88 rfl ?_
      refine aw_iload_n 2 dX9_year_37 rfl rfl ?_
      refine aw_iald a (rfl) (by omega) (by decide) dX9_year_38 h91 ?_
      refine aw_toe (nI (ye a)) (rfl) ?_
      refine aw_istore [(4, .int (nI (ye a))), (3, .int (wrF (nI b) 1500 1900)), (0, .ref (G.1 + 88)), (1, .int (nI a)), (2, .int (nI b))] dX9_year_39 (by decide) rfl ?_
      refine aw_aload_n 2 dX9_year_41 rfl rfl ?_
      refine aw_get fX9_16 dX9_year_42 h88 rfl ?_
      refine aw_iload_n 3 dX9_year_45 rfl rfl ?_
      refine aw_iload_n 4 dX9_year_46 rfl rfl ?_
      refine aw_iast a (rfl) (by omega) (by decide) dX9_year_47 h91 ?_
      rw [nA_u (f := ye) (i := a) (x := (nI b)) (v := b) (rfl)]
      refine aw_iload 0 dX9_year_48 rfl ?_
      subst hQF
      have eS : spYear ye (nI a) (nI b) = ((nI (ye a)), un ye a b) := by unfold spYear; (repeat' split) <;> first | (exfalso; omega) | rfl | (simp only [nn_a, nn_b]; done)
      exact aw_iret rfl dX9_year_50 (by decide) (by decide) ⟨by rw [eS], _, by rw [eS]; exact (gs h91), (gn (by decide) (h89)), rg2_set (rg2_rf 89 89 91 91 h) (by decide)⟩
    · have d24 := mt (j_eq (a := (wrF y 1500 1900).toInt) (b := (0)) (rfl) (rfl)).mpr c24
      refine aw_aload_n 1 dX9_year_27 rfl rfl ?_
      refine aw_iload_n 0 dX9_year_28 rfl rfl ?_
      obtain ⟨q1357, bq1357, eq1357⟩ := Or.resolve_left (wrF_q y 1500 1900) (by assumption)
      refine aw_eV [.int (wrF y 1500 1900)] [] lX9_130 vX9_refuse mX9_refuse dX9_year_29 (bX9_refuse (sp := sp) (fa := fa) (nb := nb) (ns := ns) (nm := nm) (nv := nv) (sh := sh) (ho := ho) (ow := ow) (sl := sl) (rg := rg) (x := (wrF y 1500 1900)) (q := q1357) h88 h89 bq1357 eq1357) h88 rfl rfl rfl (Nat.le_of_ble_eq_true rfl) (by decide) (by decide) rfl (fun h1360 q1359 => ?_)
      obtain ⟨rg11358, f1361, k1362⟩ := q1359
      have f1363 := rng_at k1362 (by decide) h88
      have f1364 := rng_at k1362 (by decide) h91
      subst hQF
      have q9 := wrF_r y 1500 1900 (by assumption)
      try simp only [k_n.1, k_n.2.1, k_n.2.2.1, k_n.2.2.2.1, k_n.2.2.2.2.1, k_n.2.2.2.2.2.1, k_n.2.2.2.2.2.2] at q9
      have eS : spYear ye c y = ((wrF y 1500 1900), ye) := by unfold spYear; unfold wrF; (try simp only [k_n.1, k_n.2.1, k_n.2.2.1, k_n.2.2.2.1, k_n.2.2.2.2.1, k_n.2.2.2.2.2.1, k_n.2.2.2.2.2.2]); (repeat' split) <;> first | (exfalso; omega) | rfl
      exact aw_iret rfl dX9_year_32 (by decide) (by decide) ⟨by rw [eS], _, by rw [eS]; exact f1364, f1361, rg2_tr (rg2_rf 89 89 91 91 h) (rg2_w k1362 (by decide))⟩
