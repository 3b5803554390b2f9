set_option maxHeartbeats 4000000 in
theorem oX9_part {l : Launch} {G : xG} {h : List va_E} {sp fa nb ns nm nv sh : Nat} {ho ow sl : Int32} {rg : Nat → Int32} {kd : Nat → Nat} {p v : Int32} (h88 : h[88]? = some (oB 9 (lM G (nI sp) (nI fa) (nI nb) (nI ns) (nI nm) ho ow sl (nI nv) (nI sh)))) (h89 : h[89]? = some (aI 7 rg)) (h123 : h[123]? = some (aI 10 (nA kd)))  : CE l G yX9_part cX9_part 5 (some .int) 2 0 0 [.ref (G.1 + 88), .int p, .int v] h (some (.int ((spPart kd p v).1))) (fun h1 => ∃ rg1 : Nat → Int32, h1[123]? = some (aI 10 (nA (spPart kd p v).2)) ∧ h1[89]? = some (aI 7 rg1) ∧ rg2 89 89 123 123 h h1) := by
  refine cm_ofQ rfl (Nat.le_of_ble_eq_true rfl) [(0, .ref (G.1 + 88)), (1, .int p), (2, .int v)] rfl (fun QF hQF => ?_)
  refine aw_iload_n 1 dX9_part_0 rfl rfl ?_
  refine aw_bipush (10) dX9_part_1 (by decide) ?_
  refine aw_dS [.int p, .int 10] [] lX9_126 sX9_isIn mX9_isIn dX9_part_3 (bX9_isIn (x := p) (n := 10) (by omega)) rfl (Nat.le_of_ble_eq_true rfl) (by decide) (by decide) rfl ?_
  refine aw_if_eq 18 dX9_part_6 (by decide) (fun c6 => ?_) (fun c6 => ?_)
  · have t6 := ite_0 c6
    refine aw_iconst (-1) dX9_part_18 (by decide) ?_
    refine aw_istore_n [(3, .int (-1)), (0, .ref (G.1 + 88)), (1, .int p), (2, .int v)] dX9_part_19 rfl (by decide) rfl ?_
    refine aw_iload_n 0 dX9_part_20 rfl rfl ?_
    refine aw_if_eq 30 dX9_part_21 (by decide) (fun c21 => absurd c21 (by decide)) (fun c21 => ?_)
    refine aw_aload_n 1 dX9_part_24 rfl rfl ?_
    refine aw_iload_n 0 dX9_part_25 rfl rfl ?_
    refine aw_eV [.int (-1)] [] lX9_130 vX9_refuse mX9_refuse dX9_part_26 (bX9_refuse (sp := sp) (fa := fa) (nb := nb) (ns := ns) (nm := nm) (nv := nv) (sh := sh) (ho := ho) (ow := ow) (sl := sl) (rg := rg) (x := (-1)) (q := 1) h88 h89 (by decide) (by decide)) h88 rfl rfl rfl (Nat.le_of_ble_eq_true rfl) (by decide) (by decide) rfl (fun h1512 q1511 => ?_)
    obtain ⟨rg11510, f1513, k1514⟩ := q1511
    have f1515 := rng_at k1514 (by decide) h88
    have f1516 := rng_at k1514 (by decide) h123
    subst hQF
    have eS : spPart kd p v = ((-1), kd) := by unfold spPart; (repeat' split) <;> first | (exfalso; omega) | rfl
    exact aw_iret rfl dX9_part_29 (by decide) (by decide) ⟨by rw [eS], _, by rw [eS]; exact f1516, f1513, rg2_tr (rg2_rf 89 89 123 123 h) (rg2_w k1514 (by decide))⟩
  · have t6 := ite_1 c6
    refine aw_iload_n 2 dX9_part_9 rfl rfl ?_
    refine aw_iconst (0) dX9_part_10 (by decide) ?_
    refine aw_iconst (5) dX9_part_11 (by decide) ?_
    refine aw_dS [.int v, .int 0, .int 5] [] lX9_137 sX9_wrong mX9_wrong dX9_part_12 (bX9_wrong (x := v) (y := 0) (z := 5) ) rfl (Nat.le_of_ble_eq_true rfl) (by decide) (by decide) rfl ?_
    refine aw_goto 19 dX9_part_15 (by decide) ?_
    refine aw_istore_n [(3, .int (wrF v 0 5)), (0, .ref (G.1 + 88)), (1, .int p), (2, .int v)] dX9_part_19 rfl (by decide) rfl ?_
    refine aw_iload_n 0 dX9_part_20 rfl rfl ?_
    refine aw_if_eq 30 dX9_part_21 (by decide) (fun c21 => ?_) (fun c21 => ?_)
    · have d21 := (j_eq (a := (wrF v 0 5).toInt) (b := (0)) (rfl) (rfl)).mp c21
      have hw : 0 ≤ v.toInt ∧ v.toInt ≤ 5 := wrF_0 c21
      obtain ⟨a, bb_a, ee_a⟩ := i_nat (x := p) (N := 10) (by omega) (by omega)
      subst ee_a
      have tt_a : (nI a).toInt = (a : Int) := nI_toInt (by omega)
      have nn_a : tn (nI a) = a := tn_nI (by omega)
      obtain ⟨b, bb_b, ee_b⟩ := i_nat (x := v) (N := 6) (by omega) (by omega)
      subst ee_b
      have tt_b : (nI b).toInt = (b : Int) := nI_toInt (by omega)
      have nn_b : tn (nI b) = b := tn_nI (by omega)
      refine aw_aload_n 1 dX9_part_30 rfl rfl ?_
      refine aw_get fX9_119 dX9_part_31 h88 rfl ?_
      refine aw_iload_n 2 dX9_part_34 rfl rfl ?_
      refine aw_iald a (rfl) (by omega) (by decide) dX9_part_35 h123 ?_
      refine aw_toe (nI (kd a)) (rfl) ?_
      refine aw_istore [(4, .int (nI (kd a))), (3, .int (wrF (nI b) 0 5)), (0, .ref (G.1 + 88)), (1, .int (nI a)), (2, .int (nI b))] dX9_part_36 (by decide) rfl ?_
      refine aw_aload_n 2 dX9_part_38 rfl rfl ?_
      refine aw_get fX9_119 dX9_part_39 h88 rfl ?_
      refine aw_iload_n 3 dX9_part_42 rfl rfl ?_
      refine aw_iload_n 4 dX9_part_43 rfl rfl ?_
      refine aw_iast a (rfl) (by omega) (by decide) dX9_part_44 h123 ?_
      rw [nA_u (f := kd) (i := a) (x := (nI b)) (v := b) (rfl)]
      refine aw_iload 0 dX9_part_45 rfl ?_
      subst hQF
      have eS : spPart kd (nI a) (nI b) = ((nI (kd a)), un kd a b) := by unfold spPart; (repeat' split) <;> first | (exfalso; omega) | rfl | (simp only [nn_a, nn_b]; done)
      exact aw_iret rfl dX9_part_47 (by decide) (by decide) ⟨by rw [eS], _, by rw [eS]; exact (gs h123), (gn (by decide) (h89)), rg2_set (rg2_rf 89 89 123 123 h) (by decide)⟩
    · have d21 := mt (j_eq (a := (wrF v 0 5).toInt) (b := (0)) (rfl) (rfl)).mpr c21
      refine aw_aload_n 1 dX9_part_24 rfl rfl ?_
      refine aw_iload_n 0 dX9_part_25 rfl rfl ?_
      obtain ⟨q1517, bq1517, eq1517⟩ := Or.resolve_left (wrF_q v 0 5) (by assumption)
      refine aw_eV [.int (wrF v 0 5)] [] lX9_130 vX9_refuse mX9_refuse dX9_part_26 (bX9_refuse (sp := sp) (fa := fa) (nb := nb) (ns := ns) (nm := nm) (nv := nv) (sh := sh) (ho := ho) (ow := ow) (sl := sl) (rg := rg) (x := (wrF v 0 5)) (q := q1517) h88 h89 bq1517 eq1517) h88 rfl rfl rfl (Nat.le_of_ble_eq_true rfl) (by decide) (by decide) rfl (fun h1520 q1519 => ?_)
      obtain ⟨rg11518, f1521, k1522⟩ := q1519
      have f1523 := rng_at k1522 (by decide) h88
      have f1524 := rng_at k1522 (by decide) h123
      subst hQF
      have q9 := wrF_r v 0 5 (by assumption)
      try simp only [k_n.1, k_n.2.1, k_n.2.2.1, k_n.2.2.2.1, k_n.2.2.2.2.1, k_n.2.2.2.2.2.1, k_n.2.2.2.2.2.2] at q9
      have eS : spPart kd p v = ((wrF v 0 5), kd) := by unfold spPart; unfold wrF; (try simp only [k_n.1, k_n.2.1, k_n.2.2.1, k_n.2.2.2.1, k_n.2.2.2.2.1, k_n.2.2.2.2.2.1, k_n.2.2.2.2.2.2]); (repeat' split) <;> first | (exfalso; omega) | rfl
      exact aw_iret rfl dX9_part_29 (by decide) (by decide) ⟨by rw [eS], _, by rw [eS]; exact f1524, f1521, rg2_tr (rg2_rf 89 89 123 123 h) (rg2_w k1522 (by decide))⟩
