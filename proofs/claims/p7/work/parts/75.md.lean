set_option maxHeartbeats 4000000 in
theorem oX9_set {l : Launch} {G : xG} {h : List va_E} {sp fa nb ns nm nv sh : Nat} {ho ow sl : Int32} {rg : Nat → Int32} {q v : Int32} (h88 : h[88]? = some (oB 9 (lM G (nI sp) (nI fa) (nI nb) (nI ns) (nI nm) ho ow sl (nI nv) (nI sh)))) (h89 : h[89]? = some (aI 7 rg))  : CE l G yX9_set cX9_set 5 (some .int) 2 0 0 [.ref (G.1 + 88), .int q, .int v] h (some (.int ((spSet sp fa q v).1))) (fun h1 => ∃ rg1 : Nat → Int32, h1[88]? = some (oB 9 (lM G (nI ((spSet sp fa q v).2.1)) (nI ((spSet sp fa q v).2.2)) (nI nb) (nI ns) (nI nm) ho ow sl (nI nv) (nI sh))) ∧ h1[89]? = some (aI 7 rg1) ∧ rng 88 89 h h1) := by
  refine cm_ofQ rfl (Nat.le_of_ble_eq_true rfl) [(0, .ref (G.1 + 88)), (1, .int q), (2, .int v)] rfl (fun QF hQF => ?_)
  refine aw_iload_n 1 dX9_set_0 rfl rfl ?_
  refine aw_iconst (2) dX9_set_1 (by decide) ?_
  refine aw_dS [.int q, .int 2] [] lX9_126 sX9_isIn mX9_isIn dX9_set_2 (bX9_isIn (x := q) (n := 2) (by omega)) rfl (Nat.le_of_ble_eq_true rfl) (by decide) (by decide) rfl ?_
  refine aw_if_eq 27 dX9_set_5 (by decide) (fun c5 => ?_) (fun c5 => ?_)
  · have t5 := ite_0 c5
    refine aw_bipush (-2) dX9_set_27 (by decide) ?_
    refine aw_istore_n [(3, .int (-2)), (0, .ref (G.1 + 88)), (1, .int q), (2, .int v)] dX9_set_29 rfl (by decide) rfl ?_
    refine aw_iload_n 0 dX9_set_30 rfl rfl ?_
    refine aw_if_eq 40 dX9_set_31 (by decide) (fun c31 => absurd c31 (by decide)) (fun c31 => ?_)
    refine aw_aload_n 1 dX9_set_34 rfl rfl ?_
    refine aw_iload_n 0 dX9_set_35 rfl rfl ?_
    refine aw_eV [.int (-2)] [] lX9_130 vX9_refuse mX9_refuse dX9_set_36 (bX9_refuse (sp := sp) (fa := fa) (nb := nb) (ns := ns) (nm := nm) (nv := nv) (sh := sh) (ho := ho) (ow := ow) (sl := sl) (rg := rg) (x := (-2)) (q := 2) h88 h89 (by decide) (by decide)) h88 rfl rfl rfl (Nat.le_of_ble_eq_true rfl) (by decide) (by decide) rfl (fun h1492 q1491 => ?_)
    obtain ⟨rg11490, f1493, k1494⟩ := q1491
    have f1495 := rng_at k1494 (by decide) h88
    subst hQF
    have eS : spSet sp fa q v = ((-2), sp, fa) := by unfold spSet; (repeat' split) <;> first | (exfalso; omega) | rfl
    exact aw_iret rfl dX9_set_39 (by decide) (by decide) ⟨by rw [eS], _, by rw [eS]; exact f1495, f1493, rng_tr (rng_rf 88 89 h) (rng_w k1494 (by decide) (by decide))⟩
  · have t5 := ite_1 c5
    refine aw_iload_n 2 dX9_set_8 rfl rfl ?_
    refine aw_iconst (0) dX9_set_9 (by decide) ?_
    refine aw_iload_n 1 dX9_set_10 rfl rfl ?_
    refine aw_if_ne 19 dX9_set_11 (by decide) (fun c11 => ?_) (fun c11 => ?_)
    · have d11 := mt (j_eq (a := q.toInt) (b := (0)) (rfl) (rfl)).mpr c11
      refine aw_bipush (9) dX9_set_19 (by decide) ?_
      refine aw_dS [.int v, .int 0, .int 9] [] lX9_137 sX9_wrong mX9_wrong dX9_set_21 (bX9_wrong (x := v) (y := 0) (z := 9) ) rfl (Nat.le_of_ble_eq_true rfl) (by decide) (by decide) rfl ?_
      refine aw_goto 29 dX9_set_24 (by decide) ?_
      refine aw_istore_n [(3, .int (wrF v 0 9)), (0, .ref (G.1 + 88)), (1, .int q), (2, .int v)] dX9_set_29 rfl (by decide) rfl ?_
      refine aw_iload_n 0 dX9_set_30 rfl rfl ?_
      refine aw_if_eq 40 dX9_set_31 (by decide) (fun c31 => ?_) (fun c31 => ?_)
      · have d31 := (j_eq (a := (wrF v 0 9).toInt) (b := (0)) (rfl) (rfl)).mp c31
        refine aw_iload_n 2 dX9_set_40 rfl rfl ?_
        refine aw_if_ne 51 dX9_set_41 (by decide) (fun c41 => ?_) (fun c41 => absurd c41 (c11))
        refine aw_aload_n 1 dX9_set_51 rfl rfl ?_
        refine aw_get fX9_44 dX9_set_52 h88 rfl ?_
        refine aw_istore [(4, .int (nI fa)), (3, .int (wrF v 0 9)), (0, .ref (G.1 + 88)), (1, .int q), (2, .int v)] dX9_set_55 (by decide) rfl ?_
        refine aw_iload_n 3 dX9_set_57 rfl rfl ?_
        refine aw_if_ne 69 dX9_set_58 (by decide) (fun c58 => ?_) (fun c58 => absurd c58 (c11))
        have hw : 0 ≤ v.toInt ∧ v.toInt ≤ 9 := wrF_0 c31
        obtain ⟨a, bb_a, ee_a⟩ := i_nat (x := v) (N := 10) (by omega) (by omega)
        subst ee_a
        have tt_a : (nI a).toInt = (a : Int) := nI_toInt (by omega)
        have nn_a : tn (nI a) = a := tn_nI (by omega)
        refine aw_aload_n 2 dX9_set_69 rfl rfl ?_
        refine aw_iload_n 4 dX9_set_70 rfl rfl ?_
        refine aw_putQ fX9_44 dX9_set_71 (lM G (nI sp) (nI a) (nI nb) (nI ns) (nI nm) ho ow sl (nI nv) (nI sh)) h88 rfl rfl rfl (Nat.le_of_ble_eq_true rfl) rfl ?_
        refine aw_iload 0 dX9_set_74 rfl ?_
        subst hQF
        have eS : spSet sp fa q (nI a) = ((nI fa), sp, a) := by unfold spSet; (repeat' split) <;> first | (exfalso; omega) | rfl | (simp only [nn_a]; done)
        exact aw_iret rfl dX9_set_76 (by decide) (by decide) ⟨by rw [eS], _, by rw [eS]; exact (gs h88), (gn (by decide) (h89)), rng_set (rng_rf 88 89 h) (by decide) (by decide)⟩
      · have d31 := mt (j_eq (a := (wrF v 0 9).toInt) (b := (0)) (rfl) (rfl)).mpr c31
        refine aw_aload_n 1 dX9_set_34 rfl rfl ?_
        refine aw_iload_n 0 dX9_set_35 rfl rfl ?_
        obtain ⟨q1496, bq1496, eq1496⟩ := Or.resolve_left (wrF_q v 0 9) (by assumption)
        refine aw_eV [.int (wrF v 0 9)] [] lX9_130 vX9_refuse mX9_refuse dX9_set_36 (bX9_refuse (sp := sp) (fa := fa) (nb := nb) (ns := ns) (nm := nm) (nv := nv) (sh := sh) (ho := ho) (ow := ow) (sl := sl) (rg := rg) (x := (wrF v 0 9)) (q := q1496) h88 h89 bq1496 eq1496) h88 rfl rfl rfl (Nat.le_of_ble_eq_true rfl) (by decide) (by decide) rfl (fun h1499 q1498 => ?_)
        obtain ⟨rg11497, f1500, k1501⟩ := q1498
        have f1502 := rng_at k1501 (by decide) h88
        subst hQF
        have q9 := wrF_r v 0 9 (by assumption)
        try simp only [k_n.1, k_n.2.1, k_n.2.2.1, k_n.2.2.2.1, k_n.2.2.2.2.1, k_n.2.2.2.2.2.1, k_n.2.2.2.2.2.2] at q9
        have eS : spSet sp fa q v = ((wrF v 0 9), sp, fa) := by unfold spSet; unfold wrF; (try simp only [k_n.1, k_n.2.1, k_n.2.2.1, k_n.2.2.2.1, k_n.2.2.2.2.1, k_n.2.2.2.2.2.1, k_n.2.2.2.2.2.2]); (repeat' split) <;> first | (exfalso; omega) | rfl
        exact aw_iret rfl dX9_set_39 (by decide) (by decide) ⟨by rw [eS], _, by rw [eS]; exact f1502, f1500, rng_tr (rng_rf 88 89 h) (rng_w k1501 (by decide) (by decide))⟩
    · have d11 := (j_eq (a := q.toInt) (b := (0)) (rfl) (rfl)).mp c11
      refine aw_bipush (50) dX9_set_14 (by decide) ?_
      refine aw_goto 21 dX9_set_16 (by decide) ?_
      refine aw_dS [.int v, .int 0, .int 50] [] lX9_137 sX9_wrong mX9_wrong dX9_set_21 (bX9_wrong (x := v) (y := 0) (z := 50) ) rfl (Nat.le_of_ble_eq_true rfl) (by decide) (by decide) rfl ?_
      refine aw_goto 29 dX9_set_24 (by decide) ?_
      refine aw_istore_n [(3, .int (wrF v 0 50)), (0, .ref (G.1 + 88)), (1, .int q), (2, .int v)] dX9_set_29 rfl (by decide) rfl ?_
      refine aw_iload_n 0 dX9_set_30 rfl rfl ?_
      refine aw_if_eq 40 dX9_set_31 (by decide) (fun c31 => ?_) (fun c31 => ?_)
      · have d31 := (j_eq (a := (wrF v 0 50).toInt) (b := (0)) (rfl) (rfl)).mp c31
        refine aw_iload_n 2 dX9_set_40 rfl rfl ?_
        refine aw_if_ne 51 dX9_set_41 (by decide) (fun c41 => absurd (c11) c41) (fun c41 => ?_)
        refine aw_aload_n 1 dX9_set_44 rfl rfl ?_
        refine aw_get fX9_40 dX9_set_45 h88 rfl ?_
        refine aw_goto 55 dX9_set_48 (by decide) ?_
        refine aw_istore [(4, .int (nI sp)), (3, .int (wrF v 0 50)), (0, .ref (G.1 + 88)), (1, .int q), (2, .int v)] dX9_set_55 (by decide) rfl ?_
        refine aw_iload_n 3 dX9_set_57 rfl rfl ?_
        refine aw_if_ne 69 dX9_set_58 (by decide) (fun c58 => absurd (c11) c58) (fun c58 => ?_)
        have hw : 0 ≤ v.toInt ∧ v.toInt ≤ 50 := wrF_0 c31
        obtain ⟨a, bb_a, ee_a⟩ := i_nat (x := v) (N := 51) (by omega) (by omega)
        subst ee_a
        have tt_a : (nI a).toInt = (a : Int) := nI_toInt (by omega)
        have nn_a : tn (nI a) = a := tn_nI (by omega)
        refine aw_aload_n 2 dX9_set_61 rfl rfl ?_
        refine aw_iload_n 4 dX9_set_62 rfl rfl ?_
        refine aw_putQ fX9_40 dX9_set_63 (lM G (nI a) (nI fa) (nI nb) (nI ns) (nI nm) ho ow sl (nI nv) (nI sh)) h88 rfl rfl rfl (Nat.le_of_ble_eq_true rfl) rfl ?_
        refine aw_goto 74 dX9_set_66 (by decide) ?_
        refine aw_iload 0 dX9_set_74 rfl ?_
        subst hQF
        have eS : spSet sp fa q (nI a) = ((nI sp), a, fa) := by unfold spSet; (repeat' split) <;> first | (exfalso; omega) | rfl | (simp only [nn_a]; done)
        exact aw_iret rfl dX9_set_76 (by decide) (by decide) ⟨by rw [eS], _, by rw [eS]; exact (gs h88), (gn (by decide) (h89)), rng_set (rng_rf 88 89 h) (by decide) (by decide)⟩
      · have d31 := mt (j_eq (a := (wrF v 0 50).toInt) (b := (0)) (rfl) (rfl)).mpr c31
        refine aw_aload_n 1 dX9_set_34 rfl rfl ?_
        refine aw_iload_n 0 dX9_set_35 rfl rfl ?_
        obtain ⟨q1503, bq1503, eq1503⟩ := Or.resolve_left (wrF_q v 0 50) (by assumption)
        refine aw_eV [.int (wrF v 0 50)] [] lX9_130 vX9_refuse mX9_refuse dX9_set_36 (bX9_refuse (sp := sp) (fa := fa) (nb := nb) (ns := ns) (nm := nm) (nv := nv) (sh := sh) (ho := ho) (ow := ow) (sl := sl) (rg := rg) (x := (wrF v 0 50)) (q := q1503) h88 h89 bq1503 eq1503) h88 rfl rfl rfl (Nat.le_of_ble_eq_true rfl) (by decide) (by decide) rfl (fun h1506 q1505 => ?_)
        obtain ⟨rg11504, f1507, k1508⟩ := q1505
        have f1509 := rng_at k1508 (by decide) h88
        subst hQF
        have q9 := wrF_r v 0 50 (by assumption)
        try simp only [k_n.1, k_n.2.1, k_n.2.2.1, k_n.2.2.2.1, k_n.2.2.2.2.1, k_n.2.2.2.2.2.1, k_n.2.2.2.2.2.2] at q9
        have eS : spSet sp fa q v = ((wrF v 0 50), sp, fa) := by unfold spSet; unfold wrF; (try simp only [k_n.1, k_n.2.1, k_n.2.2.1, k_n.2.2.2.1, k_n.2.2.2.2.1, k_n.2.2.2.2.2.1, k_n.2.2.2.2.2.2]); (repeat' split) <;> first | (exfalso; omega) | rfl
        exact aw_iret rfl dX9_set_39 (by decide) (by decide) ⟨by rw [eS], _, by rw [eS]; exact f1509, f1507, rng_tr (rng_rf 88 89 h) (rng_w k1508 (by decide) (by decide))⟩
