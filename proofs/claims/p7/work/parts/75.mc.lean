set_option maxHeartbeats 4000000 in
theorem oX9_entry {l : Launch} {G : xG} {h : List va_E} {sp fa nb ns nm nv sh : Nat} {ho ow sl : Int32} {rg : Nat → Int32} {fi : Nat → Nat} {W Z Ro Co : Nat → Int32} {c w s r u : Int32} (h88 : h[88]? = some (oB 9 (lM G (nI sp) (nI fa) (nI nb) (nI ns) (nI nm) ho ow sl (nI nv) (nI sh)))) (h89 : h[89]? = some (aI 7 rg)) (h92 : h[92]? = some (aI 4 (nA fi))) (h93 : h[93]? = some (aI 40 W)) (h94 : h[94]? = some (aI 40 Z)) (h95 : h[95]? = some (aI 40 Ro)) (h96 : h[96]? = some (aI 40 Co)) (hfi : ∀ j, j < 4 → fi j < 11) : CE l G yX9_entry cX9_entry 7 (some .int) 2 0 0 [.ref (G.1 + 88), .int c, .int w, .int s, .int r, .int u] h (some (.int (spEntryC fi c w s r u))) (fun h1 => ∃ rg1 : Nat → Int32, h1[92]? = some (aI 4 (nA (spUn (0 ≤ (spEntryC fi c w s r u).toInt) fi (tn c) (fi (tn c) + 1)))) ∧ h1[93]? = some (aI 40 (spUp fi c (0 ≤ (spEntryC fi c w s r u).toInt) W w)) ∧ h1[94]? = some (aI 40 (spUp fi c (0 ≤ (spEntryC fi c w s r u).toInt) Z s)) ∧ h1[95]? = some (aI 40 (spUp fi c (0 ≤ (spEntryC fi c w s r u).toInt) Ro r)) ∧ h1[96]? = some (aI 40 (spUp fi c (0 ≤ (spEntryC fi c w s r u).toInt) Co u)) ∧ h1[89]? = some (aI 7 rg1) ∧ rg2 89 89 92 96 h h1) := by
  refine cm_ofQ rfl (Nat.le_of_ble_eq_true rfl) [(0, .ref (G.1 + 88)), (1, .int c), (2, .int w), (3, .int s), (4, .int r), (5, .int u)] rfl (fun QF hQF => ?_)
  refine aw_iload_n 1 dX9_entry_0 rfl rfl ?_
  refine aw_iconst (4) dX9_entry_1 (by decide) ?_
  refine aw_dS [.int c, .int 4] [] lX9_126 sX9_isIn mX9_isIn dX9_entry_2 (bX9_isIn (x := c) (n := 4) (by omega)) rfl (Nat.le_of_ble_eq_true rfl) (by decide) (by decide) rfl ?_
  refine aw_if_eq 18 dX9_entry_5 (by decide) (fun c5 => ?_) (fun c5 => ?_)
  · have t5 := ite_0 c5
    refine aw_aload_n 0 dX9_entry_18 rfl rfl ?_
    refine aw_iconst (-1) dX9_entry_19 (by decide) ?_
    refine aw_eV [.int (-1)] [] lX9_130 vX9_refuse mX9_refuse dX9_entry_20 (bX9_refuse (sp := sp) (fa := fa) (nb := nb) (ns := ns) (nm := nm) (nv := nv) (sh := sh) (ho := ho) (ow := ow) (sl := sl) (rg := rg) (x := (-1)) (q := 1) h88 h89 (by decide) (by decide)) h88 rfl rfl rfl (Nat.le_of_ble_eq_true rfl) (by decide) (by decide) rfl (fun h1367 q1366 => ?_)
    obtain ⟨rg11365, f1368, k1369⟩ := q1366
    have f1370 := rng_at k1369 (by decide) h88
    have f1371 := rng_at k1369 (by decide) h92
    have f1372 := rng_at k1369 (by decide) h93
    have f1373 := rng_at k1369 (by decide) h94
    have f1374 := rng_at k1369 (by decide) h95
    have f1375 := rng_at k1369 (by decide) h96
    subst hQF
    have eS : (spEntryC fi c w s r u) = (-1) := by unfold spEntryC; (repeat' split) <;> first | (exfalso; omega) | rfl
    have ok9 : ¬ 0 ≤ (spEntryC fi c w s r u).toInt := by rw [eS]; decide
    exact aw_iret rfl dX9_entry_23 (by decide) (by decide) ⟨by rw [eS], _, by rw [spUn_n ok9]; exact f1371, by rw [spUp_n ok9]; exact f1372, by rw [spUp_n ok9]; exact f1373, by rw [spUp_n ok9]; exact f1374, by rw [spUp_n ok9]; exact f1375, f1368, rg2_tr (rg2_rf 89 89 92 96 h) (rg2_w k1369 (by decide))⟩
  · have t5 := ite_1 c5
    refine aw_iload_n 2 dX9_entry_8 rfl rfl ?_
    refine aw_if_lt 18 dX9_entry_9 (by decide) (fun c9 => ?_) (fun c9 => ?_)
    · have d9 := (j_lt (a := w.toInt) (b := (0)) (rfl) (rfl)).mp c9
      refine aw_aload_n 0 dX9_entry_18 rfl rfl ?_
      refine aw_iconst (-1) dX9_entry_19 (by decide) ?_
      refine aw_eV [.int (-1)] [] lX9_130 vX9_refuse mX9_refuse dX9_entry_20 (bX9_refuse (sp := sp) (fa := fa) (nb := nb) (ns := ns) (nm := nm) (nv := nv) (sh := sh) (ho := ho) (ow := ow) (sl := sl) (rg := rg) (x := (-1)) (q := 1) h88 h89 (by decide) (by decide)) h88 rfl rfl rfl (Nat.le_of_ble_eq_true rfl) (by decide) (by decide) rfl (fun h1378 q1377 => ?_)
      obtain ⟨rg11376, f1379, k1380⟩ := q1377
      have f1381 := rng_at k1380 (by decide) h88
      have f1382 := rng_at k1380 (by decide) h92
      have f1383 := rng_at k1380 (by decide) h93
      have f1384 := rng_at k1380 (by decide) h94
      have f1385 := rng_at k1380 (by decide) h95
      have f1386 := rng_at k1380 (by decide) h96
      subst hQF
      have eS : (spEntryC fi c w s r u) = (-1) := by unfold spEntryC; (repeat' split) <;> first | (exfalso; omega) | rfl
      have ok9 : ¬ 0 ≤ (spEntryC fi c w s r u).toInt := by rw [eS]; decide
      exact aw_iret rfl dX9_entry_23 (by decide) (by decide) ⟨by rw [eS], _, by rw [spUn_n ok9]; exact f1382, by rw [spUp_n ok9]; exact f1383, by rw [spUp_n ok9]; exact f1384, by rw [spUp_n ok9]; exact f1385, by rw [spUp_n ok9]; exact f1386, f1379, rg2_tr (rg2_rf 89 89 92 96 h) (rg2_w k1380 (by decide))⟩
    · have d9 := mt (j_lt (a := w.toInt) (b := (0)) (rfl) (rfl)).mpr c9
      refine aw_iload_n 2 dX9_entry_12 rfl rfl ?_
      refine aw_ldc (1048576) kX9_141 dX9_entry_13 ?_
      refine aw_icmp_lt 24 dX9_entry_15 (by decide) (fun c15 => ?_) (fun c15 => ?_)
      · have d15 := (j_lt (a := w.toInt) (b := (1048576)) (rfl) (rfl)).mp c15
        refine aw_iload_n 2 dX9_entry_24 rfl rfl ?_
        refine aw_if_eq 43 dX9_entry_25 (by decide) (fun c25 => ?_) (fun c25 => ?_)
        · have d25 := (j_eq (a := w.toInt) (b := (0)) (rfl) (rfl)).mp c25
          refine aw_aload_n 0 dX9_entry_43 rfl rfl ?_
          refine aw_bipush (-4) dX9_entry_44 (by decide) ?_
          refine aw_eV [.int (-4)] [] lX9_130 vX9_refuse mX9_refuse dX9_entry_46 (bX9_refuse (sp := sp) (fa := fa) (nb := nb) (ns := ns) (nm := nm) (nv := nv) (sh := sh) (ho := ho) (ow := ow) (sl := sl) (rg := rg) (x := (-4)) (q := 4) h88 h89 (by decide) (by decide)) h88 rfl rfl rfl (Nat.le_of_ble_eq_true rfl) (by decide) (by decide) rfl (fun h1389 q1388 => ?_)
          obtain ⟨rg11387, f1390, k1391⟩ := q1388
          have f1392 := rng_at k1391 (by decide) h88
          have f1393 := rng_at k1391 (by decide) h92
          have f1394 := rng_at k1391 (by decide) h93
          have f1395 := rng_at k1391 (by decide) h94
          have f1396 := rng_at k1391 (by decide) h95
          have f1397 := rng_at k1391 (by decide) h96
          subst hQF
          have eS : (spEntryC fi c w s r u) = (-4) := by unfold spEntryC; (repeat' split) <;> first | (exfalso; omega) | rfl
          have ok9 : ¬ 0 ≤ (spEntryC fi c w s r u).toInt := by rw [eS]; decide
          exact aw_iret rfl dX9_entry_49 (by decide) (by decide) ⟨by rw [eS], _, by rw [spUn_n ok9]; exact f1393, by rw [spUp_n ok9]; exact f1394, by rw [spUp_n ok9]; exact f1395, by rw [spUp_n ok9]; exact f1396, by rw [spUp_n ok9]; exact f1397, f1390, rg2_tr (rg2_rf 89 89 92 96 h) (rg2_w k1391 (by decide))⟩
        · have d25 := mt (j_eq (a := w.toInt) (b := (0)) (rfl) (rfl)).mpr c25
          refine aw_iload_n 3 dX9_entry_28 rfl rfl ?_
          refine aw_iconst (1) dX9_entry_29 (by decide) ?_
          refine aw_icmp_lt 43 dX9_entry_30 (by decide) (fun c30 => ?_) (fun c30 => ?_)
          · have d30 := (j_lt (a := s.toInt) (b := (1)) (rfl) (rfl)).mp c30
            refine aw_aload_n 0 dX9_entry_43 rfl rfl ?_
            refine aw_bipush (-4) dX9_entry_44 (by decide) ?_
            refine aw_eV [.int (-4)] [] lX9_130 vX9_refuse mX9_refuse dX9_entry_46 (bX9_refuse (sp := sp) (fa := fa) (nb := nb) (ns := ns) (nm := nm) (nv := nv) (sh := sh) (ho := ho) (ow := ow) (sl := sl) (rg := rg) (x := (-4)) (q := 4) h88 h89 (by decide) (by decide)) h88 rfl rfl rfl (Nat.le_of_ble_eq_true rfl) (by decide) (by decide) rfl (fun h1400 q1399 => ?_)
            obtain ⟨rg11398, f1401, k1402⟩ := q1399
            have f1403 := rng_at k1402 (by decide) h88
            have f1404 := rng_at k1402 (by decide) h92
            have f1405 := rng_at k1402 (by decide) h93
            have f1406 := rng_at k1402 (by decide) h94
            have f1407 := rng_at k1402 (by decide) h95
            have f1408 := rng_at k1402 (by decide) h96
            subst hQF
            have eS : (spEntryC fi c w s r u) = (-4) := by unfold spEntryC; (repeat' split) <;> first | (exfalso; omega) | rfl
            have ok9 : ¬ 0 ≤ (spEntryC fi c w s r u).toInt := by rw [eS]; decide
            exact aw_iret rfl dX9_entry_49 (by decide) (by decide) ⟨by rw [eS], _, by rw [spUn_n ok9]; exact f1404, by rw [spUp_n ok9]; exact f1405, by rw [spUp_n ok9]; exact f1406, by rw [spUp_n ok9]; exact f1407, by rw [spUp_n ok9]; exact f1408, f1401, rg2_tr (rg2_rf 89 89 92 96 h) (rg2_w k1402 (by decide))⟩
          · have d30 := mt (j_lt (a := s.toInt) (b := (1)) (rfl) (rfl)).mpr c30
            refine aw_iload 4 dX9_entry_33 rfl ?_
            refine aw_if_lt 43 dX9_entry_35 (by decide) (fun c35 => ?_) (fun c35 => ?_)
            · have d35 := (j_lt (a := r.toInt) (b := (0)) (rfl) (rfl)).mp c35
              refine aw_aload_n 0 dX9_entry_43 rfl rfl ?_
              refine aw_bipush (-4) dX9_entry_44 (by decide) ?_
              refine aw_eV [.int (-4)] [] lX9_130 vX9_refuse mX9_refuse dX9_entry_46 (bX9_refuse (sp := sp) (fa := fa) (nb := nb) (ns := ns) (nm := nm) (nv := nv) (sh := sh) (ho := ho) (ow := ow) (sl := sl) (rg := rg) (x := (-4)) (q := 4) h88 h89 (by decide) (by decide)) h88 rfl rfl rfl (Nat.le_of_ble_eq_true rfl) (by decide) (by decide) rfl (fun h1411 q1410 => ?_)
              obtain ⟨rg11409, f1412, k1413⟩ := q1410
              have f1414 := rng_at k1413 (by decide) h88
              have f1415 := rng_at k1413 (by decide) h92
              have f1416 := rng_at k1413 (by decide) h93
              have f1417 := rng_at k1413 (by decide) h94
              have f1418 := rng_at k1413 (by decide) h95
              have f1419 := rng_at k1413 (by decide) h96
              subst hQF
              have eS : (spEntryC fi c w s r u) = (-4) := by unfold spEntryC; (repeat' split) <;> first | (exfalso; omega) | rfl
              have ok9 : ¬ 0 ≤ (spEntryC fi c w s r u).toInt := by rw [eS]; decide
              exact aw_iret rfl dX9_entry_49 (by decide) (by decide) ⟨by rw [eS], _, by rw [spUn_n ok9]; exact f1415, by rw [spUp_n ok9]; exact f1416, by rw [spUp_n ok9]; exact f1417, by rw [spUp_n ok9]; exact f1418, by rw [spUp_n ok9]; exact f1419, f1412, rg2_tr (rg2_rf 89 89 92 96 h) (rg2_w k1413 (by decide))⟩
            · have d35 := mt (j_lt (a := r.toInt) (b := (0)) (rfl) (rfl)).mpr c35
              refine aw_iload 5 dX9_entry_38 rfl ?_
              refine aw_if_ge 50 dX9_entry_40 (by decide) (fun c40 => ?_) (fun c40 => ?_)
              · have d40 := (j_le (a := (0)) (b := u.toInt) (rfl) (rfl)).mp c40
                refine aw_iload_n 3 dX9_entry_50 rfl rfl ?_
                refine aw_sipush (200) dX9_entry_51 (by decide) ?_
                refine aw_icmp_gt 82 dX9_entry_54 (by decide) (fun c54 => ?_) (fun c54 => ?_)
                · have d54 := (j_lt (a := (200)) (b := s.toInt) (rfl) (rfl)).mp c54
                  refine aw_aload_n 0 dX9_entry_82 rfl rfl ?_
                  refine aw_bipush (-6) dX9_entry_83 (by decide) ?_
                  refine aw_eV [.int (-6)] [] lX9_130 vX9_refuse mX9_refuse dX9_entry_85 (bX9_refuse (sp := sp) (fa := fa) (nb := nb) (ns := ns) (nm := nm) (nv := nv) (sh := sh) (ho := ho) (ow := ow) (sl := sl) (rg := rg) (x := (-6)) (q := 6) h88 h89 (by decide) (by decide)) h88 rfl rfl rfl (Nat.le_of_ble_eq_true rfl) (by decide) (by decide) rfl (fun h1422 q1421 => ?_)
                  obtain ⟨rg11420, f1423, k1424⟩ := q1421
                  have f1425 := rng_at k1424 (by decide) h88
                  have f1426 := rng_at k1424 (by decide) h92
                  have f1427 := rng_at k1424 (by decide) h93
                  have f1428 := rng_at k1424 (by decide) h94
                  have f1429 := rng_at k1424 (by decide) h95
                  have f1430 := rng_at k1424 (by decide) h96
                  subst hQF
                  have eS : (spEntryC fi c w s r u) = (-6) := by unfold spEntryC; (repeat' split) <;> first | (exfalso; omega) | rfl
                  have ok9 : ¬ 0 ≤ (spEntryC fi c w s r u).toInt := by rw [eS]; decide
                  exact aw_iret rfl dX9_entry_88 (by decide) (by decide) ⟨by rw [eS], _, by rw [spUn_n ok9]; exact f1426, by rw [spUp_n ok9]; exact f1427, by rw [spUp_n ok9]; exact f1428, by rw [spUp_n ok9]; exact f1429, by rw [spUp_n ok9]; exact f1430, f1423, rg2_tr (rg2_rf 89 89 92 96 h) (rg2_w k1424 (by decide))⟩
                · have d54 := mt (j_lt (a := (200)) (b := s.toInt) (rfl) (rfl)).mpr c54
                  refine aw_iload 4 dX9_entry_57 rfl ?_
                  refine aw_bipush (9) dX9_entry_59 (by decide) ?_
                  refine aw_icmp_gt 82 dX9_entry_61 (by decide) (fun c61 => ?_) (fun c61 => ?_)
                  · have d61 := (j_lt (a := (9)) (b := r.toInt) (rfl) (rfl)).mp c61
                    refine aw_aload_n 0 dX9_entry_82 rfl rfl ?_
                    refine aw_bipush (-6) dX9_entry_83 (by decide) ?_
                    refine aw_eV [.int (-6)] [] lX9_130 vX9_refuse mX9_refuse dX9_entry_85 (bX9_refuse (sp := sp) (fa := fa) (nb := nb) (ns := ns) (nm := nm) (nv := nv) (sh := sh) (ho := ho) (ow := ow) (sl := sl) (rg := rg) (x := (-6)) (q := 6) h88 h89 (by decide) (by decide)) h88 rfl rfl rfl (Nat.le_of_ble_eq_true rfl) (by decide) (by decide) rfl (fun h1433 q1432 => ?_)
                    obtain ⟨rg11431, f1434, k1435⟩ := q1432
                    have f1436 := rng_at k1435 (by decide) h88
                    have f1437 := rng_at k1435 (by decide) h92
                    have f1438 := rng_at k1435 (by decide) h93
                    have f1439 := rng_at k1435 (by decide) h94
                    have f1440 := rng_at k1435 (by decide) h95
                    have f1441 := rng_at k1435 (by decide) h96
                    subst hQF
                    have eS : (spEntryC fi c w s r u) = (-6) := by unfold spEntryC; (repeat' split) <;> first | (exfalso; omega) | rfl
                    have ok9 : ¬ 0 ≤ (spEntryC fi c w s r u).toInt := by rw [eS]; decide
                    exact aw_iret rfl dX9_entry_88 (by decide) (by decide) ⟨by rw [eS], _, by rw [spUn_n ok9]; exact f1437, by rw [spUp_n ok9]; exact f1438, by rw [spUp_n ok9]; exact f1439, by rw [spUp_n ok9]; exact f1440, by rw [spUp_n ok9]; exact f1441, f1434, rg2_tr (rg2_rf 89 89 92 96 h) (rg2_w k1435 (by decide))⟩
                  · have d61 := mt (j_lt (a := (9)) (b := r.toInt) (rfl) (rfl)).mpr c61
                    refine aw_iload 5 dX9_entry_64 rfl ?_
                    refine aw_bipush (99) dX9_entry_66 (by decide) ?_
                    refine aw_icmp_gt 82 dX9_entry_68 (by decide) (fun c68 => ?_) (fun c68 => ?_)
                    · have d68 := (j_lt (a := (99)) (b := u.toInt) (rfl) (rfl)).mp c68
                      refine aw_aload_n 0 dX9_entry_82 rfl rfl ?_
                      refine aw_bipush (-6) dX9_entry_83 (by decide) ?_
                      refine aw_eV [.int (-6)] [] lX9_130 vX9_refuse mX9_refuse dX9_entry_85 (bX9_refuse (sp := sp) (fa := fa) (nb := nb) (ns := ns) (nm := nm) (nv := nv) (sh := sh) (ho := ho) (ow := ow) (sl := sl) (rg := rg) (x := (-6)) (q := 6) h88 h89 (by decide) (by decide)) h88 rfl rfl rfl (Nat.le_of_ble_eq_true rfl) (by decide) (by decide) rfl (fun h1444 q1443 => ?_)
                      obtain ⟨rg11442, f1445, k1446⟩ := q1443
                      have f1447 := rng_at k1446 (by decide) h88
                      have f1448 := rng_at k1446 (by decide) h92
                      have f1449 := rng_at k1446 (by decide) h93
                      have f1450 := rng_at k1446 (by decide) h94
                      have f1451 := rng_at k1446 (by decide) h95
                      have f1452 := rng_at k1446 (by decide) h96
                      subst hQF
                      have eS : (spEntryC fi c w s r u) = (-6) := by unfold spEntryC; (repeat' split) <;> first | (exfalso; omega) | rfl
                      have ok9 : ¬ 0 ≤ (spEntryC fi c w s r u).toInt := by rw [eS]; decide
                      exact aw_iret rfl dX9_entry_88 (by decide) (by decide) ⟨by rw [eS], _, by rw [spUn_n ok9]; exact f1448, by rw [spUp_n ok9]; exact f1449, by rw [spUp_n ok9]; exact f1450, by rw [spUp_n ok9]; exact f1451, by rw [spUp_n ok9]; exact f1452, f1445, rg2_tr (rg2_rf 89 89 92 96 h) (rg2_w k1446 (by decide))⟩
                    · have d68 := mt (j_lt (a := (99)) (b := u.toInt) (rfl) (rfl)).mpr c68
                      obtain ⟨a, bb_a, ee_a⟩ := i_nat (x := c) (N := 4) (by omega) (by omega)
                      subst ee_a
                      have tt_a : (nI a).toInt = (a : Int) := nI_toInt (by omega)
                      have nn_a : tn (nI a) = a := tn_nI (by omega)
                      refine aw_aload_n 0 dX9_entry_71 rfl rfl ?_
                      refine aw_get fX9_19 dX9_entry_72 h88 rfl ?_
                      refine aw_iload_n 1 dX9_entry_75 rfl rfl ?_
                      refine aw_iald a (rfl) (by omega) (by decide) dX9_entry_76 h92 ?_
                      refine aw_toe (nI (fi a)) (rfl) ?_
                      have b1453 := hfi a (by omega)
                      refine aw_bipush (10) dX9_entry_77 (by decide) ?_
                      refine aw_icmp_ne 89 dX9_entry_79 (by decide) (fun c79 => ?_) (fun c79 => ?_)
                      · have d79 := mt (nv_eq (a := fi a) (b := 10) (rfl) (rfl) (by omega) (by omega)).mpr c79
                        refine aw_bipush (10) dX9_entry_89 (by decide) ?_
                        refine aw_iload_n 1 dX9_entry_91 rfl rfl ?_
                        refine aw_imul dX9_entry_92 ?_
                        refine aw_toe (nI (a * 10)) (by rw [Nat.mul_comm a 10]; exact nv_mul (rfl) (rfl)) ?_
                        refine aw_aload_n 0 dX9_entry_93 rfl rfl ?_
                        refine aw_get fX9_19 dX9_entry_94 h88 rfl ?_
                        refine aw_iload_n 1 dX9_entry_97 rfl rfl ?_
                        refine aw_iald a (rfl) (by omega) (by decide) dX9_entry_98 h92 ?_
                        refine aw_toe (nI (fi a)) (rfl) ?_
                        have b1454 := hfi a (by omega)
                        refine aw_iadd dX9_entry_99 ?_
                        refine aw_toe (nI ((a * 10) + (fi a))) (nv_add (rfl) (rfl)) ?_
                        refine aw_istore [(6, .int (nI ((a * 10) + (fi a)))), (0, .ref (G.1 + 88)), (1, .int (nI a)), (2, .int w), (3, .int s), (4, .int r), (5, .int u)] dX9_entry_100 (by decide) rfl ?_
                        refine aw_aload_n 1 dX9_entry_102 rfl rfl ?_
                        refine aw_get fX9_22 dX9_entry_103 h88 rfl ?_
                        refine aw_iload 0 dX9_entry_106 rfl ?_
                        refine aw_iload_n 3 dX9_entry_108 rfl rfl ?_
                        refine aw_iast ((a * 10) + (fi a)) (rfl) (by omega) (by decide) dX9_entry_109 h93 ?_
                        refine aw_aload_n 1 dX9_entry_110 rfl rfl ?_
                        refine aw_get fX9_25 dX9_entry_111 (gn (by decide) (h88)) rfl ?_
                        refine aw_iload 0 dX9_entry_114 rfl ?_
                        refine aw_iload_n 4 dX9_entry_116 rfl rfl ?_
                        refine aw_iast ((a * 10) + (fi a)) (rfl) (by omega) (by decide) dX9_entry_117 (gn (by decide) (h94)) ?_
                        refine aw_aload_n 1 dX9_entry_118 rfl rfl ?_
                        refine aw_get fX9_28 dX9_entry_119 (gn (by decide) (gn (by decide) (h88))) rfl ?_
                        refine aw_iload 0 dX9_entry_122 rfl ?_
                        refine aw_iload 5 dX9_entry_124 rfl ?_
                        refine aw_iast ((a * 10) + (fi a)) (rfl) (by omega) (by decide) dX9_entry_126 (gn (by decide) (gn (by decide) (h95))) ?_
                        refine aw_aload_n 1 dX9_entry_127 rfl rfl ?_
                        refine aw_get fX9_31 dX9_entry_128 (gn (by decide) (gn (by decide) (gn (by decide) (h88)))) rfl ?_
                        refine aw_iload 0 dX9_entry_131 rfl ?_
                        refine aw_iload 6 dX9_entry_133 rfl ?_
                        refine aw_iast ((a * 10) + (fi a)) (rfl) (by omega) (by decide) dX9_entry_135 (gn (by decide) (gn (by decide) (gn (by decide) (h96)))) ?_
                        refine aw_aload_n 1 dX9_entry_136 rfl rfl ?_
                        refine aw_get fX9_19 dX9_entry_137 (gn (by decide) (gn (by decide) (gn (by decide) (gn (by decide) (h88))))) rfl ?_
                        refine aw_iload_n 2 dX9_entry_140 rfl rfl ?_
                        refine aw_dup2 dX9_entry_141 rfl rfl ?_
                        refine aw_iald a (rfl) (by omega) (by decide) dX9_entry_142 (gn (by decide) (gn (by decide) (gn (by decide) (gn (by decide) (h92))))) ?_
                        refine aw_toe (nI (fi a)) (rfl) ?_
                        have b1455 := hfi a (by omega)
                        refine aw_iconst (1) dX9_entry_143 (by decide) ?_
                        refine aw_iadd dX9_entry_144 ?_
                        refine aw_toe (nI ((fi a) + 1)) (nv_add (rfl) (rfl)) ?_
                        refine aw_iast a (rfl) (by omega) (by decide) dX9_entry_145 (gn (by decide) (gn (by decide) (gn (by decide) (gn (by decide) (h92))))) ?_
                        rw [nA_u (f := fi) (i := a) (x := (nI ((fi a) + 1))) (v := (fi a) + 1) (rfl)]
                        refine aw_aload_n 1 dX9_entry_146 rfl rfl ?_
                        refine aw_get fX9_19 dX9_entry_147 (gn (by decide) (gn (by decide) (gn (by decide) (gn (by decide) (gn (by decide) (h88)))))) rfl ?_
                        refine aw_iload_n 2 dX9_entry_150 rfl rfl ?_
                        refine aw_iald a (rfl) (by omega) (by decide) dX9_entry_151 (gs (gn (by decide) (gn (by decide) (gn (by decide) (gn (by decide) (h92)))))) ?_
                        refine aw_toe (nI (fi a + 1)) (by simp only [nA, un_s]) ?_
                        refine aw_iconst (1) dX9_entry_152 (by decide) ?_
                        refine aw_isub dX9_entry_153 ?_
                        refine aw_toe (nI (fi a)) (nv_p1 (rfl)) ?_
                        subst hQF
                        have eS : (spEntryC fi (nI a) w s r u) = (nI (fi a)) := by unfold spEntryC; simp only [nn_a]; (repeat' split) <;> first | (exfalso; omega) | rfl
                        have ok9 : 0 ≤ (spEntryC fi (nI a) w s r u).toInt := by rw [eS, nI_toInt (by omega)]; omega
                        exact aw_iret rfl dX9_entry_154 (by decide) (by decide) ⟨by rw [eS], _, by rw [spUn_y ok9, nn_a]; exact (gs (gn (by decide) (gn (by decide) (gn (by decide) (gn (by decide) (h92)))))), by rw [spUp_y ok9, nn_a]; exact (gn (by decide) (gn (by decide) (gn (by decide) (gn (by decide) (gs h93))))), by rw [spUp_y ok9, nn_a]; exact (gn (by decide) (gn (by decide) (gn (by decide) (gs (gn (by decide) (h94)))))), by rw [spUp_y ok9, nn_a]; exact (gn (by decide) (gn (by decide) (gs (gn (by decide) (gn (by decide) (h95)))))), by rw [spUp_y ok9, nn_a]; exact (gn (by decide) (gs (gn (by decide) (gn (by decide) (gn (by decide) (h96)))))), (gn (by decide) (gn (by decide) (gn (by decide) (gn (by decide) (gn (by decide) (h89)))))), rg2_set (rg2_set (rg2_set (rg2_set (rg2_set (rg2_rf 89 89 92 96 h) (by decide)) (by decide)) (by decide)) (by decide)) (by decide)⟩
                      · have d79 := (nv_eq (a := fi a) (b := 10) (rfl) (rfl) (by omega) (by omega)).mp c79
                        refine aw_aload_n 0 dX9_entry_82 rfl rfl ?_
                        refine aw_bipush (-6) dX9_entry_83 (by decide) ?_
                        refine aw_eV [.int (-6)] [] lX9_130 vX9_refuse mX9_refuse dX9_entry_85 (bX9_refuse (sp := sp) (fa := fa) (nb := nb) (ns := ns) (nm := nm) (nv := nv) (sh := sh) (ho := ho) (ow := ow) (sl := sl) (rg := rg) (x := (-6)) (q := 6) h88 h89 (by decide) (by decide)) h88 rfl rfl rfl (Nat.le_of_ble_eq_true rfl) (by decide) (by decide) rfl (fun h1459 q1458 => ?_)
                        obtain ⟨rg11457, f1460, k1461⟩ := q1458
                        have f1462 := rng_at k1461 (by decide) h88
                        have f1463 := rng_at k1461 (by decide) h92
                        have f1464 := rng_at k1461 (by decide) h93
                        have f1465 := rng_at k1461 (by decide) h94
                        have f1466 := rng_at k1461 (by decide) h95
                        have f1467 := rng_at k1461 (by decide) h96
                        subst hQF
                        have eS : (spEntryC fi (nI a) w s r u) = (-6) := by unfold spEntryC; simp only [nn_a]; (repeat' split) <;> first | (exfalso; omega) | rfl
                        have ok9 : ¬ 0 ≤ (spEntryC fi (nI a) w s r u).toInt := by rw [eS]; decide
                        exact aw_iret rfl dX9_entry_88 (by decide) (by decide) ⟨by rw [eS], _, by rw [spUn_n ok9]; exact f1463, by rw [spUp_n ok9]; exact f1464, by rw [spUp_n ok9]; exact f1465, by rw [spUp_n ok9]; exact f1466, by rw [spUp_n ok9]; exact f1467, f1460, rg2_tr (rg2_rf 89 89 92 96 h) (rg2_w k1461 (by decide))⟩
              · have d40 := mt (j_le (a := (0)) (b := u.toInt) (rfl) (rfl)).mpr c40
                refine aw_aload_n 0 dX9_entry_43 rfl rfl ?_
                refine aw_bipush (-4) dX9_entry_44 (by decide) ?_
                refine aw_eV [.int (-4)] [] lX9_130 vX9_refuse mX9_refuse dX9_entry_46 (bX9_refuse (sp := sp) (fa := fa) (nb := nb) (ns := ns) (nm := nm) (nv := nv) (sh := sh) (ho := ho) (ow := ow) (sl := sl) (rg := rg) (x := (-4)) (q := 4) h88 h89 (by decide) (by decide)) h88 rfl rfl rfl (Nat.le_of_ble_eq_true rfl) (by decide) (by decide) rfl (fun h1470 q1469 => ?_)
                obtain ⟨rg11468, f1471, k1472⟩ := q1469
                have f1473 := rng_at k1472 (by decide) h88
                have f1474 := rng_at k1472 (by decide) h92
                have f1475 := rng_at k1472 (by decide) h93
                have f1476 := rng_at k1472 (by decide) h94
                have f1477 := rng_at k1472 (by decide) h95
                have f1478 := rng_at k1472 (by decide) h96
                subst hQF
                have eS : (spEntryC fi c w s r u) = (-4) := by unfold spEntryC; (repeat' split) <;> first | (exfalso; omega) | rfl
                have ok9 : ¬ 0 ≤ (spEntryC fi c w s r u).toInt := by rw [eS]; decide
                exact aw_iret rfl dX9_entry_49 (by decide) (by decide) ⟨by rw [eS], _, by rw [spUn_n ok9]; exact f1474, by rw [spUp_n ok9]; exact f1475, by rw [spUp_n ok9]; exact f1476, by rw [spUp_n ok9]; exact f1477, by rw [spUp_n ok9]; exact f1478, f1471, rg2_tr (rg2_rf 89 89 92 96 h) (rg2_w k1472 (by decide))⟩
      · have d15 := mt (j_lt (a := w.toInt) (b := (1048576)) (rfl) (rfl)).mpr c15
        refine aw_aload_n 0 dX9_entry_18 rfl rfl ?_
        refine aw_iconst (-1) dX9_entry_19 (by decide) ?_
        refine aw_eV [.int (-1)] [] lX9_130 vX9_refuse mX9_refuse dX9_entry_20 (bX9_refuse (sp := sp) (fa := fa) (nb := nb) (ns := ns) (nm := nm) (nv := nv) (sh := sh) (ho := ho) (ow := ow) (sl := sl) (rg := rg) (x := (-1)) (q := 1) h88 h89 (by decide) (by decide)) h88 rfl rfl rfl (Nat.le_of_ble_eq_true rfl) (by decide) (by decide) rfl (fun h1481 q1480 => ?_)
        obtain ⟨rg11479, f1482, k1483⟩ := q1480
        have f1484 := rng_at k1483 (by decide) h88
        have f1485 := rng_at k1483 (by decide) h92
        have f1486 := rng_at k1483 (by decide) h93
        have f1487 := rng_at k1483 (by decide) h94
        have f1488 := rng_at k1483 (by decide) h95
        have f1489 := rng_at k1483 (by decide) h96
        subst hQF
        have eS : (spEntryC fi c w s r u) = (-1) := by unfold spEntryC; (repeat' split) <;> first | (exfalso; omega) | rfl
        have ok9 : ¬ 0 ≤ (spEntryC fi c w s r u).toInt := by rw [eS]; decide
        exact aw_iret rfl dX9_entry_23 (by decide) (by decide) ⟨by rw [eS], _, by rw [spUn_n ok9]; exact f1485, by rw [spUp_n ok9]; exact f1486, by rw [spUp_n ok9]; exact f1487, by rw [spUp_n ok9]; exact f1488, by rw [spUp_n ok9]; exact f1489, f1482, rg2_tr (rg2_rf 89 89 92 96 h) (rg2_w k1483 (by decide))⟩
