set_option maxHeartbeats 4000000 in
theorem oX9_clash0 {l : Launch} {G : xG} {h : List va_E} {sp fa nb ns nm nv sh : Nat} {ho ow sl : Int32} {rg : Nat → Int32} {fo : Nat → Nat} {a b : Int32} (h88 : h[88]? = some (oB 9 (lM G (nI sp) (nI fa) (nI nb) (nI ns) (nI nm) ho ow sl (nI nv) (nI sh)))) (h89 : h[89]? = some (aI 7 rg)) (h124 : h[124]? = some (aZ 36 (clM fo))) (hsy : ∀ x, x < 6 → ∀ y, y < 6 → (fo x).testBit y = (fo y).testBit x) : CE l G yX9_clash cX9_clash 4 (some .int) 2 0 0 [.ref (G.1 + 88), .int a, .int b, .int 0] h (some (.int ((spClashF fo a b false).1))) (fun h1 => ∃ rg1 : Nat → Int32, h1[124]? = some (aZ 36 (clM (spClashF fo a b false).2)) ∧ h1[89]? = some (aI 7 rg1) ∧ rg2 89 89 124 124 h h1) := by
  refine cm_ofQ rfl (Nat.le_of_ble_eq_true rfl) [(0, .ref (G.1 + 88)), (1, .int a), (2, .int b), (3, .int 0)] rfl (fun QF hQF => ?_)
  refine aw_iload_n 1 dX9_clash_0 rfl rfl ?_
  refine aw_if_lt 8 dX9_clash_1 (by decide) (fun c1 => ?_) (fun c1 => ?_)
  · have d1 := (j_lt (a := a.toInt) (b := (0)) (rfl) (rfl)).mp c1
    refine aw_aload_n 0 dX9_clash_8 rfl rfl ?_
    refine aw_bipush (-4) dX9_clash_9 (by decide) ?_
    refine aw_eV [.int (-4)] [] lX9_130 vX9_refuse mX9_refuse dX9_clash_11 (bX9_refuse (sp := sp) (fa := fa) (nb := nb) (ns := ns) (nm := nm) (nv := nv) (sh := sh) (ho := ho) (ow := ow) (sl := sl) (rg := rg) (x := (-4)) (q := 4) h88 h89 (by decide) (by decide)) h88 rfl rfl rfl (Nat.le_of_ble_eq_true rfl) (by decide) (by decide) rfl (fun h1527 q1526 => ?_)
    obtain ⟨rg11525, f1528, k1529⟩ := q1526
    have f1530 := rng_at k1529 (by decide) h88
    have f1531 := rng_at k1529 (by decide) h124
    subst hQF
    have eS : spClashF fo a b false = ((-4), fo) := by unfold spClashF; (repeat' split) <;> first | (exfalso; omega) | rfl | contradiction
    exact aw_iret rfl dX9_clash_14 (by decide) (by decide) ⟨by rw [eS], _, by rw [eS]; exact f1531, f1528, rg2_tr (rg2_rf 89 89 124 124 h) (rg2_w k1529 (by decide))⟩
  · have d1 := mt (j_lt (a := a.toInt) (b := (0)) (rfl) (rfl)).mpr c1
    refine aw_iload_n 2 dX9_clash_4 rfl rfl ?_
    refine aw_if_ge 15 dX9_clash_5 (by decide) (fun c5 => ?_) (fun c5 => ?_)
    · have d5 := (j_le (a := (0)) (b := b.toInt) (rfl) (rfl)).mp c5
      refine aw_iload_n 1 dX9_clash_15 rfl rfl ?_
      refine aw_bipush (6) dX9_clash_16 (by decide) ?_
      refine aw_icmp_ge 27 dX9_clash_18 (by decide) (fun c18 => ?_) (fun c18 => ?_)
      · have d18 := (j_le (a := (6)) (b := a.toInt) (rfl) (rfl)).mp c18
        refine aw_aload_n 0 dX9_clash_27 rfl rfl ?_
        refine aw_bipush (-6) dX9_clash_28 (by decide) ?_
        refine aw_eV [.int (-6)] [] lX9_130 vX9_refuse mX9_refuse dX9_clash_30 (bX9_refuse (sp := sp) (fa := fa) (nb := nb) (ns := ns) (nm := nm) (nv := nv) (sh := sh) (ho := ho) (ow := ow) (sl := sl) (rg := rg) (x := (-6)) (q := 6) h88 h89 (by decide) (by decide)) h88 rfl rfl rfl (Nat.le_of_ble_eq_true rfl) (by decide) (by decide) rfl (fun h1534 q1533 => ?_)
        obtain ⟨rg11532, f1535, k1536⟩ := q1533
        have f1537 := rng_at k1536 (by decide) h88
        have f1538 := rng_at k1536 (by decide) h124
        subst hQF
        have eS : spClashF fo a b false = ((-6), fo) := by unfold spClashF; (repeat' split) <;> first | (exfalso; omega) | rfl | contradiction
        exact aw_iret rfl dX9_clash_33 (by decide) (by decide) ⟨by rw [eS], _, by rw [eS]; exact f1538, f1535, rg2_tr (rg2_rf 89 89 124 124 h) (rg2_w k1536 (by decide))⟩
      · have d18 := mt (j_le (a := (6)) (b := a.toInt) (rfl) (rfl)).mpr c18
        refine aw_iload_n 2 dX9_clash_21 rfl rfl ?_
        refine aw_bipush (6) dX9_clash_22 (by decide) ?_
        refine aw_icmp_lt 34 dX9_clash_24 (by decide) (fun c24 => ?_) (fun c24 => ?_)
        · have d24 := (j_lt (a := b.toInt) (b := (6)) (rfl) (rfl)).mp c24
          refine aw_iload_n 1 dX9_clash_34 rfl rfl ?_
          refine aw_iload_n 2 dX9_clash_35 rfl rfl ?_
          refine aw_icmp_ne 46 dX9_clash_36 (by decide) (fun c36 => ?_) (fun c36 => ?_)
          · have d36 := mt (j_eq (a := a.toInt) (b := b.toInt) (rfl) (rfl)).mpr c36
            obtain ⟨x, bb_x, ee_x⟩ := i_nat (x := a) (N := 6) (by omega) (by omega)
            subst ee_x
            have tt_x : (nI x).toInt = (x : Int) := nI_toInt (by omega)
            have nn_x : tn (nI x) = x := tn_nI (by omega)
            obtain ⟨y, bb_y, ee_y⟩ := i_nat (x := b) (N := 6) (by omega) (by omega)
            subst ee_y
            have tt_y : (nI y).toInt = (y : Int) := nI_toInt (by omega)
            have nn_y : tn (nI y) = y := tn_nI (by omega)
            cases hw : (fo x).testBit y
            · refine aw_aload_n 0 dX9_clash_46 rfl rfl ?_
              refine aw_get fX9_122 dX9_clash_47 h88 rfl ?_
              refine aw_bipush (6) dX9_clash_50 (by decide) ?_
              refine aw_iload_n 1 dX9_clash_52 rfl rfl ?_
              refine aw_imul dX9_clash_53 ?_
              refine aw_toe (nI (6 * x)) (nv_mul (rfl) (rfl)) ?_
              refine aw_iload_n 2 dX9_clash_54 rfl rfl ?_
              refine aw_iadd dX9_clash_55 ?_
              refine aw_toe (nI ((6 * x) + y)) (nv_add (rfl) (rfl)) ?_
              refine aw_zald ((6 * x) + y) (rfl) (by omega) (by decide) dX9_clash_56 h124 ?_
              refine aw_toe 0 (by rw [clM_at (by omega), hw]; rfl) ?_
              refine aw_iload_n 3 dX9_clash_57 rfl rfl ?_
              refine aw_icmp_ne 63 dX9_clash_58 (by decide) (fun c58 => absurd (by decide) c58) (fun c58 => ?_)
              refine aw_iconst (0) dX9_clash_61 (by decide) ?_
              subst hQF
              have eS : spClashF fo (nI x) (nI y) false = (0, fo) := by unfold spClashF; simp only [nn_x, nn_y, hw]; (repeat' split) <;> first | (exfalso; omega) | rfl | contradiction
              exact aw_iret rfl dX9_clash_62 (by decide) (by decide) ⟨by rw [eS], _, by rw [eS]; exact h124, h89, rg2_rf 89 89 124 124 h⟩
            · refine aw_aload_n 0 dX9_clash_46 rfl rfl ?_
              refine aw_get fX9_122 dX9_clash_47 h88 rfl ?_
              refine aw_bipush (6) dX9_clash_50 (by decide) ?_
              refine aw_iload_n 1 dX9_clash_52 rfl rfl ?_
              refine aw_imul dX9_clash_53 ?_
              refine aw_toe (nI (6 * x)) (nv_mul (rfl) (rfl)) ?_
              refine aw_iload_n 2 dX9_clash_54 rfl rfl ?_
              refine aw_iadd dX9_clash_55 ?_
              refine aw_toe (nI ((6 * x) + y)) (nv_add (rfl) (rfl)) ?_
              refine aw_zald ((6 * x) + y) (rfl) (by omega) (by decide) dX9_clash_56 h124 ?_
              refine aw_toe 1 (by rw [clM_at (by omega), hw]; rfl) ?_
              refine aw_iload_n 3 dX9_clash_57 rfl rfl ?_
              refine aw_icmp_ne 63 dX9_clash_58 (by decide) (fun c58 => ?_) (fun c58 => absurd c58 (by decide))
              refine aw_aload_n 0 dX9_clash_63 rfl rfl ?_
              refine aw_get fX9_122 dX9_clash_64 h88 rfl ?_
              refine aw_bipush (6) dX9_clash_67 (by decide) ?_
              refine aw_iload_n 1 dX9_clash_69 rfl rfl ?_
              refine aw_imul dX9_clash_70 ?_
              refine aw_toe (nI (6 * x)) (nv_mul (rfl) (rfl)) ?_
              refine aw_iload_n 2 dX9_clash_71 rfl rfl ?_
              refine aw_iadd dX9_clash_72 ?_
              refine aw_toe (nI ((6 * x) + y)) (nv_add (rfl) (rfl)) ?_
              refine aw_iload_n 3 dX9_clash_73 rfl rfl ?_
              refine aw_zast ((6 * x) + y) (rfl) (by omega) (by decide) dX9_clash_74 h124 ?_
              refine aw_aload_n 0 dX9_clash_75 rfl rfl ?_
              refine aw_get fX9_122 dX9_clash_76 (gn (by decide) (h88)) rfl ?_
              refine aw_bipush (6) dX9_clash_79 (by decide) ?_
              refine aw_iload_n 2 dX9_clash_81 rfl rfl ?_
              refine aw_imul dX9_clash_82 ?_
              refine aw_toe (nI (6 * y)) (nv_mul (rfl) (rfl)) ?_
              refine aw_iload_n 1 dX9_clash_83 rfl rfl ?_
              refine aw_iadd dX9_clash_84 ?_
              refine aw_toe (nI ((6 * y) + x)) (nv_add (rfl) (rfl)) ?_
              refine aw_iload_n 3 dX9_clash_85 rfl rfl ?_
              refine aw_zast ((6 * y) + x) (rfl) (by omega) (by decide) dX9_clash_86 (gs h124) ?_
              refine aw_iconst (1) dX9_clash_87 (by decide) ?_
              subst hQF
              have eS : spClashF fo (nI x) (nI y) false = (1, un (un fo x (fo x ^^^ 2 ^ y)) y (un fo x (fo x ^^^ 2 ^ y) y ^^^ 2 ^ x)) := by unfold spClashF; simp only [nn_x, nn_y, hw]; (repeat' split) <;> first | (exfalso; omega) | rfl | contradiction
              exact aw_iret rfl dX9_clash_88 (by decide) (by decide) ⟨by rw [eS], _, by rw [eS, ← clM_up (v := 0) (by omega) (by omega) (by omega) (hsy y (by omega) x (by omega)) (by rw [hw]; rfl)]; exact (gs (gs h124)), (gn (by decide) (gn (by decide) (h89))), rg2_set (rg2_set (rg2_rf 89 89 124 124 h) (by decide)) (by decide)⟩
          · have d36 := (j_eq (a := a.toInt) (b := b.toInt) (rfl) (rfl)).mp c36
            refine aw_aload_n 0 dX9_clash_39 rfl rfl ?_
            refine aw_bipush (-3) dX9_clash_40 (by decide) ?_
            refine aw_eV [.int (-3)] [] lX9_130 vX9_refuse mX9_refuse dX9_clash_42 (bX9_refuse (sp := sp) (fa := fa) (nb := nb) (ns := ns) (nm := nm) (nv := nv) (sh := sh) (ho := ho) (ow := ow) (sl := sl) (rg := rg) (x := (-3)) (q := 3) h88 h89 (by decide) (by decide)) h88 rfl rfl rfl (Nat.le_of_ble_eq_true rfl) (by decide) (by decide) rfl (fun h1541 q1540 => ?_)
            obtain ⟨rg11539, f1542, k1543⟩ := q1540
            have f1544 := rng_at k1543 (by decide) h88
            have f1545 := rng_at k1543 (by decide) h124
            subst hQF
            have eS : spClashF fo a b false = ((-3), fo) := by unfold spClashF; (repeat' split) <;> first | (exfalso; omega) | rfl | contradiction
            exact aw_iret rfl dX9_clash_45 (by decide) (by decide) ⟨by rw [eS], _, by rw [eS]; exact f1545, f1542, rg2_tr (rg2_rf 89 89 124 124 h) (rg2_w k1543 (by decide))⟩
        · have d24 := mt (j_lt (a := b.toInt) (b := (6)) (rfl) (rfl)).mpr c24
          refine aw_aload_n 0 dX9_clash_27 rfl rfl ?_
          refine aw_bipush (-6) dX9_clash_28 (by decide) ?_
          refine aw_eV [.int (-6)] [] lX9_130 vX9_refuse mX9_refuse dX9_clash_30 (bX9_refuse (sp := sp) (fa := fa) (nb := nb) (ns := ns) (nm := nm) (nv := nv) (sh := sh) (ho := ho) (ow := ow) (sl := sl) (rg := rg) (x := (-6)) (q := 6) h88 h89 (by decide) (by decide)) h88 rfl rfl rfl (Nat.le_of_ble_eq_true rfl) (by decide) (by decide) rfl (fun h1548 q1547 => ?_)
          obtain ⟨rg11546, f1549, k1550⟩ := q1547
          have f1551 := rng_at k1550 (by decide) h88
          have f1552 := rng_at k1550 (by decide) h124
          subst hQF
          have eS : spClashF fo a b false = ((-6), fo) := by unfold spClashF; (repeat' split) <;> first | (exfalso; omega) | rfl | contradiction
          exact aw_iret rfl dX9_clash_33 (by decide) (by decide) ⟨by rw [eS], _, by rw [eS]; exact f1552, f1549, rg2_tr (rg2_rf 89 89 124 124 h) (rg2_w k1550 (by decide))⟩
    · have d5 := mt (j_le (a := (0)) (b := b.toInt) (rfl) (rfl)).mpr c5
      refine aw_aload_n 0 dX9_clash_8 rfl rfl ?_
      refine aw_bipush (-4) dX9_clash_9 (by decide) ?_
      refine aw_eV [.int (-4)] [] lX9_130 vX9_refuse mX9_refuse dX9_clash_11 (bX9_refuse (sp := sp) (fa := fa) (nb := nb) (ns := ns) (nm := nm) (nv := nv) (sh := sh) (ho := ho) (ow := ow) (sl := sl) (rg := rg) (x := (-4)) (q := 4) h88 h89 (by decide) (by decide)) h88 rfl rfl rfl (Nat.le_of_ble_eq_true rfl) (by decide) (by decide) rfl (fun h1555 q1554 => ?_)
      obtain ⟨rg11553, f1556, k1557⟩ := q1554
      have f1558 := rng_at k1557 (by decide) h88
      have f1559 := rng_at k1557 (by decide) h124
      subst hQF
      have eS : spClashF fo a b false = ((-4), fo) := by unfold spClashF; (repeat' split) <;> first | (exfalso; omega) | rfl | contradiction
      exact aw_iret rfl dX9_clash_14 (by decide) (by decide) ⟨by rw [eS], _, by rw [eS]; exact f1559, f1556, rg2_tr (rg2_rf 89 89 124 124 h) (rg2_w k1557 (by decide))⟩
set_option maxHeartbeats 4000000 in
theorem oX9_clash1 {l : Launch} {G : xG} {h : List va_E} {sp fa nb ns nm nv sh : Nat} {ho ow sl : Int32} {rg : Nat → Int32} {fo : Nat → Nat} {a b : Int32} (h88 : h[88]? = some (oB 9 (lM G (nI sp) (nI fa) (nI nb) (nI ns) (nI nm) ho ow sl (nI nv) (nI sh)))) (h89 : h[89]? = some (aI 7 rg)) (h124 : h[124]? = some (aZ 36 (clM fo))) (hsy : ∀ x, x < 6 → ∀ y, y < 6 → (fo x).testBit y = (fo y).testBit x) : CE l G yX9_clash cX9_clash 4 (some .int) 2 0 0 [.ref (G.1 + 88), .int a, .int b, .int 1] h (some (.int ((spClashF fo a b true).1))) (fun h1 => ∃ rg1 : Nat → Int32, h1[124]? = some (aZ 36 (clM (spClashF fo a b true).2)) ∧ h1[89]? = some (aI 7 rg1) ∧ rg2 89 89 124 124 h h1) := by
  refine cm_ofQ rfl (Nat.le_of_ble_eq_true rfl) [(0, .ref (G.1 + 88)), (1, .int a), (2, .int b), (3, .int 1)] rfl (fun QF hQF => ?_)
  refine aw_iload_n 1 dX9_clash_0 rfl rfl ?_
  refine aw_if_lt 8 dX9_clash_1 (by decide) (fun c1 => ?_) (fun c1 => ?_)
  · have d1 := (j_lt (a := a.toInt) (b := (0)) (rfl) (rfl)).mp c1
    refine aw_aload_n 0 dX9_clash_8 rfl rfl ?_
    refine aw_bipush (-4) dX9_clash_9 (by decide) ?_
    refine aw_eV [.int (-4)] [] lX9_130 vX9_refuse mX9_refuse dX9_clash_11 (bX9_refuse (sp := sp) (fa := fa) (nb := nb) (ns := ns) (nm := nm) (nv := nv) (sh := sh) (ho := ho) (ow := ow) (sl := sl) (rg := rg) (x := (-4)) (q := 4) h88 h89 (by decide) (by decide)) h88 rfl rfl rfl (Nat.le_of_ble_eq_true rfl) (by decide) (by decide) rfl (fun h1562 q1561 => ?_)
    obtain ⟨rg11560, f1563, k1564⟩ := q1561
    have f1565 := rng_at k1564 (by decide) h88
    have f1566 := rng_at k1564 (by decide) h124
    subst hQF
    have eS : spClashF fo a b true = ((-4), fo) := by unfold spClashF; (repeat' split) <;> first | (exfalso; omega) | rfl | contradiction
    exact aw_iret rfl dX9_clash_14 (by decide) (by decide) ⟨by rw [eS], _, by rw [eS]; exact f1566, f1563, rg2_tr (rg2_rf 89 89 124 124 h) (rg2_w k1564 (by decide))⟩
  · have d1 := mt (j_lt (a := a.toInt) (b := (0)) (rfl) (rfl)).mpr c1
    refine aw_iload_n 2 dX9_clash_4 rfl rfl ?_
    refine aw_if_ge 15 dX9_clash_5 (by decide) (fun c5 => ?_) (fun c5 => ?_)
    · have d5 := (j_le (a := (0)) (b := b.toInt) (rfl) (rfl)).mp c5
      refine aw_iload_n 1 dX9_clash_15 rfl rfl ?_
      refine aw_bipush (6) dX9_clash_16 (by decide) ?_
      refine aw_icmp_ge 27 dX9_clash_18 (by decide) (fun c18 => ?_) (fun c18 => ?_)
      · have d18 := (j_le (a := (6)) (b := a.toInt) (rfl) (rfl)).mp c18
        refine aw_aload_n 0 dX9_clash_27 rfl rfl ?_
        refine aw_bipush (-6) dX9_clash_28 (by decide) ?_
        refine aw_eV [.int (-6)] [] lX9_130 vX9_refuse mX9_refuse dX9_clash_30 (bX9_refuse (sp := sp) (fa := fa) (nb := nb) (ns := ns) (nm := nm) (nv := nv) (sh := sh) (ho := ho) (ow := ow) (sl := sl) (rg := rg) (x := (-6)) (q := 6) h88 h89 (by decide) (by decide)) h88 rfl rfl rfl (Nat.le_of_ble_eq_true rfl) (by decide) (by decide) rfl (fun h1569 q1568 => ?_)
        obtain ⟨rg11567, f1570, k1571⟩ := q1568
        have f1572 := rng_at k1571 (by decide) h88
        have f1573 := rng_at k1571 (by decide) h124
        subst hQF
        have eS : spClashF fo a b true = ((-6), fo) := by unfold spClashF; (repeat' split) <;> first | (exfalso; omega) | rfl | contradiction
        exact aw_iret rfl dX9_clash_33 (by decide) (by decide) ⟨by rw [eS], _, by rw [eS]; exact f1573, f1570, rg2_tr (rg2_rf 89 89 124 124 h) (rg2_w k1571 (by decide))⟩
      · have d18 := mt (j_le (a := (6)) (b := a.toInt) (rfl) (rfl)).mpr c18
        refine aw_iload_n 2 dX9_clash_21 rfl rfl ?_
        refine aw_bipush (6) dX9_clash_22 (by decide) ?_
        refine aw_icmp_lt 34 dX9_clash_24 (by decide) (fun c24 => ?_) (fun c24 => ?_)
        · have d24 := (j_lt (a := b.toInt) (b := (6)) (rfl) (rfl)).mp c24
          refine aw_iload_n 1 dX9_clash_34 rfl rfl ?_
          refine aw_iload_n 2 dX9_clash_35 rfl rfl ?_
          refine aw_icmp_ne 46 dX9_clash_36 (by decide) (fun c36 => ?_) (fun c36 => ?_)
          · have d36 := mt (j_eq (a := a.toInt) (b := b.toInt) (rfl) (rfl)).mpr c36
            obtain ⟨x, bb_x, ee_x⟩ := i_nat (x := a) (N := 6) (by omega) (by omega)
            subst ee_x
            have tt_x : (nI x).toInt = (x : Int) := nI_toInt (by omega)
            have nn_x : tn (nI x) = x := tn_nI (by omega)
            obtain ⟨y, bb_y, ee_y⟩ := i_nat (x := b) (N := 6) (by omega) (by omega)
            subst ee_y
            have tt_y : (nI y).toInt = (y : Int) := nI_toInt (by omega)
            have nn_y : tn (nI y) = y := tn_nI (by omega)
            cases hw : (fo x).testBit y
            · refine aw_aload_n 0 dX9_clash_46 rfl rfl ?_
              refine aw_get fX9_122 dX9_clash_47 h88 rfl ?_
              refine aw_bipush (6) dX9_clash_50 (by decide) ?_
              refine aw_iload_n 1 dX9_clash_52 rfl rfl ?_
              refine aw_imul dX9_clash_53 ?_
              refine aw_toe (nI (6 * x)) (nv_mul (rfl) (rfl)) ?_
              refine aw_iload_n 2 dX9_clash_54 rfl rfl ?_
              refine aw_iadd dX9_clash_55 ?_
              refine aw_toe (nI ((6 * x) + y)) (nv_add (rfl) (rfl)) ?_
              refine aw_zald ((6 * x) + y) (rfl) (by omega) (by decide) dX9_clash_56 h124 ?_
              refine aw_toe 0 (by rw [clM_at (by omega), hw]; rfl) ?_
              refine aw_iload_n 3 dX9_clash_57 rfl rfl ?_
              refine aw_icmp_ne 63 dX9_clash_58 (by decide) (fun c58 => ?_) (fun c58 => absurd c58 (by decide))
              refine aw_aload_n 0 dX9_clash_63 rfl rfl ?_
              refine aw_get fX9_122 dX9_clash_64 h88 rfl ?_
              refine aw_bipush (6) dX9_clash_67 (by decide) ?_
              refine aw_iload_n 1 dX9_clash_69 rfl rfl ?_
              refine aw_imul dX9_clash_70 ?_
              refine aw_toe (nI (6 * x)) (nv_mul (rfl) (rfl)) ?_
              refine aw_iload_n 2 dX9_clash_71 rfl rfl ?_
              refine aw_iadd dX9_clash_72 ?_
              refine aw_toe (nI ((6 * x) + y)) (nv_add (rfl) (rfl)) ?_
              refine aw_iload_n 3 dX9_clash_73 rfl rfl ?_
              refine aw_zast ((6 * x) + y) (rfl) (by omega) (by decide) dX9_clash_74 h124 ?_
              refine aw_aload_n 0 dX9_clash_75 rfl rfl ?_
              refine aw_get fX9_122 dX9_clash_76 (gn (by decide) (h88)) rfl ?_
              refine aw_bipush (6) dX9_clash_79 (by decide) ?_
              refine aw_iload_n 2 dX9_clash_81 rfl rfl ?_
              refine aw_imul dX9_clash_82 ?_
              refine aw_toe (nI (6 * y)) (nv_mul (rfl) (rfl)) ?_
              refine aw_iload_n 1 dX9_clash_83 rfl rfl ?_
              refine aw_iadd dX9_clash_84 ?_
              refine aw_toe (nI ((6 * y) + x)) (nv_add (rfl) (rfl)) ?_
              refine aw_iload_n 3 dX9_clash_85 rfl rfl ?_
              refine aw_zast ((6 * y) + x) (rfl) (by omega) (by decide) dX9_clash_86 (gs h124) ?_
              refine aw_iconst (1) dX9_clash_87 (by decide) ?_
              subst hQF
              have eS : spClashF fo (nI x) (nI y) true = (1, un (un fo x (fo x ^^^ 2 ^ y)) y (un fo x (fo x ^^^ 2 ^ y) y ^^^ 2 ^ x)) := by unfold spClashF; simp only [nn_x, nn_y, hw]; (repeat' split) <;> first | (exfalso; omega) | rfl | contradiction
              exact aw_iret rfl dX9_clash_88 (by decide) (by decide) ⟨by rw [eS], _, by rw [eS, ← clM_up (v := 1) (by omega) (by omega) (by omega) (hsy y (by omega) x (by omega)) (by rw [hw]; rfl)]; exact (gs (gs h124)), (gn (by decide) (gn (by decide) (h89))), rg2_set (rg2_set (rg2_rf 89 89 124 124 h) (by decide)) (by decide)⟩
            · refine aw_aload_n 0 dX9_clash_46 rfl rfl ?_
              refine aw_get fX9_122 dX9_clash_47 h88 rfl ?_
              refine aw_bipush (6) dX9_clash_50 (by decide) ?_
              refine aw_iload_n 1 dX9_clash_52 rfl rfl ?_
              refine aw_imul dX9_clash_53 ?_
              refine aw_toe (nI (6 * x)) (nv_mul (rfl) (rfl)) ?_
              refine aw_iload_n 2 dX9_clash_54 rfl rfl ?_
              refine aw_iadd dX9_clash_55 ?_
              refine aw_toe (nI ((6 * x) + y)) (nv_add (rfl) (rfl)) ?_
              refine aw_zald ((6 * x) + y) (rfl) (by omega) (by decide) dX9_clash_56 h124 ?_
              refine aw_toe 1 (by rw [clM_at (by omega), hw]; rfl) ?_
              refine aw_iload_n 3 dX9_clash_57 rfl rfl ?_
              refine aw_icmp_ne 63 dX9_clash_58 (by decide) (fun c58 => absurd (by decide) c58) (fun c58 => ?_)
              refine aw_iconst (0) dX9_clash_61 (by decide) ?_
              subst hQF
              have eS : spClashF fo (nI x) (nI y) true = (0, fo) := by unfold spClashF; simp only [nn_x, nn_y, hw]; (repeat' split) <;> first | (exfalso; omega) | rfl | contradiction
              exact aw_iret rfl dX9_clash_62 (by decide) (by decide) ⟨by rw [eS], _, by rw [eS]; exact h124, h89, rg2_rf 89 89 124 124 h⟩
          · have d36 := (j_eq (a := a.toInt) (b := b.toInt) (rfl) (rfl)).mp c36
            refine aw_aload_n 0 dX9_clash_39 rfl rfl ?_
            refine aw_bipush (-3) dX9_clash_40 (by decide) ?_
            refine aw_eV [.int (-3)] [] lX9_130 vX9_refuse mX9_refuse dX9_clash_42 (bX9_refuse (sp := sp) (fa := fa) (nb := nb) (ns := ns) (nm := nm) (nv := nv) (sh := sh) (ho := ho) (ow := ow) (sl := sl) (rg := rg) (x := (-3)) (q := 3) h88 h89 (by decide) (by decide)) h88 rfl rfl rfl (Nat.le_of_ble_eq_true rfl) (by decide) (by decide) rfl (fun h1576 q1575 => ?_)
            obtain ⟨rg11574, f1577, k1578⟩ := q1575
            have f1579 := rng_at k1578 (by decide) h88
            have f1580 := rng_at k1578 (by decide) h124
            subst hQF
            have eS : spClashF fo a b true = ((-3), fo) := by unfold spClashF; (repeat' split) <;> first | (exfalso; omega) | rfl | contradiction
            exact aw_iret rfl dX9_clash_45 (by decide) (by decide) ⟨by rw [eS], _, by rw [eS]; exact f1580, f1577, rg2_tr (rg2_rf 89 89 124 124 h) (rg2_w k1578 (by decide))⟩
        · have d24 := mt (j_lt (a := b.toInt) (b := (6)) (rfl) (rfl)).mpr c24
          refine aw_aload_n 0 dX9_clash_27 rfl rfl ?_
          refine aw_bipush (-6) dX9_clash_28 (by decide) ?_
          refine aw_eV [.int (-6)] [] lX9_130 vX9_refuse mX9_refuse dX9_clash_30 (bX9_refuse (sp := sp) (fa := fa) (nb := nb) (ns := ns) (nm := nm) (nv := nv) (sh := sh) (ho := ho) (ow := ow) (sl := sl) (rg := rg) (x := (-6)) (q := 6) h88 h89 (by decide) (by decide)) h88 rfl rfl rfl (Nat.le_of_ble_eq_true rfl) (by decide) (by decide) rfl (fun h1583 q1582 => ?_)
          obtain ⟨rg11581, f1584, k1585⟩ := q1582
          have f1586 := rng_at k1585 (by decide) h88
          have f1587 := rng_at k1585 (by decide) h124
          subst hQF
          have eS : spClashF fo a b true = ((-6), fo) := by unfold spClashF; (repeat' split) <;> first | (exfalso; omega) | rfl | contradiction
          exact aw_iret rfl dX9_clash_33 (by decide) (by decide) ⟨by rw [eS], _, by rw [eS]; exact f1587, f1584, rg2_tr (rg2_rf 89 89 124 124 h) (rg2_w k1585 (by decide))⟩
    · have d5 := mt (j_le (a := (0)) (b := b.toInt) (rfl) (rfl)).mpr c5
      refine aw_aload_n 0 dX9_clash_8 rfl rfl ?_
      refine aw_bipush (-4) dX9_clash_9 (by decide) ?_
      refine aw_eV [.int (-4)] [] lX9_130 vX9_refuse mX9_refuse dX9_clash_11 (bX9_refuse (sp := sp) (fa := fa) (nb := nb) (ns := ns) (nm := nm) (nv := nv) (sh := sh) (ho := ho) (ow := ow) (sl := sl) (rg := rg) (x := (-4)) (q := 4) h88 h89 (by decide) (by decide)) h88 rfl rfl rfl (Nat.le_of_ble_eq_true rfl) (by decide) (by decide) rfl (fun h1590 q1589 => ?_)
      obtain ⟨rg11588, f1591, k1592⟩ := q1589
      have f1593 := rng_at k1592 (by decide) h88
      have f1594 := rng_at k1592 (by decide) h124
      subst hQF
      have eS : spClashF fo a b true = ((-4), fo) := by unfold spClashF; (repeat' split) <;> first | (exfalso; omega) | rfl | contradiction
      exact aw_iret rfl dX9_clash_14 (by decide) (by decide) ⟨by rw [eS], _, by rw [eS]; exact f1594, f1591, rg2_tr (rg2_rf 89 89 124 124 h) (rg2_w k1592 (by decide))⟩
