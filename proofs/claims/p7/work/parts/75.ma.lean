set_option maxHeartbeats 4000000 in
theorem bX9_refuse {l : Launch} {G : xG} {h : List va_E} {sp fa nb ns nm nv sh : Nat} {ho ow sl : Int32} {rg : Nat → Int32} {x : Int32} {q : Nat} (h88 : h[88]? = some (oB 9 (lM G (nI sp) (nI fa) (nI nb) (nI ns) (nI nm) ho ow sl (nI nv) (nI sh)))) (h89 : h[89]? = some (aI 7 rg)) (bq : q < 7) (eq : x = -(nI q)) : CE l G yX9_refuse cX9_refuse 2 (some .int) 0 0 0 [.ref (G.1 + 88), .int x] h (some (.int x)) (fun h1 => ∃ rg1 : Nat → Int32, h1[89]? = some (aI 7 rg1) ∧ rng 89 89 h h1) := by
  refine cm_ofQ rfl (Nat.le_of_ble_eq_true rfl) [(0, .ref (G.1 + 88)), (1, .int x)] rfl (fun QF hQF => ?_)
  refine aw_aload_n 0 dX9_refuse_0 rfl rfl ?_
  refine aw_get fX9_7 dX9_refuse_1 h88 rfl ?_
  refine aw_iload_n 1 dX9_refuse_4 rfl rfl ?_
  refine aw_ineg dX9_refuse_5 ?_
  refine aw_toe (nI q) (by rw [eq]; exact neg_nI) ?_
  refine aw_dup2 dX9_refuse_6 rfl rfl ?_
  refine aw_iald q (rfl) (by omega) (by decide) dX9_refuse_7 h89 ?_
  refine aw_iconst (1) dX9_refuse_8 (by decide) ?_
  refine aw_iadd dX9_refuse_9 ?_
  refine aw_iast q (rfl) (by omega) (by decide) dX9_refuse_10 h89 ?_
  refine aw_iload_n 1 dX9_refuse_11 rfl rfl ?_
  subst hQF
  exact aw_iret rfl dX9_refuse_12 (by decide) (by decide) ⟨rfl, _, (gs h89), rng_set (rng_rf 89 89 h) (by decide) (by decide)⟩
set_option maxHeartbeats 4000000 in
theorem oX9_means {l : Launch} {G : xG} {h : List va_E} {sp fa nb ns nm nv sh : Nat} {ho ow sl : Int32} {rg : Nat → Int32} {m : Nat → Nat} {w o : Int32} (h88 : h[88]? = some (oB 9 (lM G (nI sp) (nI fa) (nI nb) (nI ns) (nI nm) ho ow sl (nI nv) (nI sh)))) (h89 : h[89]? = some (aI 7 rg)) (h90 : h[90]? = some (aI 20 (nA m))) (hm : ∀ j, j < 20 → m j ≤ j) : CE l G yX9_means cX9_means 4 (some .int) 2 0 0 [.ref (G.1 + 88), .int w, .int o] h (some (.int ((spMeans m w o).1))) (fun h1 => ∃ rg1 : Nat → Int32, h1[90]? = some (aI 20 (nA (spMeans m w o).2)) ∧ h1[89]? = some (aI 7 rg1) ∧ rng 89 90 h h1) := by
  refine cm_ofQ rfl (Nat.le_of_ble_eq_true rfl) [(0, .ref (G.1 + 88)), (1, .int w), (2, .int o)] rfl (fun QF hQF => ?_)
  refine aw_iload_n 1 dX9_means_0 rfl rfl ?_
  refine aw_bipush (20) dX9_means_1 (by decide) ?_
  refine aw_dS [.int w, .int 20] [] lX9_126 sX9_isIn mX9_isIn dX9_means_3 (bX9_isIn (x := w) (n := 20) (by omega)) rfl (Nat.le_of_ble_eq_true rfl) (by decide) (by decide) rfl ?_
  refine aw_if_eq 18 dX9_means_6 (by decide) (fun c6 => ?_) (fun c6 => ?_)
  · have t6 := ite_0 c6
    refine aw_aload_n 0 dX9_means_18 rfl rfl ?_
    refine aw_iconst (-1) dX9_means_19 (by decide) ?_
    refine aw_eV [.int (-1)] [] lX9_130 vX9_refuse mX9_refuse dX9_means_20 (bX9_refuse (sp := sp) (fa := fa) (nb := nb) (ns := ns) (nm := nm) (nv := nv) (sh := sh) (ho := ho) (ow := ow) (sl := sl) (rg := rg) (x := (-1)) (q := 1) h88 h89 (by decide) (by decide)) h88 rfl rfl rfl (Nat.le_of_ble_eq_true rfl) (by decide) (by decide) rfl (fun h1321 q1320 => ?_)
    obtain ⟨rg11319, f1322, k1323⟩ := q1320
    have f1324 := rng_at k1323 (by decide) h88
    have f1325 := rng_at k1323 (by decide) h90
    subst hQF
    have eS : spMeans m w o = ((-1), m) := by unfold spMeans; (repeat' split) <;> first | (exfalso; omega) | rfl
    exact aw_iret rfl dX9_means_23 (by decide) (by decide) ⟨by rw [eS], _, by rw [eS]; exact f1325, f1322, rng_tr (rng_rf 89 90 h) (rng_w k1323 (by decide) (by decide))⟩
  · have t6 := ite_1 c6
    refine aw_iload_n 2 dX9_means_9 rfl rfl ?_
    refine aw_bipush (20) dX9_means_10 (by decide) ?_
    refine aw_dS [.int o, .int 20] [] lX9_126 sX9_isIn mX9_isIn dX9_means_12 (bX9_isIn (x := o) (n := 20) (by omega)) rfl (Nat.le_of_ble_eq_true rfl) (by decide) (by decide) rfl ?_
    refine aw_if_ne 24 dX9_means_15 (by decide) (fun c15 => ?_) (fun c15 => ?_)
    · have t15 := ite_1 c15
      refine aw_iload_n 2 dX9_means_24 rfl rfl ?_
      refine aw_iload_n 1 dX9_means_25 rfl rfl ?_
      refine aw_icmp_le 36 dX9_means_26 (by decide) (fun c26 => ?_) (fun c26 => ?_)
      · have d26 := (j_le (a := o.toInt) (b := w.toInt) (rfl) (rfl)).mp c26
        obtain ⟨a, bb_a, ee_a⟩ := i_nat (x := w) (N := 20) (by omega) (by omega)
        subst ee_a
        have tt_a : (nI a).toInt = (a : Int) := nI_toInt (by omega)
        have nn_a : tn (nI a) = a := tn_nI (by omega)
        obtain ⟨b, bb_b, ee_b⟩ := i_nat (x := o) (N := 20) (by omega) (by omega)
        subst ee_b
        have tt_b : (nI b).toInt = (b : Int) := nI_toInt (by omega)
        have nn_b : tn (nI b) = b := tn_nI (by omega)
        refine aw_aload_n 0 dX9_means_36 rfl rfl ?_
        refine aw_get fX9_13 dX9_means_37 h88 rfl ?_
        refine aw_iload_n 1 dX9_means_40 rfl rfl ?_
        refine aw_iald a (rfl) (by omega) (by decide) dX9_means_41 h90 ?_
        refine aw_toe (nI (m a)) (rfl) ?_
        refine aw_istore_n [(3, .int (nI (m a))), (0, .ref (G.1 + 88)), (1, .int (nI a)), (2, .int (nI b))] dX9_means_42 rfl (by decide) rfl ?_
        refine aw_aload_n 1 dX9_means_43 rfl rfl ?_
        refine aw_get fX9_13 dX9_means_44 h88 rfl ?_
        refine aw_iload_n 2 dX9_means_47 rfl rfl ?_
        refine aw_iload_n 3 dX9_means_48 rfl rfl ?_
        refine aw_iast a (rfl) (by omega) (by decide) dX9_means_49 h90 ?_
        rw [nA_u (f := m) (i := a) (x := (nI b)) (v := b) (rfl)]
        refine aw_iload_n 0 dX9_means_50 rfl rfl ?_
        subst hQF
        have eS : spMeans m (nI a) (nI b) = ((nI (m a)), un m a b) := by unfold spMeans; (repeat' split) <;> first | (exfalso; omega) | rfl | (simp only [nn_a, nn_b]; done)
        exact aw_iret rfl dX9_means_51 (by decide) (by decide) ⟨by rw [eS], _, by rw [eS]; exact (gs h90), (gn (by decide) (h89)), rng_set (rng_rf 89 90 h) (by decide) (by decide)⟩
      · have d26 := mt (j_le (a := o.toInt) (b := w.toInt) (rfl) (rfl)).mpr c26
        refine aw_aload_n 0 dX9_means_29 rfl rfl ?_
        refine aw_bipush (-4) dX9_means_30 (by decide) ?_
        refine aw_eV [.int (-4)] [] lX9_130 vX9_refuse mX9_refuse dX9_means_32 (bX9_refuse (sp := sp) (fa := fa) (nb := nb) (ns := ns) (nm := nm) (nv := nv) (sh := sh) (ho := ho) (ow := ow) (sl := sl) (rg := rg) (x := (-4)) (q := 4) h88 h89 (by decide) (by decide)) h88 rfl rfl rfl (Nat.le_of_ble_eq_true rfl) (by decide) (by decide) rfl (fun h1328 q1327 => ?_)
        obtain ⟨rg11326, f1329, k1330⟩ := q1327
        have f1331 := rng_at k1330 (by decide) h88
        have f1332 := rng_at k1330 (by decide) h90
        subst hQF
        have eS : spMeans m w o = ((-4), m) := by unfold spMeans; (repeat' split) <;> first | (exfalso; omega) | rfl
        exact aw_iret rfl dX9_means_35 (by decide) (by decide) ⟨by rw [eS], _, by rw [eS]; exact f1332, f1329, rng_tr (rng_rf 89 90 h) (rng_w k1330 (by decide) (by decide))⟩
    · have t15 := ite_0 c15
      refine aw_aload_n 0 dX9_means_18 rfl rfl ?_
      refine aw_iconst (-1) dX9_means_19 (by decide) ?_
      refine aw_eV [.int (-1)] [] lX9_130 vX9_refuse mX9_refuse dX9_means_20 (bX9_refuse (sp := sp) (fa := fa) (nb := nb) (ns := ns) (nm := nm) (nv := nv) (sh := sh) (ho := ho) (ow := ow) (sl := sl) (rg := rg) (x := (-1)) (q := 1) h88 h89 (by decide) (by decide)) h88 rfl rfl rfl (Nat.le_of_ble_eq_true rfl) (by decide) (by decide) rfl (fun h1335 q1334 => ?_)
      obtain ⟨rg11333, f1336, k1337⟩ := q1334
      have f1338 := rng_at k1337 (by decide) h88
      have f1339 := rng_at k1337 (by decide) h90
      subst hQF
      have eS : spMeans m w o = ((-1), m) := by unfold spMeans; (repeat' split) <;> first | (exfalso; omega) | rfl
      exact aw_iret rfl dX9_means_23 (by decide) (by decide) ⟨by rw [eS], _, by rw [eS]; exact f1339, f1336, rng_tr (rng_rf 89 90 h) (rng_w k1337 (by decide) (by decide))⟩
set_option maxHeartbeats 4000000 in
theorem oX9_senseOf {l : Launch} {G : xG} {h : List va_E} {sp fa nb ns nm nv sh : Nat} {ho ow sl : Int32} {m : Nat → Nat} {w : Nat} (h88 : h[88]? = some (oB 9 (lM G (nI sp) (nI fa) (nI nb) (nI ns) (nI nm) ho ow sl (nI nv) (nI sh)))) (h90 : h[90]? = some (aI 20 (nA m))) (hm : ∀ j, j < 20 → m j ≤ j) (bw : w < 20) : CD l G yX9_senseOf cX9_senseOf 3 (some .int) 0 0 0 [.ref (G.1 + 88), .int (nI w)] h (some (.int (nI (root m w)))) h := by
  refine cm_ofQ rfl (Nat.le_of_ble_eq_true rfl) [(0, .ref (G.1 + 88)), (1, .int (nI w))] rfl (fun QF hQF => ?_)
  refine aw_iload_n 1 dX9_senseOf_0 rfl rfl ?_
  refine aw_istore_n [(2, .int (nI w)), (0, .ref (G.1 + 88)), (1, .int (nI w))] dX9_senseOf_1 rfl (by decide) rfl ?_
  refine aw_lv [(2, .int (nI w)), (1, .int (nI w)), (0, .ref (G.1 + 88))] [0, 2, 1] rfl ?_
  suffices L1340 : ∀ (mm : Nat) (x : Nat), x < mm → (x < 20) → (root m x = root m w) → AW l G yX9_senseOf cX9_senseOf 3 (some .int) (xR 0 0 0) (fun _ _ => True) QF 0 0 2 [(2, .int (nI x)), (1, .int (nI w)), (0, .ref (G.1 + 88))] [] h from L1340 (w + 1) w (Nat.lt_succ_self _) (bw) (rfl)
  intro mm
  induction mm with
  | zero =>
    intro x hmm hx hr
    exact absurd hmm (Nat.not_lt_zero _)
  | succ mm ih1340 =>
    intro x hmm hx hr
    refine aw_aload_n 2 dX9_senseOf_2 rfl rfl ?_
    refine aw_get fX9_13 dX9_senseOf_3 h88 rfl ?_
    refine aw_iload_n 0 dX9_senseOf_6 rfl rfl ?_
    refine aw_iald x (rfl) (by omega) (by decide) dX9_senseOf_7 h90 ?_
    refine aw_toe (nI (m x)) (rfl) ?_
    have b1341 := hm x (by omega)
    refine aw_iload_n 0 dX9_senseOf_8 rfl rfl ?_
    refine aw_icmp_eq 22 dX9_senseOf_9 (by decide) (fun c9 => ?_) (fun c9 => ?_)
    · have d9 := (nv_eq (a := m x) (b := x) (rfl) (rfl) (by omega) (by omega)).mp c9
      refine aw_iload_n 0 dX9_senseOf_22 rfl rfl ?_
      subst hQF
      exact aw_iret rfl dX9_senseOf_23 (by decide) (by decide) ⟨by rw [← hr, root_fix (by omega)], rfl⟩
    · have d9 := mt (nv_eq (a := m x) (b := x) (rfl) (rfl) (by omega) (by omega)).mpr c9
      refine aw_aload_n 2 dX9_senseOf_12 rfl rfl ?_
      refine aw_get fX9_13 dX9_senseOf_13 h88 rfl ?_
      refine aw_iload_n 0 dX9_senseOf_16 rfl rfl ?_
      refine aw_iald x (rfl) (by omega) (by decide) dX9_senseOf_17 h90 ?_
      refine aw_toe (nI (m x)) (rfl) ?_
      have b1342 := hm x (by omega)
      refine aw_istore_n [(2, .int (nI (m x))), (1, .int (nI w)), (0, .ref (G.1 + 88))] dX9_senseOf_18 rfl (by decide) rfl ?_
      refine aw_goto 2 dX9_senseOf_19 (by decide) ?_
      refine aw_lv [(2, .int (nI (m x))), (1, .int (nI w)), (0, .ref (G.1 + 88))] [0, 1, 2] rfl ?_
      exact ih1340 (m x) (by omega) (by omega) ((root_st (m := m) (w := x) (by omega)).symm.trans hr)
set_option maxHeartbeats 4000000 in
theorem oX9_sense {l : Launch} {G : xG} {h : List va_E} {sp fa nb ns nm nv sh : Nat} {ho ow sl : Int32} {rg : Nat → Int32} {m : Nat → Nat} {w : Int32} (h88 : h[88]? = some (oB 9 (lM G (nI sp) (nI fa) (nI nb) (nI ns) (nI nm) ho ow sl (nI nv) (nI sh)))) (h89 : h[89]? = some (aI 7 rg)) (h90 : h[90]? = some (aI 20 (nA m))) (hm : ∀ j, j < 20 → m j ≤ j) : CE l G yX9_sense cX9_sense 2 (some .int) 2 0 0 [.ref (G.1 + 88), .int w] h (some (.int (spSense m w))) (fun h1 => ∃ rg1 : Nat → Int32, h1[89]? = some (aI 7 rg1) ∧ rng 89 89 h h1) := by
  refine cm_ofQ rfl (Nat.le_of_ble_eq_true rfl) [(0, .ref (G.1 + 88)), (1, .int w)] rfl (fun QF hQF => ?_)
  refine aw_iload_n 1 dX9_sense_0 rfl rfl ?_
  refine aw_bipush (20) dX9_sense_1 (by decide) ?_
  refine aw_dS [.int w, .int 20] [] lX9_126 sX9_isIn mX9_isIn dX9_sense_3 (bX9_isIn (x := w) (n := 20) (by omega)) rfl (Nat.le_of_ble_eq_true rfl) (by decide) (by decide) rfl ?_
  refine aw_if_eq 17 dX9_sense_6 (by decide) (fun c6 => ?_) (fun c6 => ?_)
  · have t6 := ite_0 c6
    refine aw_aload_n 0 dX9_sense_17 rfl rfl ?_
    refine aw_iconst (-1) dX9_sense_18 (by decide) ?_
    refine aw_eV [.int (-1)] [] lX9_130 vX9_refuse mX9_refuse dX9_sense_19 (bX9_refuse (sp := sp) (fa := fa) (nb := nb) (ns := ns) (nm := nm) (nv := nv) (sh := sh) (ho := ho) (ow := ow) (sl := sl) (rg := rg) (x := (-1)) (q := 1) h88 h89 (by decide) (by decide)) h88 rfl rfl rfl (Nat.le_of_ble_eq_true rfl) (by decide) (by decide) rfl (fun h1345 q1344 => ?_)
    obtain ⟨rg11343, f1346, k1347⟩ := q1344
    have f1348 := rng_at k1347 (by decide) h88
    have f1349 := rng_at k1347 (by decide) h90
    subst hQF
    exact aw_iret rfl dX9_sense_22 (by decide) (by decide) ⟨by unfold spSense; rw [if_neg (by omega)], _, f1346, rng_tr (rng_rf 89 89 h) (rng_w k1347 (by decide) (by decide))⟩
  · have t6 := ite_1 c6
    obtain ⟨a, bb_a, ee_a⟩ := i_nat (x := w) (N := 20) (by omega) (by omega)
    subst ee_a
    have tt_a : (nI a).toInt = (a : Int) := nI_toInt (by omega)
    have nn_a : tn (nI a) = a := tn_nI (by omega)
    refine aw_aload_n 0 dX9_sense_9 rfl rfl ?_
    refine aw_iload_n 1 dX9_sense_10 rfl rfl ?_
    refine aw_dV [.int (nI a)] [] lX9_134 vX9_senseOf mX9_senseOf dX9_sense_11 (oX9_senseOf (sp := sp) (fa := fa) (nb := nb) (ns := ns) (nm := nm) (nv := nv) (sh := sh) (ho := ho) (ow := ow) (sl := sl) (m := m) (w := a) h88 h90 hm (by omega)) h88 rfl rfl rfl (Nat.le_of_ble_eq_true rfl) (by decide) (by decide) rfl ?_
    refine aw_goto 22 dX9_sense_14 (by decide) ?_
    subst hQF
    exact aw_iret rfl dX9_sense_22 (by decide) (by decide) ⟨by unfold spSense; rw [if_pos (by omega), nn_a], _, h89, rng_rf 89 89 h⟩
