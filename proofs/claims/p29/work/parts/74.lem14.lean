abbrev lM (G : xG) (a b c d e f g i j k : Int32) : List Value := [.ref (G.1 + 89), .ref (G.1 + 90), .ref (G.1 + 91), .ref (G.1 + 92), .ref (G.1 + 93), .ref (G.1 + 94), .ref (G.1 + 95), .ref (G.1 + 96), .ref (G.1 + 97), .ref (G.1 + 98), .int a, .int b, .int c, .ref (G.1 + 99), .ref (G.1 + 100), .ref (G.1 + 101), .ref (G.1 + 102), .int d, .int e, .ref (G.1 + 103), .ref (G.1 + 104), .ref (G.1 + 105), .ref (G.1 + 106), .ref (G.1 + 107), .ref (G.1 + 108), .ref (G.1 + 109), .ref (G.1 + 110), .ref (G.1 + 111), .ref (G.1 + 112), .ref (G.1 + 113), .ref (G.1 + 114), .ref (G.1 + 115), .int f, .int g, .int i, .int j, .ref (G.1 + 116), .ref (G.1 + 117), .ref (G.1 + 118), .ref (G.1 + 119), .ref (G.1 + 120), .ref (G.1 + 121), .ref (G.1 + 122), .int k, .ref (G.1 + 123), .ref (G.1 + 124)]
/-- the reference's word for a record that is not gone -/
def gM (go : Nat → Nat) : Nat → Nat := fun j => if go j = 80001 then 1000000000 else go j
theorem gM_n {go : Nat → Nat} {n : Nat} : un (gM go) n 1000000000 = gM (un go n 80001) := by
  funext j
  by_cases h : j = n
  · rw [h, un_s]; simp [gM, un_s]
  · rw [un_n h]; simp [gM, un_n h]
theorem gM_k {go : Nat → Nat} {n k : Nat} (hk : k ≤ 80000) : un (gM go) n k = gM (un go n k) := by
  funext j
  by_cases h : j = n
  · rw [h, un_s]; simp [gM, un_s]; omega
  · rw [un_n h]; simp [gM, un_n h]
theorem gM_lt {go : Nat → Nat} {q : Nat} (h : go q ≤ 80001) : gM go q < 1000000000 ↔ go q ≠ 80001 := by
  unfold gM; split <;> omega
theorem gM_b {go : Nat → Nat} {q : Nat} (h : go q ≤ 80001) : gM go q ≤ 1000000000 := by
  unfold gM; split <;> omega
theorem gM_c {go : Nat → Nat} {q k : Nat} (h : go q ≤ 80001) (hk : k ≤ 80000) : k < gM go q ↔ k < go q := by
  unfold gM; split <;> omega
theorem gM_e {go : Nat → Nat} {q k : Nat} (h : go q ≤ 80001) (hk : k ≤ 80000) : gM go q ≤ k ↔ go q ≤ k := by
  unfold gM; split <;> omega
/-- the reference's clashes, out of the class's foes -/
def clM (fo : Nat → Nat) : Nat → Int32 := fun j => if (fo (j / 6)).testBit (j % 6) = true then 1 else 0
theorem clM_at {fo : Nat → Nat} {a b : Nat} (hb : b < 6) : clM fo (6 * a + b) = if (fo a).testBit b = true then 1 else 0 := by
  unfold clM
  rw [show (6 * a + b) / 6 = a by omega, show (6 * a + b) % 6 = b by omega]
theorem tb_x {x a b : Nat} : (x ^^^ 2 ^ a).testBit b = if b = a then !x.testBit b else x.testBit b := by
  rw [Nat.testBit_xor, Nat.testBit_two_pow]
  by_cases h : a = b
  · subst h; simp
  · simp [h, Ne.symm h, show ¬ b = a from fun q => h q.symm]
theorem clM_up {fo : Nat → Nat} {a b : Nat} {v : Int32} (hb : b < 6) (ha : a < 6) (hab : a ≠ b) (hs : (fo b).testBit a = (fo a).testBit b) (hv : v = if (fo a).testBit b = true then 0 else 1) :
    upd (upd (clM fo) (6 * a + b) v) (6 * b + a) v = clM (un (un fo a (fo a ^^^ 2 ^ b)) b (un fo a (fo a ^^^ 2 ^ b) b ^^^ 2 ^ a)) := by
  have e0 : un fo a (fo a ^^^ 2 ^ b) b = fo b := un_n (Ne.symm hab)
  rw [e0]
  funext j
  simp only [upd]
  by_cases h1 : j = 6 * b + a
  · rw [if_pos h1, h1, clM_at ha, un_s, tb_x, if_pos rfl, hs, hv]
    cases (fo a).testBit b <;> rfl
  · rw [if_neg h1]
    by_cases h2 : j = 6 * a + b
    · rw [if_pos h2, h2, clM_at hb, un_n hab, un_s, tb_x, if_pos rfl, hv]
      cases (fo a).testBit b <;> rfl
    · rw [if_neg h2]
      unfold clM
      by_cases h3 : j / 6 = b
      · rw [h3, un_s, tb_x, if_neg (show ¬ j % 6 = a by omega)]
      · rw [un_n h3]
        by_cases h4 : j / 6 = a
        · rw [h4, un_s, tb_x, if_neg (show ¬ j % 6 = b by omega)]
        · rw [un_n h4]
theorem k_n : (0 : Int32).toInt = 0 ∧ (5 : Int32).toInt = 5 ∧ (9 : Int32).toInt = 9 ∧ (50 : Int32).toInt = 50 ∧ (1500 : Int32).toInt = 1500 ∧ (1900 : Int32).toInt = 1900 ∧ (80000 : Int32).toInt = 80000 := ⟨rfl, rfl, rfl, rfl, rfl, rfl, rfl⟩
def spUi (ok : Prop) [Decidable ok] (f : Nat → Int32) (i : Nat) (v : Int32) : Nat → Int32 := if ok then upd f i v else f
theorem spUi_y {ok : Prop} [Decidable ok] {f : Nat → Int32} {i : Nat} {v : Int32} (h : ok) : spUi ok f i v = upd f i v := if_pos h
theorem spUi_n {ok : Prop} [Decidable ok] {f : Nat → Int32} {i : Nat} {v : Int32} (h : ¬ ok) : spUi ok f i v = f := if_neg h
theorem wrF_neg {v lo hi : Int32} (h : ¬ wrF v lo hi = 0) : (wrF v lo hi).toInt < 0 := by
  revert h; unfold wrF
  split
  · intro _; decide
  · split
    · intro _; decide
    · intro h; exact absurd rfl h
theorem wrF_r (v lo hi : Int32) (h : ¬ wrF v lo hi = 0) : v.toInt < lo.toInt ∨ hi.toInt < v.toInt := by
  unfold wrF at h
  split at h
  · omega
  · split at h
    · omega
    · exact absurd rfl h
set_option maxHeartbeats 4000000 in
theorem bX9_refuse {l : Launch} {G : xG} {h : List va_E} {sp fa nb ns nm nv sh : Nat} {ho ow sl : Int32} {rg : Nat → Int32} {x : Int32} {q : Nat} (h88 : h[88]? = some (oB 9 (lM G (nI sp) (nI fa) (nI nb) (nI ns) (nI nm) ho ow sl (nI nv) (nI sh)))) (h89 : h[89]? = some (aI 7 rg)) (bq : q < 7) (eq : x = -(nI q)) : CE l G yX9_refuse cX9_refuse 2 (some .int) 0 0 0 [.ref (G.1 + 88), .int x] h (some (.int x)) (fun h1 => ∃ rg1 : Nat → Int32, h1[89]? = some (aI 7 rg1) ∧ rng 89 89 h h1) := by
  refine cm_ofQ rfl (Nat.le_of_ble_eq_true rfl) [(0, .ref (G.1 + 88)), (1, .int x)] rfl (fun QF hQF => ?_)
  refine aw_aload_n 0 dX9_refuse_0 rfl rfl ?_
  refine aw_get fX9_7 dX9_refuse_1 h88 rfl ?_
  refine aw_iload_n 1 dX9_refuse_4 rfl rfl ?_
  refine aw_ineg dX9_refuse_5 ?_
  refine aw_toe (nI q) (by rw [eq]; exact neg_nI) ?_
  refine aw_dup2 dX9_refuse_6 rfl rfl ?_
  refine aw_iald q (rfl) (by omega) (by decide) dX9_refuse_7 h89 ?_
  refine aw_iconst (1) dX9_refuse_8 (by decide) ?_
  refine aw_iadd dX9_refuse_9 ?_
  refine aw_iast q (rfl) (by omega) (by decide) dX9_refuse_10 h89 ?_
  refine aw_iload_n 1 dX9_refuse_11 rfl rfl ?_
  subst hQF
  exact aw_iret rfl dX9_refuse_12 (by decide) (by decide) ⟨rfl, _, (gs h89), rng_set (rng_rf 89 89 h) (by decide) (by decide)⟩
set_option maxHeartbeats 4000000 in
theorem oX9_means {l : Launch} {G : xG} {h : List va_E} {sp fa nb ns nm nv sh : Nat} {ho ow sl : Int32} {rg : Nat → Int32} {m : Nat → Nat} {w o : Int32} (h88 : h[88]? = some (oB 9 (lM G (nI sp) (nI fa) (nI nb) (nI ns) (nI nm) ho ow sl (nI nv) (nI sh)))) (h89 : h[89]? = some (aI 7 rg)) (h90 : h[90]? = some (aI 20 (nA m))) (hm : ∀ j, j < 20 → m j ≤ j) : CE l G yX9_means cX9_means 4 (some .int) 2 0 0 [.ref (G.1 + 88), .int w, .int o] h (some (.int ((spMeans m w o).1))) (fun h1 => ∃ rg1 : Nat → Int32, h1[90]? = some (aI 20 (nA (spMeans m w o).2)) ∧ h1[89]? = some (aI 7 rg1) ∧ rng 89 90 h h1) := by
  refine cm_ofQ rfl (Nat.le_of_ble_eq_true rfl) [(0, .ref (G.1 + 88)), (1, .int w), (2, .int o)] rfl (fun QF hQF => ?_)
  refine aw_iload_n 1 dX9_means_0 rfl rfl ?_
  refine aw_bipush (20) dX9_means_1 (by decide) ?_
  refine aw_dS [.int w, .int 20] [] lX9_126 sX9_isIn mX9_isIn dX9_means_3 (bX9_isIn (x := w) (n := 20) (by omega)) rfl (Nat.le_of_ble_eq_true rfl) (by decide) (by decide) rfl ?_
  refine aw_if_eq 18 dX9_means_6 (by decide) (fun c6 => ?_) (fun c6 => ?_)
  · have t6 := ite_0 c6
    refine aw_aload_n 0 dX9_means_18 rfl rfl ?_
    refine aw_iconst (-1) dX9_means_19 (by decide) ?_
    refine aw_eV [.int (-1)] [] lX9_130 vX9_refuse mX9_refuse dX9_means_20 (bX9_refuse (sp := sp) (fa := fa) (nb := nb) (ns := ns) (nm := nm) (nv := nv) (sh := sh) (ho := ho) (ow := ow) (sl := sl) (rg := rg) (x := (-1)) (q := 1) h88 h89 (by decide) (by decide)) h88 rfl rfl rfl (Nat.le_of_ble_eq_true rfl) (by decide) (by decide) rfl (fun h1321 q1320 => ?_)
    obtain ⟨rg11319, f1322, k1323⟩ := q1320
    have f1324 := rng_at k1323 (by decide) h88
    have f1325 := rng_at k1323 (by decide) h90
    subst hQF
    have eS : spMeans m w o = ((-1), m) := by unfold spMeans; (repeat' split) <;> first | (exfalso; omega) | rfl
    exact aw_iret rfl dX9_means_23 (by decide) (by decide) ⟨by rw [eS], _, by rw [eS]; exact f1325, f1322, rng_tr (rng_rf 89 90 h) (rng_w k1323 (by decide) (by decide))⟩
  · have t6 := ite_1 c6
    refine aw_iload_n 2 dX9_means_9 rfl rfl ?_
    refine aw_bipush (20) dX9_means_10 (by decide) ?_
    refine aw_dS [.int o, .int 20] [] lX9_126 sX9_isIn mX9_isIn dX9_means_12 (bX9_isIn (x := o) (n := 20) (by omega)) rfl (Nat.le_of_ble_eq_true rfl) (by decide) (by decide) rfl ?_
    refine aw_if_ne 24 dX9_means_15 (by decide) (fun c15 => ?_) (fun c15 => ?_)
    · have t15 := ite_1 c15
      refine aw_iload_n 2 dX9_means_24 rfl rfl ?_
      refine aw_iload_n 1 dX9_means_25 rfl rfl ?_
      refine aw_icmp_le 36 dX9_means_26 (by decide) (fun c26 => ?_) (fun c26 => ?_)
      · have d26 := (j_le (a := o.toInt) (b := w.toInt) (rfl) (rfl)).mp c26
        obtain ⟨a, bb_a, ee_a⟩ := i_nat (x := w) (N := 20) (by omega) (by omega)
        subst ee_a
        have tt_a : (nI a).toInt = (a : Int) := nI_toInt (by omega)
        have nn_a : tn (nI a) = a := tn_nI (by omega)
        obtain ⟨b, bb_b, ee_b⟩ := i_nat (x := o) (N := 20) (by omega) (by omega)
        subst ee_b
        have tt_b : (nI b).toInt = (b : Int) := nI_toInt (by omega)
        have nn_b : tn (nI b) = b := tn_nI (by omega)
        refine aw_aload_n 0 dX9_means_36 rfl rfl ?_
        refine aw_get fX9_13 dX9_means_37 h88 rfl ?_
        refine aw_iload_n 1 dX9_means_40 rfl rfl ?_
        refine aw_iald a (rfl) (by omega) (by decide) dX9_means_41 h90 ?_
        refine aw_toe (nI (m a)) (rfl) ?_
        refine aw_istore_n [(3, .int (nI (m a))), (0, .ref (G.1 + 88)), (1, .int (nI a)), (2, .int (nI b))] dX9_means_42 rfl (by decide) rfl ?_
        refine aw_aload_n 1 dX9_means_43 rfl rfl ?_
        refine aw_get fX9_13 dX9_means_44 h88 rfl ?_
        refine aw_iload_n 2 dX9_means_47 rfl rfl ?_
        refine aw_iload_n 3 dX9_means_48 rfl rfl ?_
        refine aw_iast a (rfl) (by omega) (by decide) dX9_means_49 h90 ?_
        rw [nA_u (f := m) (i := a) (x := (nI b)) (v := b) (rfl)]
        refine aw_iload_n 0 dX9_means_50 rfl rfl ?_
        subst hQF
        have eS : spMeans m (nI a) (nI b) = ((nI (m a)), un m a b) := by unfold spMeans; (repeat' split) <;> first | (exfalso; omega) | rfl | (simp only [nn_a, nn_b]; done)
        exact aw_iret rfl dX9_means_51 (by decide) (by decide) ⟨by rw [eS], _, by rw [eS]; exact (gs h90), (gn (by decide) (h89)), rng_set (rng_rf 89 90 h) (by decide) (by decide)⟩
      · have d26 := mt (j_le (a := o.toInt) (b := w.toInt) (rfl) (rfl)).mpr c26
        refine aw_aload_n 0 dX9_means_29 rfl rfl ?_
        refine aw_bipush (-4) dX9_means_30 (by decide) ?_
        refine aw_eV [.int (-4)] [] lX9_130 vX9_refuse mX9_refuse dX9_means_32 (bX9_refuse (sp := sp) (fa := fa) (nb := nb) (ns := ns) (nm := nm) (nv := nv) (sh := sh) (ho := ho) (ow := ow) (sl := sl) (rg := rg) (x := (-4)) (q := 4) h88 h89 (by decide) (by decide)) h88 rfl rfl rfl (Nat.le_of_ble_eq_true rfl) (by decide) (by decide) rfl (fun h1328 q1327 => ?_)
        obtain ⟨rg11326, f1329, k1330⟩ := q1327
        have f1331 := rng_at k1330 (by decide) h88
        have f1332 := rng_at k1330 (by decide) h90
        subst hQF
        have eS : spMeans m w o = ((-4), m) := by unfold spMeans; (repeat' split) <;> first | (exfalso; omega) | rfl
        exact aw_iret rfl dX9_means_35 (by decide) (by decide) ⟨by rw [eS], _, by rw [eS]; exact f1332, f1329, rng_tr (rng_rf 89 90 h) (rng_w k1330 (by decide) (by decide))⟩
    · have t15 := ite_0 c15
      refine aw_aload_n 0 dX9_means_18 rfl rfl ?_
      refine aw_iconst (-1) dX9_means_19 (by decide) ?_
      refine aw_eV [.int (-1)] [] lX9_130 vX9_refuse mX9_refuse dX9_means_20 (bX9_refuse (sp := sp) (fa := fa) (nb := nb) (ns := ns) (nm := nm) (nv := nv) (sh := sh) (ho := ho) (ow := ow) (sl := sl) (rg := rg) (x := (-1)) (q := 1) h88 h89 (by decide) (by decide)) h88 rfl rfl rfl (Nat.le_of_ble_eq_true rfl) (by decide) (by decide) rfl (fun h1335 q1334 => ?_)
      obtain ⟨rg11333, f1336, k1337⟩ := q1334
      have f1338 := rng_at k1337 (by decide) h88
      have f1339 := rng_at k1337 (by decide) h90
      subst hQF
      have eS : spMeans m w o = ((-1), m) := by unfold spMeans; (repeat' split) <;> first | (exfalso; omega) | rfl
      exact aw_iret rfl dX9_means_23 (by decide) (by decide) ⟨by rw [eS], _, by rw [eS]; exact f1339, f1336, rng_tr (rng_rf 89 90 h) (rng_w k1337 (by decide) (by decide))⟩
set_option maxHeartbeats 4000000 in
theorem oX9_senseOf {l : Launch} {G : xG} {h : List va_E} {sp fa nb ns nm nv sh : Nat} {ho ow sl : Int32} {m : Nat → Nat} {w : Nat} (h88 : h[88]? = some (oB 9 (lM G (nI sp) (nI fa) (nI nb) (nI ns) (nI nm) ho ow sl (nI nv) (nI sh)))) (h90 : h[90]? = some (aI 20 (nA m))) (hm : ∀ j, j < 20 → m j ≤ j) (bw : w < 20) : CD l G yX9_senseOf cX9_senseOf 3 (some .int) 0 0 0 [.ref (G.1 + 88), .int (nI w)] h (some (.int (nI (root m w)))) h := by
  refine cm_ofQ rfl (Nat.le_of_ble_eq_true rfl) [(0, .ref (G.1 + 88)), (1, .int (nI w))] rfl (fun QF hQF => ?_)
  refine aw_iload_n 1 dX9_senseOf_0 rfl rfl ?_
  refine aw_istore_n [(2, .int (nI w)), (0, .ref (G.1 + 88)), (1, .int (nI w))] dX9_senseOf_1 rfl (by decide) rfl ?_
  refine aw_lv [(2, .int (nI w)), (1, .int (nI w)), (0, .ref (G.1 + 88))] [0, 2, 1] rfl ?_
  suffices L1340 : ∀ (mm : Nat) (x : Nat), x < mm → (x < 20) → (root m x = root m w) → AW l G yX9_senseOf cX9_senseOf 3 (some .int) (xR 0 0 0) (fun _ _ => True) QF 0 0 2 [(2, .int (nI x)), (1, .int (nI w)), (0, .ref (G.1 + 88))] [] h from L1340 (w + 1) w (Nat.lt_succ_self _) (bw) (rfl)
  intro mm
  induction mm with
  | zero =>
    intro x hmm hx hr
    exact absurd hmm (Nat.not_lt_zero _)
  | succ mm ih1340 =>
    intro x hmm hx hr
    refine aw_aload_n 2 dX9_senseOf_2 rfl rfl ?_
    refine aw_get fX9_13 dX9_senseOf_3 h88 rfl ?_
    refine aw_iload_n 0 dX9_senseOf_6 rfl rfl ?_
    refine aw_iald x (rfl) (by omega) (by decide) dX9_senseOf_7 h90 ?_
    refine aw_toe (nI (m x)) (rfl) ?_
    have b1341 := hm x (by omega)
    refine aw_iload_n 0 dX9_senseOf_8 rfl rfl ?_
    refine aw_icmp_eq 22 dX9_senseOf_9 (by decide) (fun c9 => ?_) (fun c9 => ?_)
    · have d9 := (nv_eq (a := m x) (b := x) (rfl) (rfl) (by omega) (by omega)).mp c9
      refine aw_iload_n 0 dX9_senseOf_22 rfl rfl ?_
      subst hQF
      exact aw_iret rfl dX9_senseOf_23 (by decide) (by decide) ⟨by rw [← hr, root_fix (by omega)], rfl⟩
    · have d9 := mt (nv_eq (a := m x) (b := x) (rfl) (rfl) (by omega) (by omega)).mpr c9
      refine aw_aload_n 2 dX9_senseOf_12 rfl rfl ?_
      refine aw_get fX9_13 dX9_senseOf_13 h88 rfl ?_
      refine aw_iload_n 0 dX9_senseOf_16 rfl rfl ?_
      refine aw_iald x (rfl) (by omega) (by decide) dX9_senseOf_17 h90 ?_
      refine aw_toe (nI (m x)) (rfl) ?_
      have b1342 := hm x (by omega)
      refine aw_istore_n [(2, .int (nI (m x))), (1, .int (nI w)), (0, .ref (G.1 + 88))] dX9_senseOf_18 rfl (by decide) rfl ?_
      refine aw_goto 2 dX9_senseOf_19 (by decide) ?_
      refine aw_lv [(2, .int (nI (m x))), (1, .int (nI w)), (0, .ref (G.1 + 88))] [0, 1, 2] rfl ?_
      exact ih1340 (m x) (by omega) (by omega) ((root_st (m := m) (w := x) (by omega)).symm.trans hr)
set_option maxHeartbeats 4000000 in
theorem oX9_sense {l : Launch} {G : xG} {h : List va_E} {sp fa nb ns nm nv sh : Nat} {ho ow sl : Int32} {rg : Nat → Int32} {m : Nat → Nat} {w : Int32} (h88 : h[88]? = some (oB 9 (lM G (nI sp) (nI fa) (nI nb) (nI ns) (nI nm) ho ow sl (nI nv) (nI sh)))) (h89 : h[89]? = some (aI 7 rg)) (h90 : h[90]? = some (aI 20 (nA m))) (hm : ∀ j, j < 20 → m j ≤ j) : CE l G yX9_sense cX9_sense 2 (some .int) 2 0 0 [.ref (G.1 + 88), .int w] h (some (.int (spSense m w))) (fun h1 => ∃ rg1 : Nat → Int32, h1[89]? = some (aI 7 rg1) ∧ rng 89 89 h h1) := by
  refine cm_ofQ rfl (Nat.le_of_ble_eq_true rfl) [(0, .ref (G.1 + 88)), (1, .int w)] rfl (fun QF hQF => ?_)
  refine aw_iload_n 1 dX9_sense_0 rfl rfl ?_
  refine aw_bipush (20) dX9_sense_1 (by decide) ?_
  refine aw_dS [.int w, .int 20] [] lX9_126 sX9_isIn mX9_isIn dX9_sense_3 (bX9_isIn (x := w) (n := 20) (by omega)) rfl (Nat.le_of_ble_eq_true rfl) (by decide) (by decide) rfl ?_
  refine aw_if_eq 17 dX9_sense_6 (by decide) (fun c6 => ?_) (fun c6 => ?_)
  · have t6 := ite_0 c6
    refine aw_aload_n 0 dX9_sense_17 rfl rfl ?_
    refine aw_iconst (-1) dX9_sense_18 (by decide) ?_
    refine aw_eV [.int (-1)] [] lX9_130 vX9_refuse mX9_refuse dX9_sense_19 (bX9_refuse (sp := sp) (fa := fa) (nb := nb) (ns := ns) (nm := nm) (nv := nv) (sh := sh) (ho := ho) (ow := ow) (sl := sl) (rg := rg) (x := (-1)) (q := 1) h88 h89 (by decide) (by decide)) h88 rfl rfl rfl (Nat.le_of_ble_eq_true rfl) (by decide) (by decide) rfl (fun h1345 q1344 => ?_)
    obtain ⟨rg11343, f1346, k1347⟩ := q1344
    have f1348 := rng_at k1347 (by decide) h88
    have f1349 := rng_at k1347 (by decide) h90
    subst hQF
    exact aw_iret rfl dX9_sense_22 (by decide) (by decide) ⟨by unfold spSense; rw [if_neg (by omega)], _, f1346, rng_tr (rng_rf 89 89 h) (rng_w k1347 (by decide) (by decide))⟩
  · have t6 := ite_1 c6
    obtain ⟨a, bb_a, ee_a⟩ := i_nat (x := w) (N := 20) (by omega) (by omega)
    subst ee_a
    have tt_a : (nI a).toInt = (a : Int) := nI_toInt (by omega)
    have nn_a : tn (nI a) = a := tn_nI (by omega)
    refine aw_aload_n 0 dX9_sense_9 rfl rfl ?_
    refine aw_iload_n 1 dX9_sense_10 rfl rfl ?_
    refine aw_dV [.int (nI a)] [] lX9_134 vX9_senseOf mX9_senseOf dX9_sense_11 (oX9_senseOf (sp := sp) (fa := fa) (nb := nb) (ns := ns) (nm := nm) (nv := nv) (sh := sh) (ho := ho) (ow := ow) (sl := sl) (m := m) (w := a) h88 h90 hm (by omega)) h88 rfl rfl rfl (Nat.le_of_ble_eq_true rfl) (by decide) (by decide) rfl ?_
    refine aw_goto 22 dX9_sense_14 (by decide) ?_
    subst hQF
    exact aw_iret rfl dX9_sense_22 (by decide) (by decide) ⟨by unfold spSense; rw [if_pos (by omega), nn_a], _, h89, rng_rf 89 89 h⟩
set_option maxHeartbeats 4000000 in
theorem oX9_year {l : Launch} {G : xG} {h : List va_E} {sp fa nb ns nm nv sh : Nat} {ho ow sl : Int32} {rg : Nat → Int32} {ye : Nat → Nat} {c y : Int32} (h88 : h[88]? = some (oB 9 (lM G (nI sp) (nI fa) (nI nb) (nI ns) (nI nm) ho ow sl (nI nv) (nI sh)))) (h89 : h[89]? = some (aI 7 rg)) (h91 : h[91]? = some (aI 4 (nA ye))) (hye : ∀ j, j < 4 → ye j < 1901) : CE l G yX9_year cX9_year 5 (some .int) 2 0 0 [.ref (G.1 + 88), .int c, .int y] h (some (.int ((spYear ye c y).1))) (fun h1 => ∃ rg1 : Nat → Int32, h1[91]? = some (aI 4 (nA (spYear ye c y).2)) ∧ h1[89]? = some (aI 7 rg1) ∧ rg2 89 89 91 91 h h1) := by
  refine cm_ofQ rfl (Nat.le_of_ble_eq_true rfl) [(0, .ref (G.1 + 88)), (1, .int c), (2, .int y)] rfl (fun QF hQF => ?_)
  refine aw_iload_n 1 dX9_year_0 rfl rfl ?_
  refine aw_iconst (4) dX9_year_1 (by decide) ?_
  refine aw_dS [.int c, .int 4] [] lX9_126 sX9_isIn mX9_isIn dX9_year_2 (bX9_isIn (x := c) (n := 4) (by omega)) rfl (Nat.le_of_ble_eq_true rfl) (by decide) (by decide) rfl ?_
  refine aw_if_eq 21 dX9_year_5 (by decide) (fun c5 => ?_) (fun c5 => ?_)
  · have t5 := ite_0 c5
    refine aw_iconst (-1) dX9_year_21 (by decide) ?_
    refine aw_istore_n [(3, .int (-1)), (0, .ref (G.1 + 88)), (1, .int c), (2, .int y)] dX9_year_22 rfl (by decide) rfl ?_
    refine aw_iload_n 0 dX9_year_23 rfl rfl ?_
    refine aw_if_eq 33 dX9_year_24 (by decide) (fun c24 => absurd c24 (by decide)) (fun c24 => ?_)
    refine aw_aload_n 1 dX9_year_27 rfl rfl ?_
    refine aw_iload_n 0 dX9_year_28 rfl rfl ?_
    refine aw_eV [.int (-1)] [] lX9_130 vX9_refuse mX9_refuse dX9_year_29 (bX9_refuse (sp := sp) (fa := fa) (nb := nb) (ns := ns) (nm := nm) (nv := nv) (sh := sh) (ho := ho) (ow := ow) (sl := sl) (rg := rg) (x := (-1)) (q := 1) h88 h89 (by decide) (by decide)) h88 rfl rfl rfl (Nat.le_of_ble_eq_true rfl) (by decide) (by decide) rfl (fun h1352 q1351 => ?_)
    obtain ⟨rg11350, f1353, k1354⟩ := q1351
    have f1355 := rng_at k1354 (by decide) h88
    have f1356 := rng_at k1354 (by decide) h91
    subst hQF
    have eS : spYear ye c y = ((-1), ye) := by unfold spYear; (repeat' split) <;> first | (exfalso; omega) | rfl
    exact aw_iret rfl dX9_year_32 (by decide) (by decide) ⟨by rw [eS], _, by rw [eS]; exact f1356, f1353, rg2_tr (rg2_rf 89 89 91 91 h) (rg2_w k1354 (by decide))⟩
  · have t5 := ite_1 c5
    refine aw_iload_n 2 dX9_year_8 rfl rfl ?_
    refine aw_sipush (1500) dX9_year_9 (by decide) ?_
    refine aw_sipush (1900) dX9_year_12 (by decide) ?_
    refine aw_dS [.int y, .int 1500, .int 1900] [] lX9_137 sX9_wrong mX9_wrong dX9_year_15 (bX9_wrong (x := y) (y := 1500) (z := 1900) ) rfl (Nat.le_of_ble_eq_true rfl) (by decide) (by decide) rfl ?_
    refine aw_goto 22 dX9_year_18 (by decide) ?_
    refine aw_istore_n [(3, .int (wrF y 1500 1900)), (0, .ref (G.1 + 88)), (1, .int c), (2, .int y)] dX9_year_22 rfl (by decide) rfl ?_
    refine aw_iload_n 0 dX9_year_23 rfl rfl ?_
    refine aw_if_eq 33 dX9_year_24 (by decide) (fun c24 => ?_) (fun c24 => ?_)
    · have d24 := (j_eq (a := (wrF y 1500 1900).toInt) (b := (0)) (rfl) (rfl)).mp c24
      have hw : 1500 ≤ y.toInt ∧ y.toInt ≤ 1900 := wrF_0 c24
      obtain ⟨a, bb_a, ee_a⟩ := i_nat (x := c) (N := 4) (by omega) (by omega)
      subst ee_a
      have tt_a : (nI a).toInt = (a : Int) := nI_toInt (by omega)
      have nn_a : tn (nI a) = a := tn_nI (by omega)
      obtain ⟨b, bb_b, ee_b⟩ := i_nat (x := y) (N := 1901) (by omega) (by omega)
      subst ee_b
      have tt_b : (nI b).toInt = (b : Int) := nI_toInt (by omega)
      have nn_b : tn (nI b) = b := tn_nI (by omega)
      refine aw_aload_n 1 dX9_year_33 rfl rfl ?_
      refine aw_get fX9_16 dX9_year_34 h88 rfl ?_
      refine aw_iload_n 2 dX9_year_37 rfl rfl ?_
      refine aw_iald a (rfl) (by omega) (by decide) dX9_year_38 h91 ?_
      refine aw_toe (nI (ye a)) (rfl) ?_
      refine aw_istore [(4, .int (nI (ye a))), (3, .int (wrF (nI b) 1500 1900)), (0, .ref (G.1 + 88)), (1, .int (nI a)), (2, .int (nI b))] dX9_year_39 (by decide) rfl ?_
      refine aw_aload_n 2 dX9_year_41 rfl rfl ?_
      refine aw_get fX9_16 dX9_year_42 h88 rfl ?_
      refine aw_iload_n 3 dX9_year_45 rfl rfl ?_
      refine aw_iload_n 4 dX9_year_46 rfl rfl ?_
      refine aw_iast a (rfl) (by omega) (by decide) dX9_year_47 h91 ?_
      rw [nA_u (f := ye) (i := a) (x := (nI b)) (v := b) (rfl)]
      refine aw_iload 0 dX9_year_48 rfl ?_
      subst hQF
      have eS : spYear ye (nI a) (nI b) = ((nI (ye a)), un ye a b) := by unfold spYear; (repeat' split) <;> first | (exfalso; omega) | rfl | (simp only [nn_a, nn_b]; done)
      exact aw_iret rfl dX9_year_50 (by decide) (by decide) ⟨by rw [eS], _, by rw [eS]; exact (gs h91), (gn (by decide) (h89)), rg2_set (rg2_rf 89 89 91 91 h) (by decide)⟩
    · have d24 := mt (j_eq (a := (wrF y 1500 1900).toInt) (b := (0)) (rfl) (rfl)).mpr c24
      refine aw_aload_n 1 dX9_year_27 rfl rfl ?_
      refine aw_iload_n 0 dX9_year_28 rfl rfl ?_
      obtain ⟨q1357, bq1357, eq1357⟩ := Or.resolve_left (wrF_q y 1500 1900) (by assumption)
      refine aw_eV [.int (wrF y 1500 1900)] [] lX9_130 vX9_refuse mX9_refuse dX9_year_29 (bX9_refuse (sp := sp) (fa := fa) (nb := nb) (ns := ns) (nm := nm) (nv := nv) (sh := sh) (ho := ho) (ow := ow) (sl := sl) (rg := rg) (x := (wrF y 1500 1900)) (q := q1357) h88 h89 bq1357 eq1357) h88 rfl rfl rfl (Nat.le_of_ble_eq_true rfl) (by decide) (by decide) rfl (fun h1360 q1359 => ?_)
      obtain ⟨rg11358, f1361, k1362⟩ := q1359
      have f1363 := rng_at k1362 (by decide) h88
      have f1364 := rng_at k1362 (by decide) h91
      subst hQF
      have q9 := wrF_r y 1500 1900 (by assumption)
      try simp only [k_n.1, k_n.2.1, k_n.2.2.1, k_n.2.2.2.1, k_n.2.2.2.2.1, k_n.2.2.2.2.2.1, k_n.2.2.2.2.2.2] at q9
      have eS : spYear ye c y = ((wrF y 1500 1900), ye) := by unfold spYear; unfold wrF; (try simp only [k_n.1, k_n.2.1, k_n.2.2.1, k_n.2.2.2.1, k_n.2.2.2.2.1, k_n.2.2.2.2.2.1, k_n.2.2.2.2.2.2]); (repeat' split) <;> first | (exfalso; omega) | rfl
      exact aw_iret rfl dX9_year_32 (by decide) (by decide) ⟨by rw [eS], _, by rw [eS]; exact f1364, f1361, rg2_tr (rg2_rf 89 89 91 91 h) (rg2_w k1362 (by decide))⟩
set_option maxHeartbeats 4000000 in
theorem oX9_entry {l : Launch} {G : xG} {h : List va_E} {sp fa nb ns nm nv sh : Nat} {ho ow sl : Int32} {rg : Nat → Int32} {fi : Nat → Nat} {W Z Ro Co : Nat → Int32} {c w s r u : Int32} (h88 : h[88]? = some (oB 9 (lM G (nI sp) (nI fa) (nI nb) (nI ns) (nI nm) ho ow sl (nI nv) (nI sh)))) (h89 : h[89]? = some (aI 7 rg)) (h92 : h[92]? = some (aI 4 (nA fi))) (h93 : h[93]? = some (aI 40 W)) (h94 : h[94]? = some (aI 40 Z)) (h95 : h[95]? = some (aI 40 Ro)) (h96 : h[96]? = some (aI 40 Co)) (hfi : ∀ j, j < 4 → fi j < 11) : CE l G yX9_entry cX9_entry 7 (some .int) 2 0 0 [.ref (G.1 + 88), .int c, .int w, .int s, .int r, .int u] h (some (.int (spEntryC fi c w s r u))) (fun h1 => ∃ rg1 : Nat → Int32, h1[92]? = some (aI 4 (nA (spUn (0 ≤ (spEntryC fi c w s r u).toInt) fi (tn c) (fi (tn c) + 1)))) ∧ h1[93]? = some (aI 40 (spUp fi c (0 ≤ (spEntryC fi c w s r u).toInt) W w)) ∧ h1[94]? = some (aI 40 (spUp fi c (0 ≤ (spEntryC fi c w s r u).toInt) Z s)) ∧ h1[95]? = some (aI 40 (spUp fi c (0 ≤ (spEntryC fi c w s r u).toInt) Ro r)) ∧ h1[96]? = some (aI 40 (spUp fi c (0 ≤ (spEntryC fi c w s r u).toInt) Co u)) ∧ h1[89]? = some (aI 7 rg1) ∧ rg2 89 89 92 96 h h1) := by
  refine cm_ofQ rfl (Nat.le_of_ble_eq_true rfl) [(0, .ref (G.1 + 88)), (1, .int c), (2, .int w), (3, .int s), (4, .int r), (5, .int u)] rfl (fun QF hQF => ?_)
  refine aw_iload_n 1 dX9_entry_0 rfl rfl ?_
  refine aw_iconst (4) dX9_entry_1 (by decide) ?_
  refine aw_dS [.int c, .int 4] [] lX9_126 sX9_isIn mX9_isIn dX9_entry_2 (bX9_isIn (x := c) (n := 4) (by omega)) rfl (Nat.le_of_ble_eq_true rfl) (by decide) (by decide) rfl ?_
  refine aw_if_eq 18 dX9_entry_5 (by decide) (fun c5 => ?_) (fun c5 => ?_)
  · have t5 := ite_0 c5
    refine aw_aload_n 0 dX9_entry_18 rfl rfl ?_
    refine aw_iconst (-1) dX9_entry_19 (by decide) ?_
    refine aw_eV [.int (-1)] [] lX9_130 vX9_refuse mX9_refuse dX9_entry_20 (bX9_refuse (sp := sp) (fa := fa) (nb := nb) (ns := ns) (nm := nm) (nv := nv) (sh := sh) (ho := ho) (ow := ow) (sl := sl) (rg := rg) (x := (-1)) (q := 1) h88 h89 (by decide) (by decide)) h88 rfl rfl rfl (Nat.le_of_ble_eq_true rfl) (by decide) (by decide) rfl (fun h1367 q1366 => ?_)
    obtain ⟨rg11365, f1368, k1369⟩ := q1366
    have f1370 := rng_at k1369 (by decide) h88
    have f1371 := rng_at k1369 (by decide) h92
    have f1372 := rng_at k1369 (by decide) h93
    have f1373 := rng_at k1369 (by decide) h94
    have f1374 := rng_at k1369 (by decide) h95
    have f1375 := rng_at k1369 (by decide) h96
    subst hQF
    have eS : (spEntryC fi c w s r u) = (-1) := by unfold spEntryC; (repeat' split) <;> first | (exfalso; omega) | rfl
    have ok9 : ¬ 0 ≤ (spEntryC fi c w s r u).toInt := by rw [eS]; decide
    exact aw_iret rfl dX9_entry_23 (by decide) (by decide) ⟨by rw [eS], _, by rw [spUn_n ok9]; exact f1371, by rw [spUp_n ok9]; exact f1372, by rw [spUp_n ok9]; exact f1373, by rw [spUp_n ok9]; exact f1374, by rw [spUp_n ok9]; exact f1375, f1368, rg2_tr (rg2_rf 89 89 92 96 h) (rg2_w k1369 (by decide))⟩
  · have t5 := ite_1 c5
    refine aw_iload_n 2 dX9_entry_8 rfl rfl ?_
    refine aw_if_lt 18 dX9_entry_9 (by decide) (fun c9 => ?_) (fun c9 => ?_)
    · have d9 := (j_lt (a := w.toInt) (b := (0)) (rfl) (rfl)).mp c9
      refine aw_aload_n 0 dX9_entry_18 rfl rfl ?_
      refine aw_iconst (-1) dX9_entry_19 (by decide) ?_
      refine aw_eV [.int (-1)] [] lX9_130 vX9_refuse mX9_refuse dX9_entry_20 (bX9_refuse (sp := sp) (fa := fa) (nb := nb) (ns := ns) (nm := nm) (nv := nv) (sh := sh) (ho := ho) (ow := ow) (sl := sl) (rg := rg) (x := (-1)) (q := 1) h88 h89 (by decide) (by decide)) h88 rfl rfl rfl (Nat.le_of_ble_eq_true rfl) (by decide) (by decide) rfl (fun h1378 q1377 => ?_)
      obtain ⟨rg11376, f1379, k1380⟩ := q1377
      have f1381 := rng_at k1380 (by decide) h88
      have f1382 := rng_at k1380 (by decide) h92
      have f1383 := rng_at k1380 (by decide) h93
      have f1384 := rng_at k1380 (by decide) h94
      have f1385 := rng_at k1380 (by decide) h95
      have f1386 := rng_at k1380 (by decide) h96
      subst hQF
      have eS : (spEntryC fi c w s r u) = (-1) := by unfold spEntryC; (repeat' split) <;> first | (exfalso; omega) | rfl
      have ok9 : ¬ 0 ≤ (spEntryC fi c w s r u).toInt := by rw [eS]; decide
      exact aw_iret rfl dX9_entry_23 (by decide) (by decide) ⟨by rw [eS], _, by rw [spUn_n ok9]; exact f1382, by rw [spUp_n ok9]; exact f1383, by rw [spUp_n ok9]; exact f1384, by rw [spUp_n ok9]; exact f1385, by rw [spUp_n ok9]; exact f1386, f1379, rg2_tr (rg2_rf 89 89 92 96 h) (rg2_w k1380 (by decide))⟩
    · have d9 := mt (j_lt (a := w.toInt) (b := (0)) (rfl) (rfl)).mpr c9
      refine aw_iload_n 2 dX9_entry_12 rfl rfl ?_
      refine aw_ldc (1048576) kX9_141 dX9_entry_13 ?_
      refine aw_icmp_lt 24 dX9_entry_15 (by decide) (fun c15 => ?_) (fun c15 => ?_)
      · have d15 := (j_lt (a := w.toInt) (b := (1048576)) (rfl) (rfl)).mp c15
        refine aw_iload_n 2 dX9_entry_24 rfl rfl ?_
        refine aw_if_eq 43 dX9_entry_25 (by decide) (fun c25 => ?_) (fun c25 => ?_)
        · have d25 := (j_eq (a := w.toInt) (b := (0)) (rfl) (rfl)).mp c25
          refine aw_aload_n 0 dX9_entry_43 rfl rfl ?_
          refine aw_bipush (-4) dX9_entry_44 (by decide) ?_
          refine aw_eV [.int (-4)] [] lX9_130 vX9_refuse mX9_refuse dX9_entry_46 (bX9_refuse (sp := sp) (fa := fa) (nb := nb) (ns := ns) (nm := nm) (nv := nv) (sh := sh) (ho := ho) (ow := ow) (sl := sl) (rg := rg) (x := (-4)) (q := 4) h88 h89 (by decide) (by decide)) h88 rfl rfl rfl (Nat.le_of_ble_eq_true rfl) (by decide) (by decide) rfl (fun h1389 q1388 => ?_)
          obtain ⟨rg11387, f1390, k1391⟩ := q1388
          have f1392 := rng_at k1391 (by decide) h88
          have f1393 := rng_at k1391 (by decide) h92
          have f1394 := rng_at k1391 (by decide) h93
          have f1395 := rng_at k1391 (by decide) h94
          have f1396 := rng_at k1391 (by decide) h95
          have f1397 := rng_at k1391 (by decide) h96
          subst hQF
          have eS : (spEntryC fi c w s r u) = (-4) := by unfold spEntryC; (repeat' split) <;> first | (exfalso; omega) | rfl
          have ok9 : ¬ 0 ≤ (spEntryC fi c w s r u).toInt := by rw [eS]; decide
          exact aw_iret rfl dX9_entry_49 (by decide) (by decide) ⟨by rw [eS], _, by rw [spUn_n ok9]; exact f1393, by rw [spUp_n ok9]; exact f1394, by rw [spUp_n ok9]; exact f1395, by rw [spUp_n ok9]; exact f1396, by rw [spUp_n ok9]; exact f1397, f1390, rg2_tr (rg2_rf 89 89 92 96 h) (rg2_w k1391 (by decide))⟩
        · have d25 := mt (j_eq (a := w.toInt) (b := (0)) (rfl) (rfl)).mpr c25
          refine aw_iload_n 3 dX9_entry_28 rfl rfl ?_
          refine aw_iconst (1) dX9_entry_29 (by decide) ?_
          refine aw_icmp_lt 43 dX9_entry_30 (by decide) (fun c30 => ?_) (fun c30 => ?_)
          · have d30 := (j_lt (a := s.toInt) (b := (1)) (rfl) (rfl)).mp c30
            refine aw_aload_n 0 dX9_entry_43 rfl rfl ?_
            refine aw_bipush (-4) dX9_entry_44 (by decide) ?_
            refine aw_eV [.int (-4)] [] lX9_130 vX9_refuse mX9_refuse dX9_entry_46 (bX9_refuse (sp := sp) (fa := fa) (nb := nb) (ns := ns) (nm := nm) (nv := nv) (sh := sh) (ho := ho) (ow := ow) (sl := sl) (rg := rg) (x := (-4)) (q := 4) h88 h89 (by decide) (by decide)) h88 rfl rfl rfl (Nat.le_of_ble_eq_true rfl) (by decide) (by decide) rfl (fun h1400 q1399 => ?_)
            obtain ⟨rg11398, f1401, k1402⟩ := q1399
            have f1403 := rng_at k1402 (by decide) h88
            have f1404 := rng_at k1402 (by decide) h92
            have f1405 := rng_at k1402 (by decide) h93
            have f1406 := rng_at k1402 (by decide) h94
            have f1407 := rng_at k1402 (by decide) h95
            have f1408 := rng_at k1402 (by decide) h96
            subst hQF
            have eS : (spEntryC fi c w s r u) = (-4) := by unfold spEntryC; (repeat' split) <;> first | (exfalso; omega) | rfl
            have ok9 : ¬ 0 ≤ (spEntryC fi c w s r u).toInt := by rw [eS]; decide
            exact aw_iret rfl dX9_entry_49 (by decide) (by decide) ⟨by rw [eS], _, by rw [spUn_n ok9]; exact f1404, by rw [spUp_n ok9]; exact f1405, by rw [spUp_n ok9]; exact f1406, by rw [spUp_n ok9]; exact f1407, by rw [spUp_n ok9]; exact f1408, f1401, rg2_tr (rg2_rf 89 89 92 96 h) (rg2_w k1402 (by decide))⟩
          · have d30 := mt (j_lt (a := s.toInt) (b := (1)) (rfl) (rfl)).mpr c30
            refine aw_iload 4 dX9_entry_33 rfl ?_
            refine aw_if_lt 43 dX9_entry_35 (by decide) (fun c35 => ?_) (fun c35 => ?_)
            · have d35 := (j_lt (a := r.toInt) (b := (0)) (rfl) (rfl)).mp c35
              refine aw_aload_n 0 dX9_entry_43 rfl rfl ?_
              refine aw_bipush (-4) dX9_entry_44 (by decide) ?_
              refine aw_eV [.int (-4)] [] lX9_130 vX9_refuse mX9_refuse dX9_entry_46 (bX9_refuse (sp := sp) (fa := fa) (nb := nb) (ns := ns) (nm := nm) (nv := nv) (sh := sh) (ho := ho) (ow := ow) (sl := sl) (rg := rg) (x := (-4)) (q := 4) h88 h89 (by decide) (by decide)) h88 rfl rfl rfl (Nat.le_of_ble_eq_true rfl) (by decide) (by decide) rfl (fun h1411 q1410 => ?_)
              obtain ⟨rg11409, f1412, k1413⟩ := q1410
              have f1414 := rng_at k1413 (by decide) h88
              have f1415 := rng_at k1413 (by decide) h92
              have f1416 := rng_at k1413 (by decide) h93
              have f1417 := rng_at k1413 (by decide) h94
              have f1418 := rng_at k1413 (by decide) h95
              have f1419 := rng_at k1413 (by decide) h96
              subst hQF
              have eS : (spEntryC fi c w s r u) = (-4) := by unfold spEntryC; (repeat' split) <;> first | (exfalso; omega) | rfl
              have ok9 : ¬ 0 ≤ (spEntryC fi c w s r u).toInt := by rw [eS]; decide
              exact aw_iret rfl dX9_entry_49 (by decide) (by decide) ⟨by rw [eS], _, by rw [spUn_n ok9]; exact f1415, by rw [spUp_n ok9]; exact f1416, by rw [spUp_n ok9]; exact f1417, by rw [spUp_n ok9]; exact f1418, by rw [spUp_n ok9]; exact f1419, f1412, rg2_tr (rg2_rf 89 89 92 96 h) (rg2_w k1413 (by decide))⟩
            · have d35 := mt (j_lt (a := r.toInt) (b := (0)) (rfl) (rfl)).mpr c35
              refine aw_iload 5 dX9_entry_38 rfl ?_
              refine aw_if_ge 50 dX9_entry_40 (by decide) (fun c40 => ?_) (fun c40 => ?_)
              · have d40 := (j_le (a := (0)) (b := u.toInt) (rfl) (rfl)).mp c40
                refine aw_iload_n 3 dX9_entry_50 rfl rfl ?_
                refine aw_sipush (200) dX9_entry_51 (by decide) ?_
                refine aw_icmp_gt 82 dX9_entry_54 (by decide) (fun c54 => ?_) (fun c54 => ?_)
                · have d54 := (j_lt (a := (200)) (b := s.toInt) (rfl) (rfl)).mp c54
                  refine aw_aload_n 0 dX9_entry_82 rfl rfl ?_
                  refine aw_bipush (-6) dX9_entry_83 (by decide) ?_
                  refine aw_eV [.int (-6)] [] lX9_130 vX9_refuse mX9_refuse dX9_entry_85 (bX9_refuse (sp := sp) (fa := fa) (nb := nb) (ns := ns) (nm := nm) (nv := nv) (sh := sh) (ho := ho) (ow := ow) (sl := sl) (rg := rg) (x := (-6)) (q := 6) h88 h89 (by decide) (by decide)) h88 rfl rfl rfl (Nat.le_of_ble_eq_true rfl) (by decide) (by decide) rfl (fun h1422 q1421 => ?_)
                  obtain ⟨rg11420, f1423, k1424⟩ := q1421
                  have f1425 := rng_at k1424 (by decide) h88
                  have f1426 := rng_at k1424 (by decide) h92
                  have f1427 := rng_at k1424 (by decide) h93
                  have f1428 := rng_at k1424 (by decide) h94
                  have f1429 := rng_at k1424 (by decide) h95
                  have f1430 := rng_at k1424 (by decide) h96
                  subst hQF
                  have eS : (spEntryC fi c w s r u) = (-6) := by unfold spEntryC; (repeat' split) <;> first | (exfalso; omega) | rfl
                  have ok9 : ¬ 0 ≤ (spEntryC fi c w s r u).toInt := by rw [eS]; decide
                  exact aw_iret rfl dX9_entry_88 (by decide) (by decide) ⟨by rw [eS], _, by rw [spUn_n ok9]; exact f1426, by rw [spUp_n ok9]; exact f1427, by rw [spUp_n ok9]; exact f1428, by rw [spUp_n ok9]; exact f1429, by rw [spUp_n ok9]; exact f1430, f1423, rg2_tr (rg2_rf 89 89 92 96 h) (rg2_w k1424 (by decide))⟩
                · have d54 := mt (j_lt (a := (200)) (b := s.toInt) (rfl) (rfl)).mpr c54
                  refine aw_iload 4 dX9_entry_57 rfl ?_
                  refine aw_bipush (9) dX9_entry_59 (by decide) ?_
                  refine aw_icmp_gt 82 dX9_entry_61 (by decide) (fun c61 => ?_) (fun c61 => ?_)
                  · have d61 := (j_lt (a := (9)) (b := r.toInt) (rfl) (rfl)).mp c61
                    refine aw_aload_n 0 dX9_entry_82 rfl rfl ?_
                    refine aw_bipush (-6) dX9_entry_83 (by decide) ?_
                    refine aw_eV [.int (-6)] [] lX9_130 vX9_refuse mX9_refuse dX9_entry_85 (bX9_refuse (sp := sp) (fa := fa) (nb := nb) (ns := ns) (nm := nm) (nv := nv) (sh := sh) (ho := ho) (ow := ow) (sl := sl) (rg := rg) (x := (-6)) (q := 6) h88 h89 (by decide) (by decide)) h88 rfl rfl rfl (Nat.le_of_ble_eq_true rfl) (by decide) (by decide) rfl (fun h1433 q1432 => ?_)
                    obtain ⟨rg11431, f1434, k1435⟩ := q1432
                    have f1436 := rng_at k1435 (by decide) h88
                    have f1437 := rng_at k1435 (by decide) h92
                    have f1438 := rng_at k1435 (by decide) h93
                    have f1439 := rng_at k1435 (by decide) h94
                    have f1440 := rng_at k1435 (by decide) h95
                    have f1441 := rng_at k1435 (by decide) h96
                    subst hQF
                    have eS : (spEntryC fi c w s r u) = (-6) := by unfold spEntryC; (repeat' split) <;> first | (exfalso; omega) | rfl
                    have ok9 : ¬ 0 ≤ (spEntryC fi c w s r u).toInt := by rw [eS]; decide
                    exact aw_iret rfl dX9_entry_88 (by decide) (by decide) ⟨by rw [eS], _, by rw [spUn_n ok9]; exact f1437, by rw [spUp_n ok9]; exact f1438, by rw [spUp_n ok9]; exact f1439, by rw [spUp_n ok9]; exact f1440, by rw [spUp_n ok9]; exact f1441, f1434, rg2_tr (rg2_rf 89 89 92 96 h) (rg2_w k1435 (by decide))⟩
                  · have d61 := mt (j_lt (a := (9)) (b := r.toInt) (rfl) (rfl)).mpr c61
                    refine aw_iload 5 dX9_entry_64 rfl ?_
                    refine aw_bipush (99) dX9_entry_66 (by decide) ?_
                    refine aw_icmp_gt 82 dX9_entry_68 (by decide) (fun c68 => ?_) (fun c68 => ?_)
                    · have d68 := (j_lt (a := (99)) (b := u.toInt) (rfl) (rfl)).mp c68
                      refine aw_aload_n 0 dX9_entry_82 rfl rfl ?_
                      refine aw_bipush (-6) dX9_entry_83 (by decide) ?_
                      refine aw_eV [.int (-6)] [] lX9_130 vX9_refuse mX9_refuse dX9_entry_85 (bX9_refuse (sp := sp) (fa := fa) (nb := nb) (ns := ns) (nm := nm) (nv := nv) (sh := sh) (ho := ho) (ow := ow) (sl := sl) (rg := rg) (x := (-6)) (q := 6) h88 h89 (by decide) (by decide)) h88 rfl rfl rfl (Nat.le_of_ble_eq_true rfl) (by decide) (by decide) rfl (fun h1444 q1443 => ?_)
                      obtain ⟨rg11442, f1445, k1446⟩ := q1443
                      have f1447 := rng_at k1446 (by decide) h88
                      have f1448 := rng_at k1446 (by decide) h92
                      have f1449 := rng_at k1446 (by decide) h93
                      have f1450 := rng_at k1446 (by decide) h94
                      have f1451 := rng_at k1446 (by decide) h95
                      have f1452 := rng_at k1446 (by decide) h96
                      subst hQF
                      have eS : (spEntryC fi c w s r u) = (-6) := by unfold spEntryC; (repeat' split) <;> first | (exfalso; omega) | rfl
                      have ok9 : ¬ 0 ≤ (spEntryC fi c w s r u).toInt := by rw [eS]; decide
                      exact aw_iret rfl dX9_entry_88 (by decide) (by decide) ⟨by rw [eS], _, by rw [spUn_n ok9]; exact f1448, by rw [spUp_n ok9]; exact f1449, by rw [spUp_n ok9]; exact f1450, by rw [spUp_n ok9]; exact f1451, by rw [spUp_n ok9]; exact f1452, f1445, rg2_tr (rg2_rf 89 89 92 96 h) (rg2_w k1446 (by decide))⟩
                    · have d68 := mt (j_lt (a := (99)) (b := u.toInt) (rfl) (rfl)).mpr c68
                      obtain ⟨a, bb_a, ee_a⟩ := i_nat (x := c) (N := 4) (by omega) (by omega)
                      subst ee_a
                      have tt_a : (nI a).toInt = (a : Int) := nI_toInt (by omega)
                      have nn_a : tn (nI a) = a := tn_nI (by omega)
                      refine aw_aload_n 0 dX9_entry_71 rfl rfl ?_
                      refine aw_get fX9_19 dX9_entry_72 h88 rfl ?_
                      refine aw_iload_n 1 dX9_entry_75 rfl rfl ?_
                      refine aw_iald a (rfl) (by omega) (by decide) dX9_entry_76 h92 ?_
                      refine aw_toe (nI (fi a)) (rfl) ?_
                      have b1453 := hfi a (by omega)
                      refine aw_bipush (10) dX9_entry_77 (by decide) ?_
                      refine aw_icmp_ne 89 dX9_entry_79 (by decide) (fun c79 => ?_) (fun c79 => ?_)
                      · have d79 := mt (nv_eq (a := fi a) (b := 10) (rfl) (rfl) (by omega) (by omega)).mpr c79
                        refine aw_bipush (10) dX9_entry_89 (by decide) ?_
                        refine aw_iload_n 1 dX9_entry_91 rfl rfl ?_
                        refine aw_imul dX9_entry_92 ?_
                        refine aw_toe (nI (a * 10)) (by rw [Nat.mul_comm a 10]; exact nv_mul (rfl) (rfl)) ?_
                        refine aw_aload_n 0 dX9_entry_93 rfl rfl ?_
                        refine aw_get fX9_19 dX9_entry_94 h88 rfl ?_
                        refine aw_iload_n 1 dX9_entry_97 rfl rfl ?_
                        refine aw_iald a (rfl) (by omega) (by decide) dX9_entry_98 h92 ?_
                        refine aw_toe (nI (fi a)) (rfl) ?_
                        have b1454 := hfi a (by omega)
                        refine aw_iadd dX9_entry_99 ?_
                        refine aw_toe (nI ((a * 10) + (fi a))) (nv_add (rfl) (rfl)) ?_
                        refine aw_istore [(6, .int (nI ((a * 10) + (fi a)))), (0, .ref (G.1 + 88)), (1, .int (nI a)), (2, .int w), (3, .int s), (4, .int r), (5, .int u)] dX9_entry_100 (by decide) rfl ?_
                        refine aw_aload_n 1 dX9_entry_102 rfl rfl ?_
                        refine aw_get fX9_22 dX9_entry_103 h88 rfl ?_
                        refine aw_iload 0 dX9_entry_106 rfl ?_
                        refine aw_iload_n 3 dX9_entry_108 rfl rfl ?_
                        refine aw_iast ((a * 10) + (fi a)) (rfl) (by omega) (by decide) dX9_entry_109 h93 ?_
                        refine aw_aload_n 1 dX9_entry_110 rfl rfl ?_
                        refine aw_get fX9_25 dX9_entry_111 (gn (by decide) (h88)) rfl ?_
                        refine aw_iload 0 dX9_entry_114 rfl ?_
                        refine aw_iload_n 4 dX9_entry_116 rfl rfl ?_
                        refine aw_iast ((a * 10) + (fi a)) (rfl) (by omega) (by decide) dX9_entry_117 (gn (by decide) (h94)) ?_
                        refine aw_aload_n 1 dX9_entry_118 rfl rfl ?_
                        refine aw_get fX9_28 dX9_entry_119 (gn (by decide) (gn (by decide) (h88))) rfl ?_
                        refine aw_iload 0 dX9_entry_122 rfl ?_
                        refine aw_iload 5 dX9_entry_124 rfl ?_
                        refine aw_iast ((a * 10) + (fi a)) (rfl) (by omega) (by decide) dX9_entry_126 (gn (by decide) (gn (by decide) (h95))) ?_
                        refine aw_aload_n 1 dX9_entry_127 rfl rfl ?_
                        refine aw_get fX9_31 dX9_entry_128 (gn (by decide) (gn (by decide) (gn (by decide) (h88)))) rfl ?_
                        refine aw_iload 0 dX9_entry_131 rfl ?_
                        refine aw_iload 6 dX9_entry_133 rfl ?_
                        refine aw_iast ((a * 10) + (fi a)) (rfl) (by omega) (by decide) dX9_entry_135 (gn (by decide) (gn (by decide) (gn (by decide) (h96)))) ?_
                        refine aw_aload_n 1 dX9_entry_136 rfl rfl ?_
                        refine aw_get fX9_19 dX9_entry_137 (gn (by decide) (gn (by decide) (gn (by decide) (gn (by decide) (h88))))) rfl ?_
                        refine aw_iload_n 2 dX9_entry_140 rfl rfl ?_
                        refine aw_dup2 dX9_entry_141 rfl rfl ?_
                        refine aw_iald a (rfl) (by omega) (by decide) dX9_entry_142 (gn (by decide) (gn (by decide) (gn (by decide) (gn (by decide) (h92))))) ?_
                        refine aw_toe (nI (fi a)) (rfl) ?_
                        have b1455 := hfi a (by omega)
                        refine aw_iconst (1) dX9_entry_143 (by decide) ?_
                        refine aw_iadd dX9_entry_144 ?_
                        refine aw_toe (nI ((fi a) + 1)) (nv_add (rfl) (rfl)) ?_
                        refine aw_iast a (rfl) (by omega) (by decide) dX9_entry_145 (gn (by decide) (gn (by decide) (gn (by decide) (gn (by decide) (h92))))) ?_
                        rw [nA_u (f := fi) (i := a) (x := (nI ((fi a) + 1))) (v := (fi a) + 1) (rfl)]
                        refine aw_aload_n 1 dX9_entry_146 rfl rfl ?_
                        refine aw_get fX9_19 dX9_entry_147 (gn (by decide) (gn (by decide) (gn (by decide) (gn (by decide) (gn (by decide) (h88)))))) rfl ?_
                        refine aw_iload_n 2 dX9_entry_150 rfl rfl ?_
                        refine aw_iald a (rfl) (by omega) (by decide) dX9_entry_151 (gs (gn (by decide) (gn (by decide) (gn (by decide) (gn (by decide) (h92)))))) ?_
                        refine aw_toe (nI (fi a + 1)) (by simp only [nA, un_s]) ?_
                        refine aw_iconst (1) dX9_entry_152 (by decide) ?_
                        refine aw_isub dX9_entry_153 ?_
                        refine aw_toe (nI (fi a)) (nv_p1 (rfl)) ?_
                        subst hQF
                        have eS : (spEntryC fi (nI a) w s r u) = (nI (fi a)) := by unfold spEntryC; simp only [nn_a]; (repeat' split) <;> first | (exfalso; omega) | rfl
                        have ok9 : 0 ≤ (spEntryC fi (nI a) w s r u).toInt := by rw [eS, nI_toInt (by omega)]; omega
                        exact aw_iret rfl dX9_entry_154 (by decide) (by decide) ⟨by rw [eS], _, by rw [spUn_y ok9, nn_a]; exact (gs (gn (by decide) (gn (by decide) (gn (by decide) (gn (by decide) (h92)))))), by rw [spUp_y ok9, nn_a]; exact (gn (by decide) (gn (by decide) (gn (by decide) (gn (by decide) (gs h93))))), by rw [spUp_y ok9, nn_a]; exact (gn (by decide) (gn (by decide) (gn (by decide) (gs (gn (by decide) (h94)))))), by rw [spUp_y ok9, nn_a]; exact (gn (by decide) (gn (by decide) (gs (gn (by decide) (gn (by decide) (h95)))))), by rw [spUp_y ok9, nn_a]; exact (gn (by decide) (gs (gn (by decide) (gn (by decide) (gn (by decide) (h96)))))), (gn (by decide) (gn (by decide) (gn (by decide) (gn (by decide) (gn (by decide) (h89)))))), rg2_set (rg2_set (rg2_set (rg2_set (rg2_set (rg2_rf 89 89 92 96 h) (by decide)) (by decide)) (by decide)) (by decide)) (by decide)⟩
                      · have d79 := (nv_eq (a := fi a) (b := 10) (rfl) (rfl) (by omega) (by omega)).mp c79
                        refine aw_aload_n 0 dX9_entry_82 rfl rfl ?_
                        refine aw_bipush (-6) dX9_entry_83 (by decide) ?_
                        refine aw_eV [.int (-6)] [] lX9_130 vX9_refuse mX9_refuse dX9_entry_85 (bX9_refuse (sp := sp) (fa := fa) (nb := nb) (ns := ns) (nm := nm) (nv := nv) (sh := sh) (ho := ho) (ow := ow) (sl := sl) (rg := rg) (x := (-6)) (q := 6) h88 h89 (by decide) (by decide)) h88 rfl rfl rfl (Nat.le_of_ble_eq_true rfl) (by decide) (by decide) rfl (fun h1459 q1458 => ?_)
                        obtain ⟨rg11457, f1460, k1461⟩ := q1458
                        have f1462 := rng_at k1461 (by decide) h88
                        have f1463 := rng_at k1461 (by decide) h92
                        have f1464 := rng_at k1461 (by decide) h93
                        have f1465 := rng_at k1461 (by decide) h94
                        have f1466 := rng_at k1461 (by decide) h95
                        have f1467 := rng_at k1461 (by decide) h96
                        subst hQF
                        have eS : (spEntryC fi (nI a) w s r u) = (-6) := by unfold spEntryC; simp only [nn_a]; (repeat' split) <;> first | (exfalso; omega) | rfl
                        have ok9 : ¬ 0 ≤ (spEntryC fi (nI a) w s r u).toInt := by rw [eS]; decide
                        exact aw_iret rfl dX9_entry_88 (by decide) (by decide) ⟨by rw [eS], _, by rw [spUn_n ok9]; exact f1463, by rw [spUp_n ok9]; exact f1464, by rw [spUp_n ok9]; exact f1465, by rw [spUp_n ok9]; exact f1466, by rw [spUp_n ok9]; exact f1467, f1460, rg2_tr (rg2_rf 89 89 92 96 h) (rg2_w k1461 (by decide))⟩
              · have d40 := mt (j_le (a := (0)) (b := u.toInt) (rfl) (rfl)).mpr c40
                refine aw_aload_n 0 dX9_entry_43 rfl rfl ?_
                refine aw_bipush (-4) dX9_entry_44 (by decide) ?_
                refine aw_eV [.int (-4)] [] lX9_130 vX9_refuse mX9_refuse dX9_entry_46 (bX9_refuse (sp := sp) (fa := fa) (nb := nb) (ns := ns) (nm := nm) (nv := nv) (sh := sh) (ho := ho) (ow := ow) (sl := sl) (rg := rg) (x := (-4)) (q := 4) h88 h89 (by decide) (by decide)) h88 rfl rfl rfl (Nat.le_of_ble_eq_true rfl) (by decide) (by decide) rfl (fun h1470 q1469 => ?_)
                obtain ⟨rg11468, f1471, k1472⟩ := q1469
                have f1473 := rng_at k1472 (by decide) h88
                have f1474 := rng_at k1472 (by decide) h92
                have f1475 := rng_at k1472 (by decide) h93
                have f1476 := rng_at k1472 (by decide) h94
                have f1477 := rng_at k1472 (by decide) h95
                have f1478 := rng_at k1472 (by decide) h96
                subst hQF
                have eS : (spEntryC fi c w s r u) = (-4) := by unfold spEntryC; (repeat' split) <;> first | (exfalso; omega) | rfl
                have ok9 : ¬ 0 ≤ (spEntryC fi c w s r u).toInt := by rw [eS]; decide
                exact aw_iret rfl dX9_entry_49 (by decide) (by decide) ⟨by rw [eS], _, by rw [spUn_n ok9]; exact f1474, by rw [spUp_n ok9]; exact f1475, by rw [spUp_n ok9]; exact f1476, by rw [spUp_n ok9]; exact f1477, by rw [spUp_n ok9]; exact f1478, f1471, rg2_tr (rg2_rf 89 89 92 96 h) (rg2_w k1472 (by decide))⟩
      · have d15 := mt (j_lt (a := w.toInt) (b := (1048576)) (rfl) (rfl)).mpr c15
        refine aw_aload_n 0 dX9_entry_18 rfl rfl ?_
        refine aw_iconst (-1) dX9_entry_19 (by decide) ?_
        refine aw_eV [.int (-1)] [] lX9_130 vX9_refuse mX9_refuse dX9_entry_20 (bX9_refuse (sp := sp) (fa := fa) (nb := nb) (ns := ns) (nm := nm) (nv := nv) (sh := sh) (ho := ho) (ow := ow) (sl := sl) (rg := rg) (x := (-1)) (q := 1) h88 h89 (by decide) (by decide)) h88 rfl rfl rfl (Nat.le_of_ble_eq_true rfl) (by decide) (by decide) rfl (fun h1481 q1480 => ?_)
        obtain ⟨rg11479, f1482, k1483⟩ := q1480
        have f1484 := rng_at k1483 (by decide) h88
        have f1485 := rng_at k1483 (by decide) h92
        have f1486 := rng_at k1483 (by decide) h93
        have f1487 := rng_at k1483 (by decide) h94
        have f1488 := rng_at k1483 (by decide) h95
        have f1489 := rng_at k1483 (by decide) h96
        subst hQF
        have eS : (spEntryC fi c w s r u) = (-1) := by unfold spEntryC; (repeat' split) <;> first | (exfalso; omega) | rfl
        have ok9 : ¬ 0 ≤ (spEntryC fi c w s r u).toInt := by rw [eS]; decide
        exact aw_iret rfl dX9_entry_23 (by decide) (by decide) ⟨by rw [eS], _, by rw [spUn_n ok9]; exact f1485, by rw [spUp_n ok9]; exact f1486, by rw [spUp_n ok9]; exact f1487, by rw [spUp_n ok9]; exact f1488, by rw [spUp_n ok9]; exact f1489, f1482, rg2_tr (rg2_rf 89 89 92 96 h) (rg2_w k1483 (by decide))⟩
set_option maxHeartbeats 4000000 in
theorem oX9_set {l : Launch} {G : xG} {h : List va_E} {sp fa nb ns nm nv sh : Nat} {ho ow sl : Int32} {rg : Nat → Int32} {q v : Int32} (h88 : h[88]? = some (oB 9 (lM G (nI sp) (nI fa) (nI nb) (nI ns) (nI nm) ho ow sl (nI nv) (nI sh)))) (h89 : h[89]? = some (aI 7 rg))  : CE l G yX9_set cX9_set 5 (some .int) 2 0 0 [.ref (G.1 + 88), .int q, .int v] h (some (.int ((spSet sp fa q v).1))) (fun h1 => ∃ rg1 : Nat → Int32, h1[88]? = some (oB 9 (lM G (nI ((spSet sp fa q v).2.1)) (nI ((spSet sp fa q v).2.2)) (nI nb) (nI ns) (nI nm) ho ow sl (nI nv) (nI sh))) ∧ h1[89]? = some (aI 7 rg1) ∧ rng 88 89 h h1) := by
  refine cm_ofQ rfl (Nat.le_of_ble_eq_true rfl) [(0, .ref (G.1 + 88)), (1, .int q), (2, .int v)] rfl (fun QF hQF => ?_)
  refine aw_iload_n 1 dX9_set_0 rfl rfl ?_
  refine aw_iconst (2) dX9_set_1 (by decide) ?_
  refine aw_dS [.int q, .int 2] [] lX9_126 sX9_isIn mX9_isIn dX9_set_2 (bX9_isIn (x := q) (n := 2) (by omega)) rfl (Nat.le_of_ble_eq_true rfl) (by decide) (by decide) rfl ?_
  refine aw_if_eq 27 dX9_set_5 (by decide) (fun c5 => ?_) (fun c5 => ?_)
  · have t5 := ite_0 c5
    refine aw_bipush (-2) dX9_set_27 (by decide) ?_
    refine aw_istore_n [(3, .int (-2)), (0, .ref (G.1 + 88)), (1, .int q), (2, .int v)] dX9_set_29 rfl (by decide) rfl ?_
    refine aw_iload_n 0 dX9_set_30 rfl rfl ?_
    refine aw_if_eq 40 dX9_set_31 (by decide) (fun c31 => absurd c31 (by decide)) (fun c31 => ?_)
    refine aw_aload_n 1 dX9_set_34 rfl rfl ?_
    refine aw_iload_n 0 dX9_set_35 rfl rfl ?_
    refine aw_eV [.int (-2)] [] lX9_130 vX9_refuse mX9_refuse dX9_set_36 (bX9_refuse (sp := sp) (fa := fa) (nb := nb) (ns := ns) (nm := nm) (nv := nv) (sh := sh) (ho := ho) (ow := ow) (sl := sl) (rg := rg) (x := (-2)) (q := 2) h88 h89 (by decide) (by decide)) h88 rfl rfl rfl (Nat.le_of_ble_eq_true rfl) (by decide) (by decide) rfl (fun h1492 q1491 => ?_)
    obtain ⟨rg11490, f1493, k1494⟩ := q1491
    have f1495 := rng_at k1494 (by decide) h88
    subst hQF
    have eS : spSet sp fa q v = ((-2), sp, fa) := by unfold spSet; (repeat' split) <;> first | (exfalso; omega) | rfl
    exact aw_iret rfl dX9_set_39 (by decide) (by decide) ⟨by rw [eS], _, by rw [eS]; exact f1495, f1493, rng_tr (rng_rf 88 89 h) (rng_w k1494 (by decide) (by decide))⟩
  · have t5 := ite_1 c5
    refine aw_iload_n 2 dX9_set_8 rfl rfl ?_
    refine aw_iconst (0) dX9_set_9 (by decide) ?_
    refine aw_iload_n 1 dX9_set_10 rfl rfl ?_
    refine aw_if_ne 19 dX9_set_11 (by decide) (fun c11 => ?_) (fun c11 => ?_)
    · have d11 := mt (j_eq (a := q.toInt) (b := (0)) (rfl) (rfl)).mpr c11
      refine aw_bipush (9) dX9_set_19 (by decide) ?_
      refine aw_dS [.int v, .int 0, .int 9] [] lX9_137 sX9_wrong mX9_wrong dX9_set_21 (bX9_wrong (x := v) (y := 0) (z := 9) ) rfl (Nat.le_of_ble_eq_true rfl) (by decide) (by decide) rfl ?_
      refine aw_goto 29 dX9_set_24 (by decide) ?_
      refine aw_istore_n [(3, .int (wrF v 0 9)), (0, .ref (G.1 + 88)), (1, .int q), (2, .int v)] dX9_set_29 rfl (by decide) rfl ?_
      refine aw_iload_n 0 dX9_set_30 rfl rfl ?_
      refine aw_if_eq 40 dX9_set_31 (by decide) (fun c31 => ?_) (fun c31 => ?_)
      · have d31 := (j_eq (a := (wrF v 0 9).toInt) (b := (0)) (rfl) (rfl)).mp c31
        refine aw_iload_n 2 dX9_set_40 rfl rfl ?_
        refine aw_if_ne 51 dX9_set_41 (by decide) (fun c41 => ?_) (fun c41 => absurd c41 (c11))
        refine aw_aload_n 1 dX9_set_51 rfl rfl ?_
        refine aw_get fX9_44 dX9_set_52 h88 rfl ?_
        refine aw_istore [(4, .int (nI fa)), (3, .int (wrF v 0 9)), (0, .ref (G.1 + 88)), (1, .int q), (2, .int v)] dX9_set_55 (by decide) rfl ?_
        refine aw_iload_n 3 dX9_set_57 rfl rfl ?_
        refine aw_if_ne 69 dX9_set_58 (by decide) (fun c58 => ?_) (fun c58 => absurd c58 (c11))
        have hw : 0 ≤ v.toInt ∧ v.toInt ≤ 9 := wrF_0 c31
        obtain ⟨a, bb_a, ee_a⟩ := i_nat (x := v) (N := 10) (by omega) (by omega)
        subst ee_a
        have tt_a : (nI a).toInt = (a : Int) := nI_toInt (by omega)
        have nn_a : tn (nI a) = a := tn_nI (by omega)
        refine aw_aload_n 2 dX9_set_69 rfl rfl ?_
        refine aw_iload_n 4 dX9_set_70 rfl rfl ?_
        refine aw_putQ fX9_44 dX9_set_71 (lM G (nI sp) (nI a) (nI nb) (nI ns) (nI nm) ho ow sl (nI nv) (nI sh)) h88 rfl rfl rfl (Nat.le_of_ble_eq_true rfl) rfl ?_
        refine aw_iload 0 dX9_set_74 rfl ?_
        subst hQF
        have eS : spSet sp fa q (nI a) = ((nI fa), sp, a) := by unfold spSet; (repeat' split) <;> first | (exfalso; omega) | rfl | (simp only [nn_a]; done)
        exact aw_iret rfl dX9_set_76 (by decide) (by decide) ⟨by rw [eS], _, by rw [eS]; exact (gs h88), (gn (by decide) (h89)), rng_set (rng_rf 88 89 h) (by decide) (by decide)⟩
      · have d31 := mt (j_eq (a := (wrF v 0 9).toInt) (b := (0)) (rfl) (rfl)).mpr c31
        refine aw_aload_n 1 dX9_set_34 rfl rfl ?_
        refine aw_iload_n 0 dX9_set_35 rfl rfl ?_
        obtain ⟨q1496, bq1496, eq1496⟩ := Or.resolve_left (wrF_q v 0 9) (by assumption)
        refine aw_eV [.int (wrF v 0 9)] [] lX9_130 vX9_refuse mX9_refuse dX9_set_36 (bX9_refuse (sp := sp) (fa := fa) (nb := nb) (ns := ns) (nm := nm) (nv := nv) (sh := sh) (ho := ho) (ow := ow) (sl := sl) (rg := rg) (x := (wrF v 0 9)) (q := q1496) h88 h89 bq1496 eq1496) h88 rfl rfl rfl (Nat.le_of_ble_eq_true rfl) (by decide) (by decide) rfl (fun h1499 q1498 => ?_)
        obtain ⟨rg11497, f1500, k1501⟩ := q1498
        have f1502 := rng_at k1501 (by decide) h88
        subst hQF
        have q9 := wrF_r v 0 9 (by assumption)
        try simp only [k_n.1, k_n.2.1, k_n.2.2.1, k_n.2.2.2.1, k_n.2.2.2.2.1, k_n.2.2.2.2.2.1, k_n.2.2.2.2.2.2] at q9
        have eS : spSet sp fa q v = ((wrF v 0 9), sp, fa) := by unfold spSet; unfold wrF; (try simp only [k_n.1, k_n.2.1, k_n.2.2.1, k_n.2.2.2.1, k_n.2.2.2.2.1, k_n.2.2.2.2.2.1, k_n.2.2.2.2.2.2]); (repeat' split) <;> first | (exfalso; omega) | rfl
        exact aw_iret rfl dX9_set_39 (by decide) (by decide) ⟨by rw [eS], _, by rw [eS]; exact f1502, f1500, rng_tr (rng_rf 88 89 h) (rng_w k1501 (by decide) (by decide))⟩
    · have d11 := (j_eq (a := q.toInt) (b := (0)) (rfl) (rfl)).mp c11
      refine aw_bipush (50) dX9_set_14 (by decide) ?_
      refine aw_goto 21 dX9_set_16 (by decide) ?_
      refine aw_dS [.int v, .int 0, .int 50] [] lX9_137 sX9_wrong mX9_wrong dX9_set_21 (bX9_wrong (x := v) (y := 0) (z := 50) ) rfl (Nat.le_of_ble_eq_true rfl) (by decide) (by decide) rfl ?_
      refine aw_goto 29 dX9_set_24 (by decide) ?_
      refine aw_istore_n [(3, .int (wrF v 0 50)), (0, .ref (G.1 + 88)), (1, .int q), (2, .int v)] dX9_set_29 rfl (by decide) rfl ?_
      refine aw_iload_n 0 dX9_set_30 rfl rfl ?_
      refine aw_if_eq 40 dX9_set_31 (by decide) (fun c31 => ?_) (fun c31 => ?_)
      · have d31 := (j_eq (a := (wrF v 0 50).toInt) (b := (0)) (rfl) (rfl)).mp c31
        refine aw_iload_n 2 dX9_set_40 rfl rfl ?_
        refine aw_if_ne 51 dX9_set_41 (by decide) (fun c41 => absurd (c11) c41) (fun c41 => ?_)
        refine aw_aload_n 1 dX9_set_44 rfl rfl ?_
        refine aw_get fX9_40 dX9_set_45 h88 rfl ?_
        refine aw_goto 55 dX9_set_48 (by decide) ?_
        refine aw_istore [(4, .int (nI sp)), (3, .int (wrF v 0 50)), (0, .ref (G.1 + 88)), (1, .int q), (2, .int v)] dX9_set_55 (by decide) rfl ?_
        refine aw_iload_n 3 dX9_set_57 rfl rfl ?_
        refine aw_if_ne 69 dX9_set_58 (by decide) (fun c58 => absurd (c11) c58) (fun c58 => ?_)
        have hw : 0 ≤ v.toInt ∧ v.toInt ≤ 50 := wrF_0 c31
        obtain ⟨a, bb_a, ee_a⟩ := i_nat (x := v) (N := 51) (by omega) (by omega)
        subst ee_a
        have tt_a : (nI a).toInt = (a : Int) := nI_toInt (by omega)
        have nn_a : tn (nI a) = a := tn_nI (by omega)
        refine aw_aload_n 2 dX9_set_61 rfl rfl ?_
        refine aw_iload_n 4 dX9_set_62 rfl rfl ?_
        refine aw_putQ fX9_40 dX9_set_63 (lM G (nI a) (nI fa) (nI nb) (nI ns) (nI nm) ho ow sl (nI nv) (nI sh)) h88 rfl rfl rfl (Nat.le_of_ble_eq_true rfl) rfl ?_
        refine aw_goto 74 dX9_set_66 (by decide) ?_
        refine aw_iload 0 dX9_set_74 rfl ?_
        subst hQF
        have eS : spSet sp fa q (nI a) = ((nI sp), a, fa) := by unfold spSet; (repeat' split) <;> first | (exfalso; omega) | rfl | (simp only [nn_a]; done)
        exact aw_iret rfl dX9_set_76 (by decide) (by decide) ⟨by rw [eS], _, by rw [eS]; exact (gs h88), (gn (by decide) (h89)), rng_set (rng_rf 88 89 h) (by decide) (by decide)⟩
      · have d31 := mt (j_eq (a := (wrF v 0 50).toInt) (b := (0)) (rfl) (rfl)).mpr c31
        refine aw_aload_n 1 dX9_set_34 rfl rfl ?_
        refine aw_iload_n 0 dX9_set_35 rfl rfl ?_
        obtain ⟨q1503, bq1503, eq1503⟩ := Or.resolve_left (wrF_q v 0 50) (by assumption)
        refine aw_eV [.int (wrF v 0 50)] [] lX9_130 vX9_refuse mX9_refuse dX9_set_36 (bX9_refuse (sp := sp) (fa := fa) (nb := nb) (ns := ns) (nm := nm) (nv := nv) (sh := sh) (ho := ho) (ow := ow) (sl := sl) (rg := rg) (x := (wrF v 0 50)) (q := q1503) h88 h89 bq1503 eq1503) h88 rfl rfl rfl (Nat.le_of_ble_eq_true rfl) (by decide) (by decide) rfl (fun h1506 q1505 => ?_)
        obtain ⟨rg11504, f1507, k1508⟩ := q1505
        have f1509 := rng_at k1508 (by decide) h88
        subst hQF
        have q9 := wrF_r v 0 50 (by assumption)
        try simp only [k_n.1, k_n.2.1, k_n.2.2.1, k_n.2.2.2.1, k_n.2.2.2.2.1, k_n.2.2.2.2.2.1, k_n.2.2.2.2.2.2] at q9
        have eS : spSet sp fa q v = ((wrF v 0 50), sp, fa) := by unfold spSet; unfold wrF; (try simp only [k_n.1, k_n.2.1, k_n.2.2.1, k_n.2.2.2.1, k_n.2.2.2.2.1, k_n.2.2.2.2.2.1, k_n.2.2.2.2.2.2]); (repeat' split) <;> first | (exfalso; omega) | rfl
        exact aw_iret rfl dX9_set_39 (by decide) (by decide) ⟨by rw [eS], _, by rw [eS]; exact f1509, f1507, rng_tr (rng_rf 88 89 h) (rng_w k1508 (by decide) (by decide))⟩
set_option maxHeartbeats 4000000 in
theorem oX9_part {l : Launch} {G : xG} {h : List va_E} {sp fa nb ns nm nv sh : Nat} {ho ow sl : Int32} {rg : Nat → Int32} {kd : Nat → Nat} {p v : Int32} (h88 : h[88]? = some (oB 9 (lM G (nI sp) (nI fa) (nI nb) (nI ns) (nI nm) ho ow sl (nI nv) (nI sh)))) (h89 : h[89]? = some (aI 7 rg)) (h123 : h[123]? = some (aI 10 (nA kd)))  : CE l G yX9_part cX9_part 5 (some .int) 2 0 0 [.ref (G.1 + 88), .int p, .int v] h (some (.int ((spPart kd p v).1))) (fun h1 => ∃ rg1 : Nat → Int32, h1[123]? = some (aI 10 (nA (spPart kd p v).2)) ∧ h1[89]? = some (aI 7 rg1) ∧ rg2 89 89 123 123 h h1) := by
  refine cm_ofQ rfl (Nat.le_of_ble_eq_true rfl) [(0, .ref (G.1 + 88)), (1, .int p), (2, .int v)] rfl (fun QF hQF => ?_)
  refine aw_iload_n 1 dX9_part_0 rfl rfl ?_
  refine aw_bipush (10) dX9_part_1 (by decide) ?_
  refine aw_dS [.int p, .int 10] [] lX9_126 sX9_isIn mX9_isIn dX9_part_3 (bX9_isIn (x := p) (n := 10) (by omega)) rfl (Nat.le_of_ble_eq_true rfl) (by decide) (by decide) rfl ?_
  refine aw_if_eq 18 dX9_part_6 (by decide) (fun c6 => ?_) (fun c6 => ?_)
  · have t6 := ite_0 c6
    refine aw_iconst (-1) dX9_part_18 (by decide) ?_
    refine aw_istore_n [(3, .int (-1)), (0, .ref (G.1 + 88)), (1, .int p), (2, .int v)] dX9_part_19 rfl (by decide) rfl ?_
    refine aw_iload_n 0 dX9_part_20 rfl rfl ?_
    refine aw_if_eq 30 dX9_part_21 (by decide) (fun c21 => absurd c21 (by decide)) (fun c21 => ?_)
    refine aw_aload_n 1 dX9_part_24 rfl rfl ?_
    refine aw_iload_n 0 dX9_part_25 rfl rfl ?_
    refine aw_eV [.int (-1)] [] lX9_130 vX9_refuse mX9_refuse dX9_part_26 (bX9_refuse (sp := sp) (fa := fa) (nb := nb) (ns := ns) (nm := nm) (nv := nv) (sh := sh) (ho := ho) (ow := ow) (sl := sl) (rg := rg) (x := (-1)) (q := 1) h88 h89 (by decide) (by decide)) h88 rfl rfl rfl (Nat.le_of_ble_eq_true rfl) (by decide) (by decide) rfl (fun h1512 q1511 => ?_)
    obtain ⟨rg11510, f1513, k1514⟩ := q1511
    have f1515 := rng_at k1514 (by decide) h88
    have f1516 := rng_at k1514 (by decide) h123
    subst hQF
    have eS : spPart kd p v = ((-1), kd) := by unfold spPart; (repeat' split) <;> first | (exfalso; omega) | rfl
    exact aw_iret rfl dX9_part_29 (by decide) (by decide) ⟨by rw [eS], _, by rw [eS]; exact f1516, f1513, rg2_tr (rg2_rf 89 89 123 123 h) (rg2_w k1514 (by decide))⟩
  · have t6 := ite_1 c6
    refine aw_iload_n 2 dX9_part_9 rfl rfl ?_
    refine aw_iconst (0) dX9_part_10 (by decide) ?_
    refine aw_iconst (5) dX9_part_11 (by decide) ?_
    refine aw_dS [.int v, .int 0, .int 5] [] lX9_137 sX9_wrong mX9_wrong dX9_part_12 (bX9_wrong (x := v) (y := 0) (z := 5) ) rfl (Nat.le_of_ble_eq_true rfl) (by decide) (by decide) rfl ?_
    refine aw_goto 19 dX9_part_15 (by decide) ?_
    refine aw_istore_n [(3, .int (wrF v 0 5)), (0, .ref (G.1 + 88)), (1, .int p), (2, .int v)] dX9_part_19 rfl (by decide) rfl ?_
    refine aw_iload_n 0 dX9_part_20 rfl rfl ?_
    refine aw_if_eq 30 dX9_part_21 (by decide) (fun c21 => ?_) (fun c21 => ?_)
    · have d21 := (j_eq (a := (wrF v 0 5).toInt) (b := (0)) (rfl) (rfl)).mp c21
      have hw : 0 ≤ v.toInt ∧ v.toInt ≤ 5 := wrF_0 c21
      obtain ⟨a, bb_a, ee_a⟩ := i_nat (x := p) (N := 10) (by omega) (by omega)
      subst ee_a
      have tt_a : (nI a).toInt = (a : Int) := nI_toInt (by omega)
      have nn_a : tn (nI a) = a := tn_nI (by omega)
      obtain ⟨b, bb_b, ee_b⟩ := i_nat (x := v) (N := 6) (by omega) (by omega)
      subst ee_b
      have tt_b : (nI b).toInt = (b : Int) := nI_toInt (by omega)
      have nn_b : tn (nI b) = b := tn_nI (by omega)
      refine aw_aload_n 1 dX9_part_30 rfl rfl ?_
      refine aw_get fX9_119 dX9_part_31 h88 rfl ?_
      refine aw_iload_n 2 dX9_part_34 rfl rfl ?_
      refine aw_iald a (rfl) (by omega) (by decide) dX9_part_35 h123 ?_
      refine aw_toe (nI (kd a)) (rfl) ?_
      refine aw_istore [(4, .int (nI (kd a))), (3, .int (wrF (nI b) 0 5)), (0, .ref (G.1 + 88)), (1, .int (nI a)), (2, .int (nI b))] dX9_part_36 (by decide) rfl ?_
      refine aw_aload_n 2 dX9_part_38 rfl rfl ?_
      refine aw_get fX9_119 dX9_part_39 h88 rfl ?_
      refine aw_iload_n 3 dX9_part_42 rfl rfl ?_
      refine aw_iload_n 4 dX9_part_43 rfl rfl ?_
      refine aw_iast a (rfl) (by omega) (by decide) dX9_part_44 h123 ?_
      rw [nA_u (f := kd) (i := a) (x := (nI b)) (v := b) (rfl)]
      refine aw_iload 0 dX9_part_45 rfl ?_
      subst hQF
      have eS : spPart kd (nI a) (nI b) = ((nI (kd a)), un kd a b) := by unfold spPart; (repeat' split) <;> first | (exfalso; omega) | rfl | (simp only [nn_a, nn_b]; done)
      exact aw_iret rfl dX9_part_47 (by decide) (by decide) ⟨by rw [eS], _, by rw [eS]; exact (gs h123), (gn (by decide) (h89)), rg2_set (rg2_rf 89 89 123 123 h) (by decide)⟩
    · have d21 := mt (j_eq (a := (wrF v 0 5).toInt) (b := (0)) (rfl) (rfl)).mpr c21
      refine aw_aload_n 1 dX9_part_24 rfl rfl ?_
      refine aw_iload_n 0 dX9_part_25 rfl rfl ?_
      obtain ⟨q1517, bq1517, eq1517⟩ := Or.resolve_left (wrF_q v 0 5) (by assumption)
      refine aw_eV [.int (wrF v 0 5)] [] lX9_130 vX9_refuse mX9_refuse dX9_part_26 (bX9_refuse (sp := sp) (fa := fa) (nb := nb) (ns := ns) (nm := nm) (nv := nv) (sh := sh) (ho := ho) (ow := ow) (sl := sl) (rg := rg) (x := (wrF v 0 5)) (q := q1517) h88 h89 bq1517 eq1517) h88 rfl rfl rfl (Nat.le_of_ble_eq_true rfl) (by decide) (by decide) rfl (fun h1520 q1519 => ?_)
      obtain ⟨rg11518, f1521, k1522⟩ := q1519
      have f1523 := rng_at k1522 (by decide) h88
      have f1524 := rng_at k1522 (by decide) h123
      subst hQF
      have q9 := wrF_r v 0 5 (by assumption)
      try simp only [k_n.1, k_n.2.1, k_n.2.2.1, k_n.2.2.2.1, k_n.2.2.2.2.1, k_n.2.2.2.2.2.1, k_n.2.2.2.2.2.2] at q9
      have eS : spPart kd p v = ((wrF v 0 5), kd) := by unfold spPart; unfold wrF; (try simp only [k_n.1, k_n.2.1, k_n.2.2.1, k_n.2.2.2.1, k_n.2.2.2.2.1, k_n.2.2.2.2.2.1, k_n.2.2.2.2.2.2]); (repeat' split) <;> first | (exfalso; omega) | rfl
      exact aw_iret rfl dX9_part_29 (by decide) (by decide) ⟨by rw [eS], _, by rw [eS]; exact f1524, f1521, rg2_tr (rg2_rf 89 89 123 123 h) (rg2_w k1522 (by decide))⟩
set_option maxHeartbeats 4000000 in
theorem oX9_clash0 {l : Launch} {G : xG} {h : List va_E} {sp fa nb ns nm nv sh : Nat} {ho ow sl : Int32} {rg : Nat → Int32} {fo : Nat → Nat} {a b : Int32} (h88 : h[88]? = some (oB 9 (lM G (nI sp) (nI fa) (nI nb) (nI ns) (nI nm) ho ow sl (nI nv) (nI sh)))) (h89 : h[89]? = some (aI 7 rg)) (h124 : h[124]? = some (aZ 36 (clM fo))) (hsy : ∀ x, x < 6 → ∀ y, y < 6 → (fo x).testBit y = (fo y).testBit x) : CE l G yX9_clash cX9_clash 4 (some .int) 2 0 0 [.ref (G.1 + 88), .int a, .int b, .int 0] h (some (.int ((spClashF fo a b false).1))) (fun h1 => ∃ rg1 : Nat → Int32, h1[124]? = some (aZ 36 (clM (spClashF fo a b false).2)) ∧ h1[89]? = some (aI 7 rg1) ∧ rg2 89 89 124 124 h h1) := by
  refine cm_ofQ rfl (Nat.le_of_ble_eq_true rfl) [(0, .ref (G.1 + 88)), (1, .int a), (2, .int b), (3, .int 0)] rfl (fun QF hQF => ?_)
  refine aw_iload_n 1 dX9_clash_0 rfl rfl ?_
  refine aw_if_lt 8 dX9_clash_1 (by decide) (fun c1 => ?_) (fun c1 => ?_)
  · have d1 := (j_lt (a := a.toInt) (b := (0)) (rfl) (rfl)).mp c1
    refine aw_aload_n 0 dX9_clash_8 rfl rfl ?_
    refine aw_bipush (-4) dX9_clash_9 (by decide) ?_
    refine aw_eV [.int (-4)] [] lX9_130 vX9_refuse mX9_refuse dX9_clash_11 (bX9_refuse (sp := sp) (fa := fa) (nb := nb) (ns := ns) (nm := nm) (nv := nv) (sh := sh) (ho := ho) (ow := ow) (sl := sl) (rg := rg) (x := (-4)) (q := 4) h88 h89 (by decide) (by decide)) h88 rfl rfl rfl (Nat.le_of_ble_eq_true rfl) (by decide) (by decide) rfl (fun h1527 q1526 => ?_)
    obtain ⟨rg11525, f1528, k1529⟩ := q1526
    have f1530 := rng_at k1529 (by decide) h88
    have f1531 := rng_at k1529 (by decide) h124
    subst hQF
    have eS : spClashF fo a b false = ((-4), fo) := by unfold spClashF; (repeat' split) <;> first | (exfalso; omega) | rfl | contradiction
    exact aw_iret rfl dX9_clash_14 (by decide) (by decide) ⟨by rw [eS], _, by rw [eS]; exact f1531, f1528, rg2_tr (rg2_rf 89 89 124 124 h) (rg2_w k1529 (by decide))⟩
  · have d1 := mt (j_lt (a := a.toInt) (b := (0)) (rfl) (rfl)).mpr c1
    refine aw_iload_n 2 dX9_clash_4 rfl rfl ?_
    refine aw_if_ge 15 dX9_clash_5 (by decide) (fun c5 => ?_) (fun c5 => ?_)
    · have d5 := (j_le (a := (0)) (b := b.toInt) (rfl) (rfl)).mp c5
      refine aw_iload_n 1 dX9_clash_15 rfl rfl ?_
      refine aw_bipush (6) dX9_clash_16 (by decide) ?_
      refine aw_icmp_ge 27 dX9_clash_18 (by decide) (fun c18 => ?_) (fun c18 => ?_)
      · have d18 := (j_le (a := (6)) (b := a.toInt) (rfl) (rfl)).mp c18
        refine aw_aload_n 0 dX9_clash_27 rfl rfl ?_
        refine aw_bipush (-6) dX9_clash_28 (by decide) ?_
        refine aw_eV [.int (-6)] [] lX9_130 vX9_refuse mX9_refuse dX9_clash_30 (bX9_refuse (sp := sp) (fa := fa) (nb := nb) (ns := ns) (nm := nm) (nv := nv) (sh := sh) (ho := ho) (ow := ow) (sl := sl) (rg := rg) (x := (-6)) (q := 6) h88 h89 (by decide) (by decide)) h88 rfl rfl rfl (Nat.le_of_ble_eq_true rfl) (by decide) (by decide) rfl (fun h1534 q1533 => ?_)
        obtain ⟨rg11532, f1535, k1536⟩ := q1533
        have f1537 := rng_at k1536 (by decide) h88
        have f1538 := rng_at k1536 (by decide) h124
        subst hQF
        have eS : spClashF fo a b false = ((-6), fo) := by unfold spClashF; (repeat' split) <;> first | (exfalso; omega) | rfl | contradiction
        exact aw_iret rfl dX9_clash_33 (by decide) (by decide) ⟨by rw [eS], _, by rw [eS]; exact f1538, f1535, rg2_tr (rg2_rf 89 89 124 124 h) (rg2_w k1536 (by decide))⟩
      · have d18 := mt (j_le (a := (6)) (b := a.toInt) (rfl) (rfl)).mpr c18
        refine aw_iload_n 2 dX9_clash_21 rfl rfl ?_
        refine aw_bipush (6) dX9_clash_22 (by decide) ?_
        refine aw_icmp_lt 34 dX9_clash_24 (by decide) (fun c24 => ?_) (fun c24 => ?_)
        · have d24 := (j_lt (a := b.toInt) (b := (6)) (rfl) (rfl)).mp c24
          refine aw_iload_n 1 dX9_clash_34 rfl rfl ?_
          refine aw_iload_n 2 dX9_clash_35 rfl rfl ?_
          refine aw_icmp_ne 46 dX9_clash_36 (by decide) (fun c36 => ?_) (fun c36 => ?_)
          · have d36 := mt (j_eq (a := a.toInt) (b := b.toInt) (rfl) (rfl)).mpr c36
            obtain ⟨x, bb_x, ee_x⟩ := i_nat (x := a) (N := 6) (by omega) (by omega)
            subst ee_x
            have tt_x : (nI x).toInt = (x : Int) := nI_toInt (by omega)
            have nn_x : tn (nI x) = x := tn_nI (by omega)
            obtain ⟨y, bb_y, ee_y⟩ := i_nat (x := b) (N := 6) (by omega) (by omega)
            subst ee_y
            have tt_y : (nI y).toInt = (y : Int) := nI_toInt (by omega)
            have nn_y : tn (nI y) = y := tn_nI (by omega)
            cases hw : (fo x).testBit y
            · refine aw_aload_n 0 dX9_clash_46 rfl rfl ?_
              refine aw_get fX9_122 dX9_clash_47 h88 rfl ?_
              refine aw_bipush (6) dX9_clash_50 (by decide) ?_
              refine aw_iload_n 1 dX9_clash_52 rfl rfl ?_
              refine aw_imul dX9_clash_53 ?_
              refine aw_toe (nI (6 * x)) (nv_mul (rfl) (rfl)) ?_
              refine aw_iload_n 2 dX9_clash_54 rfl rfl ?_
              refine aw_iadd dX9_clash_55 ?_
              refine aw_toe (nI ((6 * x) + y)) (nv_add (rfl) (rfl)) ?_
              refine aw_zald ((6 * x) + y) (rfl) (by omega) (by decide) dX9_clash_56 h124 ?_
              refine aw_toe 0 (by rw [clM_at (by omega), hw]; rfl) ?_
              refine aw_iload_n 3 dX9_clash_57 rfl rfl ?_
              refine aw_icmp_ne 63 dX9_clash_58 (by decide) (fun c58 => absurd (by decide) c58) (fun c58 => ?_)
              refine aw_iconst (0) dX9_clash_61 (by decide) ?_
              subst hQF
              have eS : spClashF fo (nI x) (nI y) false = (0, fo) := by unfold spClashF; simp only [nn_x, nn_y, hw]; (repeat' split) <;> first | (exfalso; omega) | rfl | contradiction
              exact aw_iret rfl dX9_clash_62 (by decide) (by decide) ⟨by rw [eS], _, by rw [eS]; exact h124, h89, rg2_rf 89 89 124 124 h⟩
            · refine aw_aload_n 0 dX9_clash_46 rfl rfl ?_
              refine aw_get fX9_122 dX9_clash_47 h88 rfl ?_
              refine aw_bipush (6) dX9_clash_50 (by decide) ?_
              refine aw_iload_n 1 dX9_clash_52 rfl rfl ?_
              refine aw_imul dX9_clash_53 ?_
              refine aw_toe (nI (6 * x)) (nv_mul (rfl) (rfl)) ?_
              refine aw_iload_n 2 dX9_clash_54 rfl rfl ?_
              refine aw_iadd dX9_clash_55 ?_
              refine aw_toe (nI ((6 * x) + y)) (nv_add (rfl) (rfl)) ?_
              refine aw_zald ((6 * x) + y) (rfl) (by omega) (by decide) dX9_clash_56 h124 ?_
              refine aw_toe 1 (by rw [clM_at (by omega), hw]; rfl) ?_
              refine aw_iload_n 3 dX9_clash_57 rfl rfl ?_
              refine aw_icmp_ne 63 dX9_clash_58 (by decide) (fun c58 => ?_) (fun c58 => absurd c58 (by decide))
              refine aw_aload_n 0 dX9_clash_63 rfl rfl ?_
              refine aw_get fX9_122 dX9_clash_64 h88 rfl ?_
              refine aw_bipush (6) dX9_clash_67 (by decide) ?_
              refine aw_iload_n 1 dX9_clash_69 rfl rfl ?_
              refine aw_imul dX9_clash_70 ?_
              refine aw_toe (nI (6 * x)) (nv_mul (rfl) (rfl)) ?_
              refine aw_iload_n 2 dX9_clash_71 rfl rfl ?_
              refine aw_iadd dX9_clash_72 ?_
              refine aw_toe (nI ((6 * x) + y)) (nv_add (rfl) (rfl)) ?_
              refine aw_iload_n 3 dX9_clash_73 rfl rfl ?_
              refine aw_zast ((6 * x) + y) (rfl) (by omega) (by decide) dX9_clash_74 h124 ?_
              refine aw_aload_n 0 dX9_clash_75 rfl rfl ?_
              refine aw_get fX9_122 dX9_clash_76 (gn (by decide) (h88)) rfl ?_
              refine aw_bipush (6) dX9_clash_79 (by decide) ?_
              refine aw_iload_n 2 dX9_clash_81 rfl rfl ?_
              refine aw_imul dX9_clash_82 ?_
              refine aw_toe (nI (6 * y)) (nv_mul (rfl) (rfl)) ?_
              refine aw_iload_n 1 dX9_clash_83 rfl rfl ?_
              refine aw_iadd dX9_clash_84 ?_
              refine aw_toe (nI ((6 * y) + x)) (nv_add (rfl) (rfl)) ?_
              refine aw_iload_n 3 dX9_clash_85 rfl rfl ?_
              refine aw_zast ((6 * y) + x) (rfl) (by omega) (by decide) dX9_clash_86 (gs h124) ?_
              refine aw_iconst (1) dX9_clash_87 (by decide) ?_
              subst hQF
              have eS : spClashF fo (nI x) (nI y) false = (1, un (un fo x (fo x ^^^ 2 ^ y)) y (un fo x (fo x ^^^ 2 ^ y) y ^^^ 2 ^ x)) := by unfold spClashF; simp only [nn_x, nn_y, hw]; (repeat' split) <;> first | (exfalso; omega) | rfl | contradiction
              exact aw_iret rfl dX9_clash_88 (by decide) (by decide) ⟨by rw [eS], _, by rw [eS, ← clM_up (v := 0) (by omega) (by omega) (by omega) (hsy y (by omega) x (by omega)) (by rw [hw]; rfl)]; exact (gs (gs h124)), (gn (by decide) (gn (by decide) (h89))), rg2_set (rg2_set (rg2_rf 89 89 124 124 h) (by decide)) (by decide)⟩
          · have d36 := (j_eq (a := a.toInt) (b := b.toInt) (rfl) (rfl)).mp c36
            refine aw_aload_n 0 dX9_clash_39 rfl rfl ?_
            refine aw_bipush (-3) dX9_clash_40 (by decide) ?_
            refine aw_eV [.int (-3)] [] lX9_130 vX9_refuse mX9_refuse dX9_clash_42 (bX9_refuse (sp := sp) (fa := fa) (nb := nb) (ns := ns) (nm := nm) (nv := nv) (sh := sh) (ho := ho) (ow := ow) (sl := sl) (rg := rg) (x := (-3)) (q := 3) h88 h89 (by decide) (by decide)) h88 rfl rfl rfl (Nat.le_of_ble_eq_true rfl) (by decide) (by decide) rfl (fun h1541 q1540 => ?_)
            obtain ⟨rg11539, f1542, k1543⟩ := q1540
            have f1544 := rng_at k1543 (by decide) h88
            have f1545 := rng_at k1543 (by decide) h124
            subst hQF
            have eS : spClashF fo a b false = ((-3), fo) := by unfold spClashF; (repeat' split) <;> first | (exfalso; omega) | rfl | contradiction
            exact aw_iret rfl dX9_clash_45 (by decide) (by decide) ⟨by rw [eS], _, by rw [eS]; exact f1545, f1542, rg2_tr (rg2_rf 89 89 124 124 h) (rg2_w k1543 (by decide))⟩
        · have d24 := mt (j_lt (a := b.toInt) (b := (6)) (rfl) (rfl)).mpr c24
          refine aw_aload_n 0 dX9_clash_27 rfl rfl ?_
          refine aw_bipush (-6) dX9_clash_28 (by decide) ?_
          refine aw_eV [.int (-6)] [] lX9_130 vX9_refuse mX9_refuse dX9_clash_30 (bX9_refuse (sp := sp) (fa := fa) (nb := nb) (ns := ns) (nm := nm) (nv := nv) (sh := sh) (ho := ho) (ow := ow) (sl := sl) (rg := rg) (x := (-6)) (q := 6) h88 h89 (by decide) (by decide)) h88 rfl rfl rfl (Nat.le_of_ble_eq_true rfl) (by decide) (by decide) rfl (fun h1548 q1547 => ?_)
          obtain ⟨rg11546, f1549, k1550⟩ := q1547
          have f1551 := rng_at k1550 (by decide) h88
          have f1552 := rng_at k1550 (by decide) h124
          subst hQF
          have eS : spClashF fo a b false = ((-6), fo) := by unfold spClashF; (repeat' split) <;> first | (exfalso; omega) | rfl | contradiction
          exact aw_iret rfl dX9_clash_33 (by decide) (by decide) ⟨by rw [eS], _, by rw [eS]; exact f1552, f1549, rg2_tr (rg2_rf 89 89 124 124 h) (rg2_w k1550 (by decide))⟩
    · have d5 := mt (j_le (a := (0)) (b := b.toInt) (rfl) (rfl)).mpr c5
      refine aw_aload_n 0 dX9_clash_8 rfl rfl ?_
      refine aw_bipush (-4) dX9_clash_9 (by decide) ?_
      refine aw_eV [.int (-4)] [] lX9_130 vX9_refuse mX9_refuse dX9_clash_11 (bX9_refuse (sp := sp) (fa := fa) (nb := nb) (ns := ns) (nm := nm) (nv := nv) (sh := sh) (ho := ho) (ow := ow) (sl := sl) (rg := rg) (x := (-4)) (q := 4) h88 h89 (by decide) (by decide)) h88 rfl rfl rfl (Nat.le_of_ble_eq_true rfl) (by decide) (by decide) rfl (fun h1555 q1554 => ?_)
      obtain ⟨rg11553, f1556, k1557⟩ := q1554
      have f1558 := rng_at k1557 (by decide) h88
      have f1559 := rng_at k1557 (by decide) h124
      subst hQF
      have eS : spClashF fo a b false = ((-4), fo) := by unfold spClashF; (repeat' split) <;> first | (exfalso; omega) | rfl | contradiction
      exact aw_iret rfl dX9_clash_14 (by decide) (by decide) ⟨by rw [eS], _, by rw [eS]; exact f1559, f1556, rg2_tr (rg2_rf 89 89 124 124 h) (rg2_w k1557 (by decide))⟩
set_option maxHeartbeats 4000000 in
theorem oX9_clash1 {l : Launch} {G : xG} {h : List va_E} {sp fa nb ns nm nv sh : Nat} {ho ow sl : Int32} {rg : Nat → Int32} {fo : Nat → Nat} {a b : Int32} (h88 : h[88]? = some (oB 9 (lM G (nI sp) (nI fa) (nI nb) (nI ns) (nI nm) ho ow sl (nI nv) (nI sh)))) (h89 : h[89]? = some (aI 7 rg)) (h124 : h[124]? = some (aZ 36 (clM fo))) (hsy : ∀ x, x < 6 → ∀ y, y < 6 → (fo x).testBit y = (fo y).testBit x) : CE l G yX9_clash cX9_clash 4 (some .int) 2 0 0 [.ref (G.1 + 88), .int a, .int b, .int 1] h (some (.int ((spClashF fo a b true).1))) (fun h1 => ∃ rg1 : Nat → Int32, h1[124]? = some (aZ 36 (clM (spClashF fo a b true).2)) ∧ h1[89]? = some (aI 7 rg1) ∧ rg2 89 89 124 124 h h1) := by
  refine cm_ofQ rfl (Nat.le_of_ble_eq_true rfl) [(0, .ref (G.1 + 88)), (1, .int a), (2, .int b), (3, .int 1)] rfl (fun QF hQF => ?_)
  refine aw_iload_n 1 dX9_clash_0 rfl rfl ?_
  refine aw_if_lt 8 dX9_clash_1 (by decide) (fun c1 => ?_) (fun c1 => ?_)
  · have d1 := (j_lt (a := a.toInt) (b := (0)) (rfl) (rfl)).mp c1
    refine aw_aload_n 0 dX9_clash_8 rfl rfl ?_
    refine aw_bipush (-4) dX9_clash_9 (by decide) ?_
    refine aw_eV [.int (-4)] [] lX9_130 vX9_refuse mX9_refuse dX9_clash_11 (bX9_refuse (sp := sp) (fa := fa) (nb := nb) (ns := ns) (nm := nm) (nv := nv) (sh := sh) (ho := ho) (ow := ow) (sl := sl) (rg := rg) (x := (-4)) (q := 4) h88 h89 (by decide) (by decide)) h88 rfl rfl rfl (Nat.le_of_ble_eq_true rfl) (by decide) (by decide) rfl (fun h1562 q1561 => ?_)
    obtain ⟨rg11560, f1563, k1564⟩ := q1561
    have f1565 := rng_at k1564 (by decide) h88
    have f1566 := rng_at k1564 (by decide) h124
    subst hQF
    have eS : spClashF fo a b true = ((-4), fo) := by unfold spClashF; (repeat' split) <;> first | (exfalso; omega) | rfl | contradiction
    exact aw_iret rfl dX9_clash_14 (by decide) (by decide) ⟨by rw [eS], _, by rw [eS]; exact f1566, f1563, rg2_tr (rg2_rf 89 89 124 124 h) (rg2_w k1564 (by decide))⟩
  · have d1 := mt (j_lt (a := a.toInt) (b := (0)) (rfl) (rfl)).mpr c1
    refine aw_iload_n 2 dX9_clash_4 rfl rfl ?_
    refine aw_if_ge 15 dX9_clash_5 (by decide) (fun c5 => ?_) (fun c5 => ?_)
    · have d5 := (j_le (a := (0)) (b := b.toInt) (rfl) (rfl)).mp c5
      refine aw_iload_n 1 dX9_clash_15 rfl rfl ?_
      refine aw_bipush (6) dX9_clash_16 (by decide) ?_
      refine aw_icmp_ge 27 dX9_clash_18 (by decide) (fun c18 => ?_) (fun c18 => ?_)
      · have d18 := (j_le (a := (6)) (b := a.toInt) (rfl) (rfl)).mp c18
        refine aw_aload_n 0 dX9_clash_27 rfl rfl ?_
        refine aw_bipush (-6) dX9_clash_28 (by decide) ?_
        refine aw_eV [.int (-6)] [] lX9_130 vX9_refuse mX9_refuse dX9_clash_30 (bX9_refuse (sp := sp) (fa := fa) (nb := nb) (ns := ns) (nm := nm) (nv := nv) (sh := sh) (ho := ho) (ow := ow) (sl := sl) (rg := rg) (x := (-6)) (q := 6) h88 h89 (by decide) (by decide)) h88 rfl rfl rfl (Nat.le_of_ble_eq_true rfl) (by decide) (by decide) rfl (fun h1569 q1568 => ?_)
        obtain ⟨rg11567, f1570, k1571⟩ := q1568
        have f1572 := rng_at k1571 (by decide) h88
        have f1573 := rng_at k1571 (by decide) h124
        subst hQF
        have eS : spClashF fo a b true = ((-6), fo) := by unfold spClashF; (repeat' split) <;> first | (exfalso; omega) | rfl | contradiction
        exact aw_iret rfl dX9_clash_33 (by decide) (by decide) ⟨by rw [eS], _, by rw [eS]; exact f1573, f1570, rg2_tr (rg2_rf 89 89 124 124 h) (rg2_w k1571 (by decide))⟩
      · have d18 := mt (j_le (a := (6)) (b := a.toInt) (rfl) (rfl)).mpr c18
        refine aw_iload_n 2 dX9_clash_21 rfl rfl ?_
        refine aw_bipush (6) dX9_clash_22 (by decide) ?_
        refine aw_icmp_lt 34 dX9_clash_24 (by decide) (fun c24 => ?_) (fun c24 => ?_)
        · have d24 := (j_lt (a := b.toInt) (b := (6)) (rfl) (rfl)).mp c24
          refine aw_iload_n 1 dX9_clash_34 rfl rfl ?_
          refine aw_iload_n 2 dX9_clash_35 rfl rfl ?_
          refine aw_icmp_ne 46 dX9_clash_36 (by decide) (fun c36 => ?_) (fun c36 => ?_)
          · have d36 := mt (j_eq (a := a.toInt) (b := b.toInt) (rfl) (rfl)).mpr c36
            obtain ⟨x, bb_x, ee_x⟩ := i_nat (x := a) (N := 6) (by omega) (by omega)
            subst ee_x
            have tt_x : (nI x).toInt = (x : Int) := nI_toInt (by omega)
            have nn_x : tn (nI x) = x := tn_nI (by omega)
            obtain ⟨y, bb_y, ee_y⟩ := i_nat (x := b) (N := 6) (by omega) (by omega)
            subst ee_y
            have tt_y : (nI y).toInt = (y : Int) := nI_toInt (by omega)
            have nn_y : tn (nI y) = y := tn_nI (by omega)
            cases hw : (fo x).testBit y
            · refine aw_aload_n 0 dX9_clash_46 rfl rfl ?_
              refine aw_get fX9_122 dX9_clash_47 h88 rfl ?_
              refine aw_bipush (6) dX9_clash_50 (by decide) ?_
              refine aw_iload_n 1 dX9_clash_52 rfl rfl ?_
              refine aw_imul dX9_clash_53 ?_
              refine aw_toe (nI (6 * x)) (nv_mul (rfl) (rfl)) ?_
              refine aw_iload_n 2 dX9_clash_54 rfl rfl ?_
              refine aw_iadd dX9_clash_55 ?_
              refine aw_toe (nI ((6 * x) + y)) (nv_add (rfl) (rfl)) ?_
              refine aw_zald ((6 * x) + y) (rfl) (by omega) (by decide) dX9_clash_56 h124 ?_
              refine aw_toe 0 (by rw [clM_at (by omega), hw]; rfl) ?_
              refine aw_iload_n 3 dX9_clash_57 rfl rfl ?_
              refine aw_icmp_ne 63 dX9_clash_58 (by decide) (fun c58 => ?_) (fun c58 => absurd c58 (by decide))
              refine aw_aload_n 0 dX9_clash_63 rfl rfl ?_
              refine aw_get fX9_122 dX9_clash_64 h88 rfl ?_
              refine aw_bipush (6) dX9_clash_67 (by decide) ?_
              refine aw_iload_n 1 dX9_clash_69 rfl rfl ?_
              refine aw_imul dX9_clash_70 ?_
              refine aw_toe (nI (6 * x)) (nv_mul (rfl) (rfl)) ?_
              refine aw_iload_n 2 dX9_clash_71 rfl rfl ?_
              refine aw_iadd dX9_clash_72 ?_
              refine aw_toe (nI ((6 * x) + y)) (nv_add (rfl) (rfl)) ?_
              refine aw_iload_n 3 dX9_clash_73 rfl rfl ?_
              refine aw_zast ((6 * x) + y) (rfl) (by omega) (by decide) dX9_clash_74 h124 ?_
              refine aw_aload_n 0 dX9_clash_75 rfl rfl ?_
              refine aw_get fX9_122 dX9_clash_76 (gn (by decide) (h88)) rfl ?_
              refine aw_bipush (6) dX9_clash_79 (by decide) ?_
              refine aw_iload_n 2 dX9_clash_81 rfl rfl ?_
              refine aw_imul dX9_clash_82 ?_
              refine aw_toe (nI (6 * y)) (nv_mul (rfl) (rfl)) ?_
              refine aw_iload_n 1 dX9_clash_83 rfl rfl ?_
              refine aw_iadd dX9_clash_84 ?_
              refine aw_toe (nI ((6 * y) + x)) (nv_add (rfl) (rfl)) ?_
              refine aw_iload_n 3 dX9_clash_85 rfl rfl ?_
              refine aw_zast ((6 * y) + x) (rfl) (by omega) (by decide) dX9_clash_86 (gs h124) ?_
              refine aw_iconst (1) dX9_clash_87 (by decide) ?_
              subst hQF
              have eS : spClashF fo (nI x) (nI y) true = (1, un (un fo x (fo x ^^^ 2 ^ y)) y (un fo x (fo x ^^^ 2 ^ y) y ^^^ 2 ^ x)) := by unfold spClashF; simp only [nn_x, nn_y, hw]; (repeat' split) <;> first | (exfalso; omega) | rfl | contradiction
              exact aw_iret rfl dX9_clash_88 (by decide) (by decide) ⟨by rw [eS], _, by rw [eS, ← clM_up (v := 1) (by omega) (by omega) (by omega) (hsy y (by omega) x (by omega)) (by rw [hw]; rfl)]; exact (gs (gs h124)), (gn (by decide) (gn (by decide) (h89))), rg2_set (rg2_set (rg2_rf 89 89 124 124 h) (by decide)) (by decide)⟩
            · refine aw_aload_n 0 dX9_clash_46 rfl rfl ?_
              refine aw_get fX9_122 dX9_clash_47 h88 rfl ?_
              refine aw_bipush (6) dX9_clash_50 (by decide) ?_
              refine aw_iload_n 1 dX9_clash_52 rfl rfl ?_
              refine aw_imul dX9_clash_53 ?_
              refine aw_toe (nI (6 * x)) (nv_mul (rfl) (rfl)) ?_
              refine aw_iload_n 2 dX9_clash_54 rfl rfl ?_
              refine aw_iadd dX9_clash_55 ?_
              refine aw_toe (nI ((6 * x) + y)) (nv_add (rfl) (rfl)) ?_
              refine aw_zald ((6 * x) + y) (rfl) (by omega) (by decide) dX9_clash_56 h124 ?_
              refine aw_toe 1 (by rw [clM_at (by omega), hw]; rfl) ?_
              refine aw_iload_n 3 dX9_clash_57 rfl rfl ?_
              refine aw_icmp_ne 63 dX9_clash_58 (by decide) (fun c58 => absurd (by decide) c58) (fun c58 => ?_)
              refine aw_iconst (0) dX9_clash_61 (by decide) ?_
              subst hQF
              have eS : spClashF fo (nI x) (nI y) true = (0, fo) := by unfold spClashF; simp only [nn_x, nn_y, hw]; (repeat' split) <;> first | (exfalso; omega) | rfl | contradiction
              exact aw_iret rfl dX9_clash_62 (by decide) (by decide) ⟨by rw [eS], _, by rw [eS]; exact h124, h89, rg2_rf 89 89 124 124 h⟩
          · have d36 := (j_eq (a := a.toInt) (b := b.toInt) (rfl) (rfl)).mp c36
            refine aw_aload_n 0 dX9_clash_39 rfl rfl ?_
            refine aw_bipush (-3) dX9_clash_40 (by decide) ?_
            refine aw_eV [.int (-3)] [] lX9_130 vX9_refuse mX9_refuse dX9_clash_42 (bX9_refuse (sp := sp) (fa := fa) (nb := nb) (ns := ns) (nm := nm) (nv := nv) (sh := sh) (ho := ho) (ow := ow) (sl := sl) (rg := rg) (x := (-3)) (q := 3) h88 h89 (by decide) (by decide)) h88 rfl rfl rfl (Nat.le_of_ble_eq_true rfl) (by decide) (by decide) rfl (fun h1576 q1575 => ?_)
            obtain ⟨rg11574, f1577, k1578⟩ := q1575
            have f1579 := rng_at k1578 (by decide) h88
            have f1580 := rng_at k1578 (by decide) h124
            subst hQF
            have eS : spClashF fo a b true = ((-3), fo) := by unfold spClashF; (repeat' split) <;> first | (exfalso; omega) | rfl | contradiction
            exact aw_iret rfl dX9_clash_45 (by decide) (by decide) ⟨by rw [eS], _, by rw [eS]; exact f1580, f1577, rg2_tr (rg2_rf 89 89 124 124 h) (rg2_w k1578 (by decide))⟩
        · have d24 := mt (j_lt (a := b.toInt) (b := (6)) (rfl) (rfl)).mpr c24
          refine aw_aload_n 0 dX9_clash_27 rfl rfl ?_
          refine aw_bipush (-6) dX9_clash_28 (by decide) ?_
          refine aw_eV [.int (-6)] [] lX9_130 vX9_refuse mX9_refuse dX9_clash_30 (bX9_refuse (sp := sp) (fa := fa) (nb := nb) (ns := ns) (nm := nm) (nv := nv) (sh := sh) (ho := ho) (ow := ow) (sl := sl) (rg := rg) (x := (-6)) (q := 6) h88 h89 (by decide) (by decide)) h88 rfl rfl rfl (Nat.le_of_ble_eq_true rfl) (by decide) (by decide) rfl (fun h1583 q1582 => ?_)
          obtain ⟨rg11581, f1584, k1585⟩ := q1582
          have f1586 := rng_at k1585 (by decide) h88
          have f1587 := rng_at k1585 (by decide) h124
          subst hQF
          have eS : spClashF fo a b true = ((-6), fo) := by unfold spClashF; (repeat' split) <;> first | (exfalso; omega) | rfl | contradiction
          exact aw_iret rfl dX9_clash_33 (by decide) (by decide) ⟨by rw [eS], _, by rw [eS]; exact f1587, f1584, rg2_tr (rg2_rf 89 89 124 124 h) (rg2_w k1585 (by decide))⟩
    · have d5 := mt (j_le (a := (0)) (b := b.toInt) (rfl) (rfl)).mpr c5
      refine aw_aload_n 0 dX9_clash_8 rfl rfl ?_
      refine aw_bipush (-4) dX9_clash_9 (by decide) ?_
      refine aw_eV [.int (-4)] [] lX9_130 vX9_refuse mX9_refuse dX9_clash_11 (bX9_refuse (sp := sp) (fa := fa) (nb := nb) (ns := ns) (nm := nm) (nv := nv) (sh := sh) (ho := ho) (ow := ow) (sl := sl) (rg := rg) (x := (-4)) (q := 4) h88 h89 (by decide) (by decide)) h88 rfl rfl rfl (Nat.le_of_ble_eq_true rfl) (by decide) (by decide) rfl (fun h1590 q1589 => ?_)
      obtain ⟨rg11588, f1591, k1592⟩ := q1589
      have f1593 := rng_at k1592 (by decide) h88
      have f1594 := rng_at k1592 (by decide) h124
      subst hQF
      have eS : spClashF fo a b true = ((-4), fo) := by unfold spClashF; (repeat' split) <;> first | (exfalso; omega) | rfl | contradiction
      exact aw_iret rfl dX9_clash_14 (by decide) (by decide) ⟨by rw [eS], _, by rw [eS]; exact f1594, f1591, rg2_tr (rg2_rf 89 89 124 124 h) (rg2_w k1592 (by decide))⟩
set_option maxHeartbeats 4000000 in
theorem oX9_visitor {l : Launch} {G : xG} {h : List va_E} {sp fa nb ns nm nv sh : Nat} {ho ow sl : Int32} {rg : Nat → Int32} {so xx tr : Nat → Nat} {yM : Nat → Int32} {s x y t : Int32} (h88 : h[88]? = some (oB 9 (lM G (nI sp) (nI fa) (nI nb) (nI ns) (nI nm) ho ow sl (nI nv) (nI sh)))) (h89 : h[89]? = some (aI 7 rg)) (h116 : h[116]? = some (aI 40 (nA so))) (h117 : h[117]? = some (aI 40 (nA xx))) (h118 : h[118]? = some (aI 40 yM)) (h119 : h[119]? = some (aI 40 (nA tr))) (hn : nv ≤ 40) : CE l G yX9_visitor cX9_visitor 5 (some .int) 2 0 0 [.ref (G.1 + 88), .int s, .int x, .int y, .int t] h (some (.int (spVis nv s x y t))) (fun h1 => ∃ rg1 : Nat → Int32, h1[88]? = some (oB 9 (lM G (nI sp) (nI fa) (nI nb) (nI ns) (nI nm) ho ow sl (nI (spN (0 ≤ (spVis nv s x y t).toInt) nv (nv + 1))) (nI sh))) ∧ h1[116]? = some (aI 40 (nA (spUn (0 ≤ (spVis nv s x y t).toInt) so nv (tn s)))) ∧ h1[117]? = some (aI 40 (nA (spUn (0 ≤ (spVis nv s x y t).toInt) xx nv (tn x)))) ∧ h1[118]? = some (aI 40 (spUi (0 ≤ (spVis nv s x y t).toInt) yM nv y)) ∧ h1[119]? = some (aI 40 (nA (spUn (0 ≤ (spVis nv s x y t).toInt) tr nv (tn t)))) ∧ h1[89]? = some (aI 7 rg1) ∧ rg2 88 89 116 119 h h1) := by
  refine cm_ofQ rfl (Nat.le_of_ble_eq_true rfl) [(0, .ref (G.1 + 88)), (1, .int s), (2, .int x), (3, .int y), (4, .int t)] rfl (fun QF hQF => ?_)
  refine aw_iload_n 1 dX9_visitor_0 rfl rfl ?_
  refine aw_iconst (4) dX9_visitor_1 (by decide) ?_
  refine aw_dS [.int s, .int 4] [] lX9_126 sX9_isIn mX9_isIn dX9_visitor_2 (bX9_isIn (x := s) (n := 4) (by omega)) rfl (Nat.le_of_ble_eq_true rfl) (by decide) (by decide) rfl ?_
  refine aw_if_ne 15 dX9_visitor_5 (by decide) (fun c5 => ?_) (fun c5 => ?_)
  · have t5 := ite_1 c5
    refine aw_iload_n 2 dX9_visitor_15 rfl rfl ?_
    refine aw_bipush (12) dX9_visitor_16 (by decide) ?_
    refine aw_dS [.int x, .int 12] [] lX9_126 sX9_isIn mX9_isIn dX9_visitor_18 (bX9_isIn (x := x) (n := 12) (by omega)) rfl (Nat.le_of_ble_eq_true rfl) (by decide) (by decide) rfl ?_
    refine aw_if_eq 43 dX9_visitor_21 (by decide) (fun c21 => ?_) (fun c21 => ?_)
    · have t21 := ite_0 c21
      refine aw_aload_n 0 dX9_visitor_43 rfl rfl ?_
      refine aw_iconst (-1) dX9_visitor_44 (by decide) ?_
      refine aw_eV [.int (-1)] [] lX9_130 vX9_refuse mX9_refuse dX9_visitor_45 (bX9_refuse (sp := sp) (fa := fa) (nb := nb) (ns := ns) (nm := nm) (nv := nv) (sh := sh) (ho := ho) (ow := ow) (sl := sl) (rg := rg) (x := (-1)) (q := 1) h88 h89 (by decide) (by decide)) h88 rfl rfl rfl (Nat.le_of_ble_eq_true rfl) (by decide) (by decide) rfl (fun h1597 q1596 => ?_)
      obtain ⟨rg11595, f1598, k1599⟩ := q1596
      have f1600 := rng_at k1599 (by decide) h88
      have f1601 := rng_at k1599 (by decide) h116
      have f1602 := rng_at k1599 (by decide) h117
      have f1603 := rng_at k1599 (by decide) h118
      have f1604 := rng_at k1599 (by decide) h119
      subst hQF
      have eS : (spVis nv s x y t) = (-1) := by unfold spVis; (repeat' split) <;> first | (exfalso; omega) | rfl
      have ok9 : ¬ 0 ≤ (spVis nv s x y t).toInt := by rw [eS]; decide
      exact aw_iret rfl dX9_visitor_48 (by decide) (by decide) ⟨by rw [eS], _, by rw [spN_n ok9]; exact f1600, by rw [spUn_n ok9]; exact f1601, by rw [spUn_n ok9]; exact f1602, by rw [spUi_n ok9]; exact f1603, by rw [spUn_n ok9]; exact f1604, f1598, rg2_tr (rg2_rf 88 89 116 119 h) (rg2_w k1599 (by decide))⟩
    · have t21 := ite_1 c21
      refine aw_iload_n 1 dX9_visitor_24 rfl rfl ?_
      refine aw_iconst (2) dX9_visitor_25 (by decide) ?_
      refine aw_icmp_ge 49 dX9_visitor_26 (by decide) (fun c26 => ?_) (fun c26 => ?_)
      · have d26 := (j_le (a := (2)) (b := s.toInt) (rfl) (rfl)).mp c26
        refine aw_iload 4 dX9_visitor_49 rfl ?_
        refine aw_iconst (1) dX9_visitor_51 (by decide) ?_
        refine aw_icmp_ge 62 dX9_visitor_52 (by decide) (fun c52 => ?_) (fun c52 => ?_)
        · have d52 := (j_le (a := (1)) (b := t.toInt) (rfl) (rfl)).mp c52
          refine aw_iload 4 dX9_visitor_62 rfl ?_
          refine aw_bipush (9) dX9_visitor_64 (by decide) ?_
          refine aw_icmp_gt 78 dX9_visitor_66 (by decide) (fun c66 => ?_) (fun c66 => ?_)
          · have d66 := (j_lt (a := (9)) (b := t.toInt) (rfl) (rfl)).mp c66
            refine aw_aload_n 0 dX9_visitor_78 rfl rfl ?_
            refine aw_bipush (-6) dX9_visitor_79 (by decide) ?_
            refine aw_eV [.int (-6)] [] lX9_130 vX9_refuse mX9_refuse dX9_visitor_81 (bX9_refuse (sp := sp) (fa := fa) (nb := nb) (ns := ns) (nm := nm) (nv := nv) (sh := sh) (ho := ho) (ow := ow) (sl := sl) (rg := rg) (x := (-6)) (q := 6) h88 h89 (by decide) (by decide)) h88 rfl rfl rfl (Nat.le_of_ble_eq_true rfl) (by decide) (by decide) rfl (fun h1607 q1606 => ?_)
            obtain ⟨rg11605, f1608, k1609⟩ := q1606
            have f1610 := rng_at k1609 (by decide) h88
            have f1611 := rng_at k1609 (by decide) h116
            have f1612 := rng_at k1609 (by decide) h117
            have f1613 := rng_at k1609 (by decide) h118
            have f1614 := rng_at k1609 (by decide) h119
            subst hQF
            have eS : (spVis nv s x y t) = (-6) := by unfold spVis; (repeat' split) <;> first | (exfalso; omega) | rfl
            have ok9 : ¬ 0 ≤ (spVis nv s x y t).toInt := by rw [eS]; decide
            exact aw_iret rfl dX9_visitor_84 (by decide) (by decide) ⟨by rw [eS], _, by rw [spN_n ok9]; exact f1610, by rw [spUn_n ok9]; exact f1611, by rw [spUn_n ok9]; exact f1612, by rw [spUi_n ok9]; exact f1613, by rw [spUn_n ok9]; exact f1614, f1608, rg2_tr (rg2_rf 88 89 116 119 h) (rg2_w k1609 (by decide))⟩
          · have d66 := mt (j_lt (a := (9)) (b := t.toInt) (rfl) (rfl)).mpr c66
            refine aw_aload_n 0 dX9_visitor_69 rfl rfl ?_
            refine aw_get fX9_227 dX9_visitor_70 h88 rfl ?_
            refine aw_bipush (40) dX9_visitor_73 (by decide) ?_
            refine aw_icmp_ne 85 dX9_visitor_75 (by decide) (fun c75 => ?_) (fun c75 => ?_)
            · have d75 := mt (nv_eq (a := nv) (b := 40) (rfl) (rfl) (by omega) (by omega)).mpr c75
              obtain ⟨s0, bb_s0, ee_s0⟩ := i_nat (x := s) (N := 4) (by omega) (by omega)
              subst ee_s0
              have tt_s0 : (nI s0).toInt = (s0 : Int) := nI_toInt (by omega)
              have nn_s0 : tn (nI s0) = s0 := tn_nI (by omega)
              obtain ⟨x0, bb_x0, ee_x0⟩ := i_nat (x := x) (N := 12) (by omega) (by omega)
              subst ee_x0
              have tt_x0 : (nI x0).toInt = (x0 : Int) := nI_toInt (by omega)
              have nn_x0 : tn (nI x0) = x0 := tn_nI (by omega)
              obtain ⟨t0, bb_t0, ee_t0⟩ := i_nat (x := t) (N := 10) (by omega) (by omega)
              subst ee_t0
              have tt_t0 : (nI t0).toInt = (t0 : Int) := nI_toInt (by omega)
              have nn_t0 : tn (nI t0) = t0 := tn_nI (by omega)
              refine aw_aload_n 0 dX9_visitor_85 rfl rfl ?_
              refine aw_get fX9_98 dX9_visitor_86 h88 rfl ?_
              refine aw_aload_n 0 dX9_visitor_89 rfl rfl ?_
              refine aw_get fX9_227 dX9_visitor_90 h88 rfl ?_
              refine aw_iload_n 1 dX9_visitor_93 rfl rfl ?_
              refine aw_iast nv (rfl) (by omega) (by decide) dX9_visitor_94 h116 ?_
              rw [nA_u (f := so) (i := nv) (x := (nI s0)) (v := s0) (rfl)]
              refine aw_aload_n 0 dX9_visitor_95 rfl rfl ?_
              refine aw_get fX9_101 dX9_visitor_96 (gn (by decide) (h88)) rfl ?_
              refine aw_aload_n 0 dX9_visitor_99 rfl rfl ?_
              refine aw_get fX9_227 dX9_visitor_100 (gn (by decide) (h88)) rfl ?_
              refine aw_iload_n 2 dX9_visitor_103 rfl rfl ?_
              refine aw_iast nv (rfl) (by omega) (by decide) dX9_visitor_104 (gn (by decide) (h117)) ?_
              rw [nA_u (f := xx) (i := nv) (x := (nI x0)) (v := x0) (rfl)]
              refine aw_aload_n 0 dX9_visitor_105 rfl rfl ?_
              refine aw_get fX9_104 dX9_visitor_106 (gn (by decide) (gn (by decide) (h88))) rfl ?_
              refine aw_aload_n 0 dX9_visitor_109 rfl rfl ?_
              refine aw_get fX9_227 dX9_visitor_110 (gn (by decide) (gn (by decide) (h88))) rfl ?_
              refine aw_iload_n 3 dX9_visitor_113 rfl rfl ?_
              refine aw_iast nv (rfl) (by omega) (by decide) dX9_visitor_114 (gn (by decide) (gn (by decide) (h118))) ?_
              refine aw_aload_n 0 dX9_visitor_115 rfl rfl ?_
              refine aw_get fX9_107 dX9_visitor_116 (gn (by decide) (gn (by decide) (gn (by decide) (h88)))) rfl ?_
              refine aw_aload_n 0 dX9_visitor_119 rfl rfl ?_
              refine aw_get fX9_227 dX9_visitor_120 (gn (by decide) (gn (by decide) (gn (by decide) (h88)))) rfl ?_
              refine aw_iload 4 dX9_visitor_123 rfl ?_
              refine aw_iast nv (rfl) (by omega) (by decide) dX9_visitor_125 (gn (by decide) (gn (by decide) (gn (by decide) (h119)))) ?_
              rw [nA_u (f := tr) (i := nv) (x := (nI t0)) (v := t0) (rfl)]
              refine aw_aload_n 0 dX9_visitor_126 rfl rfl ?_
              refine aw_dup dX9_visitor_127 rfl ?_
              refine aw_get fX9_227 dX9_visitor_128 (gn (by decide) (gn (by decide) (gn (by decide) (gn (by decide) (h88))))) rfl ?_
              refine aw_iconst (1) dX9_visitor_131 (by decide) ?_
              refine aw_iadd dX9_visitor_132 ?_
              refine aw_toe (nI (nv + 1)) (nv_add (rfl) (rfl)) ?_
              refine aw_putQ fX9_227 dX9_visitor_133 (lM G (nI sp) (nI fa) (nI nb) (nI ns) (nI nm) ho ow sl (nI (nv + 1)) (nI sh)) (gn (by decide) (gn (by decide) (gn (by decide) (gn (by decide) (h88))))) rfl rfl rfl (Nat.le_of_ble_eq_true rfl) rfl ?_
              refine aw_aload_n 0 dX9_visitor_136 rfl rfl ?_
              refine aw_get fX9_227 dX9_visitor_137 (gs (gn (by decide) (gn (by decide) (gn (by decide) (gn (by decide) (h88)))))) rfl ?_
              refine aw_iconst (1) dX9_visitor_140 (by decide) ?_
              refine aw_isub dX9_visitor_141 ?_
              refine aw_toe (nI nv) (nv_p1 (rfl)) ?_
              subst hQF
              have eS : (spVis nv (nI s0) (nI x0) y (nI t0)) = (nI nv) := by unfold spVis; (repeat' split) <;> first | (exfalso; omega) | rfl
              have ok9 : 0 ≤ (spVis nv (nI s0) (nI x0) y (nI t0)).toInt := by rw [eS, nI_toInt (by omega)]; omega
              exact aw_iret rfl dX9_visitor_142 (by decide) (by decide) ⟨by rw [eS], _, by rw [spN_y ok9]; exact (gs (gn (by decide) (gn (by decide) (gn (by decide) (gn (by decide) (h88)))))), by rw [spUn_y ok9, nn_s0]; exact (gn (by decide) (gn (by decide) (gn (by decide) (gn (by decide) (gs h116))))), by rw [spUn_y ok9, nn_x0]; exact (gn (by decide) (gn (by decide) (gn (by decide) (gs (gn (by decide) (h117)))))), by rw [spUi_y ok9]; exact (gn (by decide) (gn (by decide) (gs (gn (by decide) (gn (by decide) (h118)))))), by rw [spUn_y ok9, nn_t0]; exact (gn (by decide) (gs (gn (by decide) (gn (by decide) (gn (by decide) (h119)))))), (gn (by decide) (gn (by decide) (gn (by decide) (gn (by decide) (gn (by decide) (h89)))))), rg2_set (rg2_set (rg2_set (rg2_set (rg2_set (rg2_rf 88 89 116 119 h) (by decide)) (by decide)) (by decide)) (by decide)) (by decide)⟩
            · have d75 := (nv_eq (a := nv) (b := 40) (rfl) (rfl) (by omega) (by omega)).mp c75
              refine aw_aload_n 0 dX9_visitor_78 rfl rfl ?_
              refine aw_bipush (-6) dX9_visitor_79 (by decide) ?_
              refine aw_eV [.int (-6)] [] lX9_130 vX9_refuse mX9_refuse dX9_visitor_81 (bX9_refuse (sp := sp) (fa := fa) (nb := nb) (ns := ns) (nm := nm) (nv := nv) (sh := sh) (ho := ho) (ow := ow) (sl := sl) (rg := rg) (x := (-6)) (q := 6) h88 h89 (by decide) (by decide)) h88 rfl rfl rfl (Nat.le_of_ble_eq_true rfl) (by decide) (by decide) rfl (fun h1617 q1616 => ?_)
              obtain ⟨rg11615, f1618, k1619⟩ := q1616
              have f1620 := rng_at k1619 (by decide) h88
              have f1621 := rng_at k1619 (by decide) h116
              have f1622 := rng_at k1619 (by decide) h117
              have f1623 := rng_at k1619 (by decide) h118
              have f1624 := rng_at k1619 (by decide) h119
              subst hQF
              have eS : (spVis nv s x y t) = (-6) := by unfold spVis; (repeat' split) <;> first | (exfalso; omega) | rfl
              have ok9 : ¬ 0 ≤ (spVis nv s x y t).toInt := by rw [eS]; decide
              exact aw_iret rfl dX9_visitor_84 (by decide) (by decide) ⟨by rw [eS], _, by rw [spN_n ok9]; exact f1620, by rw [spUn_n ok9]; exact f1621, by rw [spUn_n ok9]; exact f1622, by rw [spUi_n ok9]; exact f1623, by rw [spUn_n ok9]; exact f1624, f1618, rg2_tr (rg2_rf 88 89 116 119 h) (rg2_w k1619 (by decide))⟩
        · have d52 := mt (j_le (a := (1)) (b := t.toInt) (rfl) (rfl)).mpr c52
          refine aw_aload_n 0 dX9_visitor_55 rfl rfl ?_
          refine aw_bipush (-4) dX9_visitor_56 (by decide) ?_
          refine aw_eV [.int (-4)] [] lX9_130 vX9_refuse mX9_refuse dX9_visitor_58 (bX9_refuse (sp := sp) (fa := fa) (nb := nb) (ns := ns) (nm := nm) (nv := nv) (sh := sh) (ho := ho) (ow := ow) (sl := sl) (rg := rg) (x := (-4)) (q := 4) h88 h89 (by decide) (by decide)) h88 rfl rfl rfl (Nat.le_of_ble_eq_true rfl) (by decide) (by decide) rfl (fun h1627 q1626 => ?_)
          obtain ⟨rg11625, f1628, k1629⟩ := q1626
          have f1630 := rng_at k1629 (by decide) h88
          have f1631 := rng_at k1629 (by decide) h116
          have f1632 := rng_at k1629 (by decide) h117
          have f1633 := rng_at k1629 (by decide) h118
          have f1634 := rng_at k1629 (by decide) h119
          subst hQF
          have eS : (spVis nv s x y t) = (-4) := by unfold spVis; (repeat' split) <;> first | (exfalso; omega) | rfl
          have ok9 : ¬ 0 ≤ (spVis nv s x y t).toInt := by rw [eS]; decide
          exact aw_iret rfl dX9_visitor_61 (by decide) (by decide) ⟨by rw [eS], _, by rw [spN_n ok9]; exact f1630, by rw [spUn_n ok9]; exact f1631, by rw [spUn_n ok9]; exact f1632, by rw [spUi_n ok9]; exact f1633, by rw [spUn_n ok9]; exact f1634, f1628, rg2_tr (rg2_rf 88 89 116 119 h) (rg2_w k1629 (by decide))⟩
      · have d26 := mt (j_le (a := (2)) (b := s.toInt) (rfl) (rfl)).mpr c26
        refine aw_iload_n 3 dX9_visitor_29 rfl rfl ?_
        refine aw_bipush (12) dX9_visitor_30 (by decide) ?_
        refine aw_dS [.int y, .int 12] [] lX9_126 sX9_isIn mX9_isIn dX9_visitor_32 (bX9_isIn (x := y) (n := 12) (by omega)) rfl (Nat.le_of_ble_eq_true rfl) (by decide) (by decide) rfl ?_
        refine aw_if_eq 43 dX9_visitor_35 (by decide) (fun c35 => ?_) (fun c35 => ?_)
        · have t35 := ite_0 c35
          refine aw_aload_n 0 dX9_visitor_43 rfl rfl ?_
          refine aw_iconst (-1) dX9_visitor_44 (by decide) ?_
          refine aw_eV [.int (-1)] [] lX9_130 vX9_refuse mX9_refuse dX9_visitor_45 (bX9_refuse (sp := sp) (fa := fa) (nb := nb) (ns := ns) (nm := nm) (nv := nv) (sh := sh) (ho := ho) (ow := ow) (sl := sl) (rg := rg) (x := (-1)) (q := 1) h88 h89 (by decide) (by decide)) h88 rfl rfl rfl (Nat.le_of_ble_eq_true rfl) (by decide) (by decide) rfl (fun h1637 q1636 => ?_)
          obtain ⟨rg11635, f1638, k1639⟩ := q1636
          have f1640 := rng_at k1639 (by decide) h88
          have f1641 := rng_at k1639 (by decide) h116
          have f1642 := rng_at k1639 (by decide) h117
          have f1643 := rng_at k1639 (by decide) h118
          have f1644 := rng_at k1639 (by decide) h119
          subst hQF
          have eS : (spVis nv s x y t) = (-1) := by unfold spVis; (repeat' split) <;> first | (exfalso; omega) | rfl
          have ok9 : ¬ 0 ≤ (spVis nv s x y t).toInt := by rw [eS]; decide
          exact aw_iret rfl dX9_visitor_48 (by decide) (by decide) ⟨by rw [eS], _, by rw [spN_n ok9]; exact f1640, by rw [spUn_n ok9]; exact f1641, by rw [spUn_n ok9]; exact f1642, by rw [spUi_n ok9]; exact f1643, by rw [spUn_n ok9]; exact f1644, f1638, rg2_tr (rg2_rf 88 89 116 119 h) (rg2_w k1639 (by decide))⟩
        · have t35 := ite_1 c35
          refine aw_iload_n 2 dX9_visitor_38 rfl rfl ?_
          refine aw_iload_n 3 dX9_visitor_39 rfl rfl ?_
          refine aw_icmp_ne 49 dX9_visitor_40 (by decide) (fun c40 => ?_) (fun c40 => ?_)
          · have d40 := mt (j_eq (a := x.toInt) (b := y.toInt) (rfl) (rfl)).mpr c40
            refine aw_iload 4 dX9_visitor_49 rfl ?_
            refine aw_iconst (1) dX9_visitor_51 (by decide) ?_
            refine aw_icmp_ge 62 dX9_visitor_52 (by decide) (fun c52 => ?_) (fun c52 => ?_)
            · have d52 := (j_le (a := (1)) (b := t.toInt) (rfl) (rfl)).mp c52
              refine aw_iload 4 dX9_visitor_62 rfl ?_
              refine aw_bipush (9) dX9_visitor_64 (by decide) ?_
              refine aw_icmp_gt 78 dX9_visitor_66 (by decide) (fun c66 => ?_) (fun c66 => ?_)
              · have d66 := (j_lt (a := (9)) (b := t.toInt) (rfl) (rfl)).mp c66
                refine aw_aload_n 0 dX9_visitor_78 rfl rfl ?_
                refine aw_bipush (-6) dX9_visitor_79 (by decide) ?_
                refine aw_eV [.int (-6)] [] lX9_130 vX9_refuse mX9_refuse dX9_visitor_81 (bX9_refuse (sp := sp) (fa := fa) (nb := nb) (ns := ns) (nm := nm) (nv := nv) (sh := sh) (ho := ho) (ow := ow) (sl := sl) (rg := rg) (x := (-6)) (q := 6) h88 h89 (by decide) (by decide)) h88 rfl rfl rfl (Nat.le_of_ble_eq_true rfl) (by decide) (by decide) rfl (fun h1647 q1646 => ?_)
                obtain ⟨rg11645, f1648, k1649⟩ := q1646
                have f1650 := rng_at k1649 (by decide) h88
                have f1651 := rng_at k1649 (by decide) h116
                have f1652 := rng_at k1649 (by decide) h117
                have f1653 := rng_at k1649 (by decide) h118
                have f1654 := rng_at k1649 (by decide) h119
                subst hQF
                have eS : (spVis nv s x y t) = (-6) := by unfold spVis; (repeat' split) <;> first | (exfalso; omega) | rfl
                have ok9 : ¬ 0 ≤ (spVis nv s x y t).toInt := by rw [eS]; decide
                exact aw_iret rfl dX9_visitor_84 (by decide) (by decide) ⟨by rw [eS], _, by rw [spN_n ok9]; exact f1650, by rw [spUn_n ok9]; exact f1651, by rw [spUn_n ok9]; exact f1652, by rw [spUi_n ok9]; exact f1653, by rw [spUn_n ok9]; exact f1654, f1648, rg2_tr (rg2_rf 88 89 116 119 h) (rg2_w k1649 (by decide))⟩
              · have d66 := mt (j_lt (a := (9)) (b := t.toInt) (rfl) (rfl)).mpr c66
                refine aw_aload_n 0 dX9_visitor_69 rfl rfl ?_
                refine aw_get fX9_227 dX9_visitor_70 h88 rfl ?_
                refine aw_bipush (40) dX9_visitor_73 (by decide) ?_
                refine aw_icmp_ne 85 dX9_visitor_75 (by decide) (fun c75 => ?_) (fun c75 => ?_)
                · have d75 := mt (nv_eq (a := nv) (b := 40) (rfl) (rfl) (by omega) (by omega)).mpr c75
                  obtain ⟨s0, bb_s0, ee_s0⟩ := i_nat (x := s) (N := 4) (by omega) (by omega)
                  subst ee_s0
                  have tt_s0 : (nI s0).toInt = (s0 : Int) := nI_toInt (by omega)
                  have nn_s0 : tn (nI s0) = s0 := tn_nI (by omega)
                  obtain ⟨x0, bb_x0, ee_x0⟩ := i_nat (x := x) (N := 12) (by omega) (by omega)
                  subst ee_x0
                  have tt_x0 : (nI x0).toInt = (x0 : Int) := nI_toInt (by omega)
                  have nn_x0 : tn (nI x0) = x0 := tn_nI (by omega)
                  obtain ⟨t0, bb_t0, ee_t0⟩ := i_nat (x := t) (N := 10) (by omega) (by omega)
                  subst ee_t0
                  have tt_t0 : (nI t0).toInt = (t0 : Int) := nI_toInt (by omega)
                  have nn_t0 : tn (nI t0) = t0 := tn_nI (by omega)
                  refine aw_aload_n 0 dX9_visitor_85 rfl rfl ?_
                  refine aw_get fX9_98 dX9_visitor_86 h88 rfl ?_
                  refine aw_aload_n 0 dX9_visitor_89 rfl rfl ?_
                  refine aw_get fX9_227 dX9_visitor_90 h88 rfl ?_
                  refine aw_iload_n 1 dX9_visitor_93 rfl rfl ?_
                  refine aw_iast nv (rfl) (by omega) (by decide) dX9_visitor_94 h116 ?_
                  rw [nA_u (f := so) (i := nv) (x := (nI s0)) (v := s0) (rfl)]
                  refine aw_aload_n 0 dX9_visitor_95 rfl rfl ?_
                  refine aw_get fX9_101 dX9_visitor_96 (gn (by decide) (h88)) rfl ?_
                  refine aw_aload_n 0 dX9_visitor_99 rfl rfl ?_
                  refine aw_get fX9_227 dX9_visitor_100 (gn (by decide) (h88)) rfl ?_
                  refine aw_iload_n 2 dX9_visitor_103 rfl rfl ?_
                  refine aw_iast nv (rfl) (by omega) (by decide) dX9_visitor_104 (gn (by decide) (h117)) ?_
                  rw [nA_u (f := xx) (i := nv) (x := (nI x0)) (v := x0) (rfl)]
                  refine aw_aload_n 0 dX9_visitor_105 rfl rfl ?_
                  refine aw_get fX9_104 dX9_visitor_106 (gn (by decide) (gn (by decide) (h88))) rfl ?_
                  refine aw_aload_n 0 dX9_visitor_109 rfl rfl ?_
                  refine aw_get fX9_227 dX9_visitor_110 (gn (by decide) (gn (by decide) (h88))) rfl ?_
                  refine aw_iload_n 3 dX9_visitor_113 rfl rfl ?_
                  refine aw_iast nv (rfl) (by omega) (by decide) dX9_visitor_114 (gn (by decide) (gn (by decide) (h118))) ?_
                  refine aw_aload_n 0 dX9_visitor_115 rfl rfl ?_
                  refine aw_get fX9_107 dX9_visitor_116 (gn (by decide) (gn (by decide) (gn (by decide) (h88)))) rfl ?_
                  refine aw_aload_n 0 dX9_visitor_119 rfl rfl ?_
                  refine aw_get fX9_227 dX9_visitor_120 (gn (by decide) (gn (by decide) (gn (by decide) (h88)))) rfl ?_
                  refine aw_iload 4 dX9_visitor_123 rfl ?_
                  refine aw_iast nv (rfl) (by omega) (by decide) dX9_visitor_125 (gn (by decide) (gn (by decide) (gn (by decide) (h119)))) ?_
                  rw [nA_u (f := tr) (i := nv) (x := (nI t0)) (v := t0) (rfl)]
                  refine aw_aload_n 0 dX9_visitor_126 rfl rfl ?_
                  refine aw_dup dX9_visitor_127 rfl ?_
                  refine aw_get fX9_227 dX9_visitor_128 (gn (by decide) (gn (by decide) (gn (by decide) (gn (by decide) (h88))))) rfl ?_
                  refine aw_iconst (1) dX9_visitor_131 (by decide) ?_
                  refine aw_iadd dX9_visitor_132 ?_
                  refine aw_toe (nI (nv + 1)) (nv_add (rfl) (rfl)) ?_
                  refine aw_putQ fX9_227 dX9_visitor_133 (lM G (nI sp) (nI fa) (nI nb) (nI ns) (nI nm) ho ow sl (nI (nv + 1)) (nI sh)) (gn (by decide) (gn (by decide) (gn (by decide) (gn (by decide) (h88))))) rfl rfl rfl (Nat.le_of_ble_eq_true rfl) rfl ?_
                  refine aw_aload_n 0 dX9_visitor_136 rfl rfl ?_
                  refine aw_get fX9_227 dX9_visitor_137 (gs (gn (by decide) (gn (by decide) (gn (by decide) (gn (by decide) (h88)))))) rfl ?_
                  refine aw_iconst (1) dX9_visitor_140 (by decide) ?_
                  refine aw_isub dX9_visitor_141 ?_
                  refine aw_toe (nI nv) (nv_p1 (rfl)) ?_
                  subst hQF
                  have eS : (spVis nv (nI s0) (nI x0) y (nI t0)) = (nI nv) := by unfold spVis; (repeat' split) <;> first | (exfalso; omega) | rfl
                  have ok9 : 0 ≤ (spVis nv (nI s0) (nI x0) y (nI t0)).toInt := by rw [eS, nI_toInt (by omega)]; omega
                  exact aw_iret rfl dX9_visitor_142 (by decide) (by decide) ⟨by rw [eS], _, by rw [spN_y ok9]; exact (gs (gn (by decide) (gn (by decide) (gn (by decide) (gn (by decide) (h88)))))), by rw [spUn_y ok9, nn_s0]; exact (gn (by decide) (gn (by decide) (gn (by decide) (gn (by decide) (gs h116))))), by rw [spUn_y ok9, nn_x0]; exact (gn (by decide) (gn (by decide) (gn (by decide) (gs (gn (by decide) (h117)))))), by rw [spUi_y ok9]; exact (gn (by decide) (gn (by decide) (gs (gn (by decide) (gn (by decide) (h118)))))), by rw [spUn_y ok9, nn_t0]; exact (gn (by decide) (gs (gn (by decide) (gn (by decide) (gn (by decide) (h119)))))), (gn (by decide) (gn (by decide) (gn (by decide) (gn (by decide) (gn (by decide) (h89)))))), rg2_set (rg2_set (rg2_set (rg2_set (rg2_set (rg2_rf 88 89 116 119 h) (by decide)) (by decide)) (by decide)) (by decide)) (by decide)⟩
                · have d75 := (nv_eq (a := nv) (b := 40) (rfl) (rfl) (by omega) (by omega)).mp c75
                  refine aw_aload_n 0 dX9_visitor_78 rfl rfl ?_
                  refine aw_bipush (-6) dX9_visitor_79 (by decide) ?_
                  refine aw_eV [.int (-6)] [] lX9_130 vX9_refuse mX9_refuse dX9_visitor_81 (bX9_refuse (sp := sp) (fa := fa) (nb := nb) (ns := ns) (nm := nm) (nv := nv) (sh := sh) (ho := ho) (ow := ow) (sl := sl) (rg := rg) (x := (-6)) (q := 6) h88 h89 (by decide) (by decide)) h88 rfl rfl rfl (Nat.le_of_ble_eq_true rfl) (by decide) (by decide) rfl (fun h1657 q1656 => ?_)
                  obtain ⟨rg11655, f1658, k1659⟩ := q1656
                  have f1660 := rng_at k1659 (by decide) h88
                  have f1661 := rng_at k1659 (by decide) h116
                  have f1662 := rng_at k1659 (by decide) h117
                  have f1663 := rng_at k1659 (by decide) h118
                  have f1664 := rng_at k1659 (by decide) h119
                  subst hQF
                  have eS : (spVis nv s x y t) = (-6) := by unfold spVis; (repeat' split) <;> first | (exfalso; omega) | rfl
                  have ok9 : ¬ 0 ≤ (spVis nv s x y t).toInt := by rw [eS]; decide
                  exact aw_iret rfl dX9_visitor_84 (by decide) (by decide) ⟨by rw [eS], _, by rw [spN_n ok9]; exact f1660, by rw [spUn_n ok9]; exact f1661, by rw [spUn_n ok9]; exact f1662, by rw [spUi_n ok9]; exact f1663, by rw [spUn_n ok9]; exact f1664, f1658, rg2_tr (rg2_rf 88 89 116 119 h) (rg2_w k1659 (by decide))⟩
            · have d52 := mt (j_le (a := (1)) (b := t.toInt) (rfl) (rfl)).mpr c52
              refine aw_aload_n 0 dX9_visitor_55 rfl rfl ?_
              refine aw_bipush (-4) dX9_visitor_56 (by decide) ?_
              refine aw_eV [.int (-4)] [] lX9_130 vX9_refuse mX9_refuse dX9_visitor_58 (bX9_refuse (sp := sp) (fa := fa) (nb := nb) (ns := ns) (nm := nm) (nv := nv) (sh := sh) (ho := ho) (ow := ow) (sl := sl) (rg := rg) (x := (-4)) (q := 4) h88 h89 (by decide) (by decide)) h88 rfl rfl rfl (Nat.le_of_ble_eq_true rfl) (by decide) (by decide) rfl (fun h1667 q1666 => ?_)
              obtain ⟨rg11665, f1668, k1669⟩ := q1666
              have f1670 := rng_at k1669 (by decide) h88
              have f1671 := rng_at k1669 (by decide) h116
              have f1672 := rng_at k1669 (by decide) h117
              have f1673 := rng_at k1669 (by decide) h118
              have f1674 := rng_at k1669 (by decide) h119
              subst hQF
              have eS : (spVis nv s x y t) = (-4) := by unfold spVis; (repeat' split) <;> first | (exfalso; omega) | rfl
              have ok9 : ¬ 0 ≤ (spVis nv s x y t).toInt := by rw [eS]; decide
              exact aw_iret rfl dX9_visitor_61 (by decide) (by decide) ⟨by rw [eS], _, by rw [spN_n ok9]; exact f1670, by rw [spUn_n ok9]; exact f1671, by rw [spUn_n ok9]; exact f1672, by rw [spUi_n ok9]; exact f1673, by rw [spUn_n ok9]; exact f1674, f1668, rg2_tr (rg2_rf 88 89 116 119 h) (rg2_w k1669 (by decide))⟩
          · have d40 := (j_eq (a := x.toInt) (b := y.toInt) (rfl) (rfl)).mp c40
            refine aw_aload_n 0 dX9_visitor_43 rfl rfl ?_
            refine aw_iconst (-1) dX9_visitor_44 (by decide) ?_
            refine aw_eV [.int (-1)] [] lX9_130 vX9_refuse mX9_refuse dX9_visitor_45 (bX9_refuse (sp := sp) (fa := fa) (nb := nb) (ns := ns) (nm := nm) (nv := nv) (sh := sh) (ho := ho) (ow := ow) (sl := sl) (rg := rg) (x := (-1)) (q := 1) h88 h89 (by decide) (by decide)) h88 rfl rfl rfl (Nat.le_of_ble_eq_true rfl) (by decide) (by decide) rfl (fun h1677 q1676 => ?_)
            obtain ⟨rg11675, f1678, k1679⟩ := q1676
            have f1680 := rng_at k1679 (by decide) h88
            have f1681 := rng_at k1679 (by decide) h116
            have f1682 := rng_at k1679 (by decide) h117
            have f1683 := rng_at k1679 (by decide) h118
            have f1684 := rng_at k1679 (by decide) h119
            subst hQF
            have eS : (spVis nv s x y t) = (-1) := by unfold spVis; (repeat' split) <;> first | (exfalso; omega) | rfl
            have ok9 : ¬ 0 ≤ (spVis nv s x y t).toInt := by rw [eS]; decide
            exact aw_iret rfl dX9_visitor_48 (by decide) (by decide) ⟨by rw [eS], _, by rw [spN_n ok9]; exact f1680, by rw [spUn_n ok9]; exact f1681, by rw [spUn_n ok9]; exact f1682, by rw [spUi_n ok9]; exact f1683, by rw [spUn_n ok9]; exact f1684, f1678, rg2_tr (rg2_rf 88 89 116 119 h) (rg2_w k1679 (by decide))⟩
  · have t5 := ite_0 c5
    refine aw_aload_n 0 dX9_visitor_8 rfl rfl ?_
    refine aw_bipush (-2) dX9_visitor_9 (by decide) ?_
    refine aw_eV [.int (-2)] [] lX9_130 vX9_refuse mX9_refuse dX9_visitor_11 (bX9_refuse (sp := sp) (fa := fa) (nb := nb) (ns := ns) (nm := nm) (nv := nv) (sh := sh) (ho := ho) (ow := ow) (sl := sl) (rg := rg) (x := (-2)) (q := 2) h88 h89 (by decide) (by decide)) h88 rfl rfl rfl (Nat.le_of_ble_eq_true rfl) (by decide) (by decide) rfl (fun h1687 q1686 => ?_)
    obtain ⟨rg11685, f1688, k1689⟩ := q1686
    have f1690 := rng_at k1689 (by decide) h88
    have f1691 := rng_at k1689 (by decide) h116
    have f1692 := rng_at k1689 (by decide) h117
    have f1693 := rng_at k1689 (by decide) h118
    have f1694 := rng_at k1689 (by decide) h119
    subst hQF
    have eS : (spVis nv s x y t) = (-2) := by unfold spVis; (repeat' split) <;> first | (exfalso; omega) | rfl
    have ok9 : ¬ 0 ≤ (spVis nv s x y t).toInt := by rw [eS]; decide
    exact aw_iret rfl dX9_visitor_14 (by decide) (by decide) ⟨by rw [eS], _, by rw [spN_n ok9]; exact f1690, by rw [spUn_n ok9]; exact f1691, by rw [spUn_n ok9]; exact f1692, by rw [spUi_n ok9]; exact f1693, by rw [spUn_n ok9]; exact f1694, f1688, rg2_tr (rg2_rf 88 89 116 119 h) (rg2_w k1689 (by decide))⟩
set_option maxHeartbeats 4000000 in
theorem oX9_sight {l : Launch} {G : xG} {h : List va_E} {sp fa nb ns nm nv sh : Nat} {ho ow sl : Int32} {rg : Nat → Int32} {th ot dy so kn go : Nat → Nat} {t p d k : Int32} (h88 : h[88]? = some (oB 9 (lM G (nI sp) (nI fa) (nI nb) (nI ns) (nI nm) ho ow sl (nI nv) (nI sh)))) (h89 : h[89]? = some (aI 7 rg)) (h103 : h[103]? = some (aI 60 (nA th))) (h104 : h[104]? = some (aI 60 (nA ot))) (h105 : h[105]? = some (aI 60 (nA dy))) (h106 : h[106]? = some (aI 60 (nA kn))) (h107 : h[107]? = some (aI 60 (nA (gM go)))) (hn : ns ≤ 60) : CE l G yX9_sight cX9_sight 6 (some .int) 2 0 0 [.ref (G.1 + 88), .int t, .int p, .int d, .int k] h (some (.int (spSight ns t p d k))) (fun h1 => ∃ rg1 : Nat → Int32, h1[88]? = some (oB 9 (lM G (nI sp) (nI fa) (nI nb) (nI (spN (0 ≤ (spSight ns t p d k).toInt) ns (ns + 1))) (nI nm) ho ow sl (nI nv) (nI sh))) ∧ h1[103]? = some (aI 60 (nA (spUn (0 ≤ (spSight ns t p d k).toInt) th ns (tn t)))) ∧ h1[104]? = some (aI 60 (nA (spUn (0 ≤ (spSight ns t p d k).toInt) ot ns (tn p)))) ∧ h1[105]? = some (aI 60 (nA (spUn (0 ≤ (spSight ns t p d k).toInt) dy ns (tn d)))) ∧ h1[106]? = some (aI 60 (nA (spUn (0 ≤ (spSight ns t p d k).toInt) kn ns (tn k)))) ∧ h1[107]? = some (aI 60 (nA (gM (spUn (0 ≤ (spSight ns t p d k).toInt) go ns 80001)))) ∧ h1[89]? = some (aI 7 rg1) ∧ rg2 88 89 103 107 h h1) := by
  refine cm_ofQ rfl (Nat.le_of_ble_eq_true rfl) [(0, .ref (G.1 + 88)), (1, .int t), (2, .int p), (3, .int d), (4, .int k)] rfl (fun QF hQF => ?_)
  refine aw_iload_n 1 dX9_sight_0 rfl rfl ?_
  refine aw_bipush (12) dX9_sight_1 (by decide) ?_
  refine aw_dS [.int t, .int 12] [] lX9_126 sX9_isIn mX9_isIn dX9_sight_3 (bX9_isIn (x := t) (n := 12) (by omega)) rfl (Nat.le_of_ble_eq_true rfl) (by decide) (by decide) rfl ?_
  refine aw_if_eq 27 dX9_sight_6 (by decide) (fun c6 => ?_) (fun c6 => ?_)
  · have t6 := ite_0 c6
    refine aw_iconst (-1) dX9_sight_27 (by decide) ?_
    refine aw_istore [(5, .int (-1)), (0, .ref (G.1 + 88)), (1, .int t), (2, .int p), (3, .int d), (4, .int k)] dX9_sight_28 (by decide) rfl ?_
    refine aw_iload 0 dX9_sight_30 rfl ?_
    refine aw_if_ne 48 dX9_sight_32 (by decide) (fun c32 => ?_) (fun c32 => absurd c32 (by decide))
    refine aw_iload 0 dX9_sight_48 rfl ?_
    refine aw_if_eq 60 dX9_sight_50 (by decide) (fun c50 => absurd c50 (by decide)) (fun c50 => ?_)
    refine aw_aload_n 1 dX9_sight_53 rfl rfl ?_
    refine aw_iload 0 dX9_sight_54 rfl ?_
    refine aw_eV [.int (-1)] [] lX9_130 vX9_refuse mX9_refuse dX9_sight_56 (bX9_refuse (sp := sp) (fa := fa) (nb := nb) (ns := ns) (nm := nm) (nv := nv) (sh := sh) (ho := ho) (ow := ow) (sl := sl) (rg := rg) (x := (-1)) (q := 1) h88 h89 (by decide) (by decide)) h88 rfl rfl rfl (Nat.le_of_ble_eq_true rfl) (by decide) (by decide) rfl (fun h1697 q1696 => ?_)
    obtain ⟨rg11695, f1698, k1699⟩ := q1696
    have f1700 := rng_at k1699 (by decide) h88
    have f1701 := rng_at k1699 (by decide) h103
    have f1702 := rng_at k1699 (by decide) h104
    have f1703 := rng_at k1699 (by decide) h105
    have f1704 := rng_at k1699 (by decide) h106
    have f1705 := rng_at k1699 (by decide) h107
    subst hQF
    have eS : (spSight ns t p d k) = (-1) := by unfold spSight; (repeat' split) <;> first | (exfalso; omega) | rfl | contradiction
    have ok9 : ¬ 0 ≤ (spSight ns t p d k).toInt := by rw [eS]; decide
    exact aw_iret rfl dX9_sight_59 (by decide) (by decide) ⟨by rw [eS], _, by rw [spN_n ok9]; exact f1700, by rw [spUn_n ok9]; exact f1701, by rw [spUn_n ok9]; exact f1702, by rw [spUn_n ok9]; exact f1703, by rw [spUn_n ok9]; exact f1704, by rw [spUn_n ok9]; exact f1705, f1698, rg2_tr (rg2_rf 88 89 103 107 h) (rg2_w k1699 (by decide))⟩
  · have t6 := ite_1 c6
    refine aw_iload_n 2 dX9_sight_9 rfl rfl ?_
    refine aw_bipush (8) dX9_sight_10 (by decide) ?_
    refine aw_dS [.int p, .int 8] [] lX9_126 sX9_isIn mX9_isIn dX9_sight_12 (bX9_isIn (x := p) (n := 8) (by omega)) rfl (Nat.le_of_ble_eq_true rfl) (by decide) (by decide) rfl ?_
    refine aw_if_eq 27 dX9_sight_15 (by decide) (fun c15 => ?_) (fun c15 => ?_)
    · have t15 := ite_0 c15
      refine aw_iconst (-1) dX9_sight_27 (by decide) ?_
      refine aw_istore [(5, .int (-1)), (0, .ref (G.1 + 88)), (1, .int t), (2, .int p), (3, .int d), (4, .int k)] dX9_sight_28 (by decide) rfl ?_
      refine aw_iload 0 dX9_sight_30 rfl ?_
      refine aw_if_ne 48 dX9_sight_32 (by decide) (fun c32 => ?_) (fun c32 => absurd c32 (by decide))
      refine aw_iload 0 dX9_sight_48 rfl ?_
      refine aw_if_eq 60 dX9_sight_50 (by decide) (fun c50 => absurd c50 (by decide)) (fun c50 => ?_)
      refine aw_aload_n 1 dX9_sight_53 rfl rfl ?_
      refine aw_iload 0 dX9_sight_54 rfl ?_
      refine aw_eV [.int (-1)] [] lX9_130 vX9_refuse mX9_refuse dX9_sight_56 (bX9_refuse (sp := sp) (fa := fa) (nb := nb) (ns := ns) (nm := nm) (nv := nv) (sh := sh) (ho := ho) (ow := ow) (sl := sl) (rg := rg) (x := (-1)) (q := 1) h88 h89 (by decide) (by decide)) h88 rfl rfl rfl (Nat.le_of_ble_eq_true rfl) (by decide) (by decide) rfl (fun h1708 q1707 => ?_)
      obtain ⟨rg11706, f1709, k1710⟩ := q1707
      have f1711 := rng_at k1710 (by decide) h88
      have f1712 := rng_at k1710 (by decide) h103
      have f1713 := rng_at k1710 (by decide) h104
      have f1714 := rng_at k1710 (by decide) h105
      have f1715 := rng_at k1710 (by decide) h106
      have f1716 := rng_at k1710 (by decide) h107
      subst hQF
      have eS : (spSight ns t p d k) = (-1) := by unfold spSight; (repeat' split) <;> first | (exfalso; omega) | rfl | contradiction
      have ok9 : ¬ 0 ≤ (spSight ns t p d k).toInt := by rw [eS]; decide
      exact aw_iret rfl dX9_sight_59 (by decide) (by decide) ⟨by rw [eS], _, by rw [spN_n ok9]; exact f1711, by rw [spUn_n ok9]; exact f1712, by rw [spUn_n ok9]; exact f1713, by rw [spUn_n ok9]; exact f1714, by rw [spUn_n ok9]; exact f1715, by rw [spUn_n ok9]; exact f1716, f1709, rg2_tr (rg2_rf 88 89 103 107 h) (rg2_w k1710 (by decide))⟩
    · have t15 := ite_1 c15
      refine aw_iload_n 3 dX9_sight_18 rfl rfl ?_
      refine aw_iload 4 dX9_sight_19 rfl ?_
      refine aw_dS [.int d, .int k] [] lX9_195 sX9_wrongDays mX9_wrongDays dX9_sight_21 (bX9_wrongDays (x := d) (k := k) ) rfl (Nat.le_of_ble_eq_true rfl) (by decide) (by decide) rfl ?_
      refine aw_goto 28 dX9_sight_24 (by decide) ?_
      refine aw_istore [(5, .int (dyF d k)), (0, .ref (G.1 + 88)), (1, .int t), (2, .int p), (3, .int d), (4, .int k)] dX9_sight_28 (by decide) rfl ?_
      refine aw_iload 0 dX9_sight_30 rfl ?_
      refine aw_if_ne 48 dX9_sight_32 (by decide) (fun c32 => ?_) (fun c32 => ?_)
      · have d32 := mt (j_eq (a := (dyF d k).toInt) (b := (0)) (rfl) (rfl)).mpr c32
        refine aw_iload 0 dX9_sight_48 rfl ?_
        refine aw_if_eq 60 dX9_sight_50 (by decide) (fun c50 => absurd c50 (c32)) (fun c50 => ?_)
        refine aw_aload_n 1 dX9_sight_53 rfl rfl ?_
        refine aw_iload 0 dX9_sight_54 rfl ?_
        obtain ⟨q1717, bq1717, eq1717⟩ := Or.resolve_left (dyF_q d k) (by assumption)
        refine aw_eV [.int (dyF d k)] [] lX9_130 vX9_refuse mX9_refuse dX9_sight_56 (bX9_refuse (sp := sp) (fa := fa) (nb := nb) (ns := ns) (nm := nm) (nv := nv) (sh := sh) (ho := ho) (ow := ow) (sl := sl) (rg := rg) (x := (dyF d k)) (q := q1717) h88 h89 bq1717 eq1717) h88 rfl rfl rfl (Nat.le_of_ble_eq_true rfl) (by decide) (by decide) rfl (fun h1720 q1719 => ?_)
        obtain ⟨rg11718, f1721, k1722⟩ := q1719
        have f1723 := rng_at k1722 (by decide) h88
        have f1724 := rng_at k1722 (by decide) h103
        have f1725 := rng_at k1722 (by decide) h104
        have f1726 := rng_at k1722 (by decide) h105
        have f1727 := rng_at k1722 (by decide) h106
        have f1728 := rng_at k1722 (by decide) h107
        subst hQF
        have eS : (spSight ns t p d k) = (dyF d k) := by unfold spSight; rw [if_neg (by omega), if_pos (by assumption)]
        have ok9 : ¬ 0 ≤ (spSight ns t p d k).toInt := by rw [eS]; have q := dyF_neg (d := d) (k := k) (by assumption); omega
        exact aw_iret rfl dX9_sight_59 (by decide) (by decide) ⟨by rw [eS], _, by rw [spN_n ok9]; exact f1723, by rw [spUn_n ok9]; exact f1724, by rw [spUn_n ok9]; exact f1725, by rw [spUn_n ok9]; exact f1726, by rw [spUn_n ok9]; exact f1727, by rw [spUn_n ok9]; exact f1728, f1721, rg2_tr (rg2_rf 88 89 103 107 h) (rg2_w k1722 (by decide))⟩
      · have d32 := (j_eq (a := (dyF d k).toInt) (b := (0)) (rfl) (rfl)).mp c32
        refine aw_aload_n 1 dX9_sight_35 rfl rfl ?_
        refine aw_get fX9_198 dX9_sight_36 h88 rfl ?_
        refine aw_bipush (60) dX9_sight_39 (by decide) ?_
        refine aw_icmp_ne 48 dX9_sight_41 (by decide) (fun c41 => ?_) (fun c41 => ?_)
        · have d41 := mt (nv_eq (a := ns) (b := 60) (rfl) (rfl) (by omega) (by omega)).mpr c41
          refine aw_iload 0 dX9_sight_48 rfl ?_
          refine aw_if_eq 60 dX9_sight_50 (by decide) (fun c50 => ?_) (fun c50 => absurd (c32) c50)
          have hdd := dyF_0 c32
          obtain ⟨t0, bb_t0, ee_t0⟩ := i_nat (x := t) (N := 12) (by omega) (by omega)
          subst ee_t0
          have tt_t0 : (nI t0).toInt = (t0 : Int) := nI_toInt (by omega)
          have nn_t0 : tn (nI t0) = t0 := tn_nI (by omega)
          obtain ⟨p0, bb_p0, ee_p0⟩ := i_nat (x := p) (N := 8) (by omega) (by omega)
          subst ee_p0
          have tt_p0 : (nI p0).toInt = (p0 : Int) := nI_toInt (by omega)
          have nn_p0 : tn (nI p0) = p0 := tn_nI (by omega)
          obtain ⟨d0, bb_d0, ee_d0⟩ := i_nat (x := d) (N := 80001) (by omega) (by omega)
          subst ee_d0
          have tt_d0 : (nI d0).toInt = (d0 : Int) := nI_toInt (by omega)
          have nn_d0 : tn (nI d0) = d0 := tn_nI (by omega)
          obtain ⟨k0, bb_k0, ee_k0⟩ := i_nat (x := k) (N := 80001) (by omega) (by omega)
          subst ee_k0
          have tt_k0 : (nI k0).toInt = (k0 : Int) := nI_toInt (by omega)
          have nn_k0 : tn (nI k0) = k0 := tn_nI (by omega)
          refine aw_aload_n 1 dX9_sight_60 rfl rfl ?_
          refine aw_get fX9_59 dX9_sight_61 h88 rfl ?_
          refine aw_aload_n 1 dX9_sight_64 rfl rfl ?_
          refine aw_get fX9_198 dX9_sight_65 h88 rfl ?_
          refine aw_iload_n 2 dX9_sight_68 rfl rfl ?_
          refine aw_iast ns (rfl) (by omega) (by decide) dX9_sight_69 h103 ?_
          rw [nA_u (f := th) (i := ns) (x := (nI t0)) (v := t0) (rfl)]
          refine aw_aload_n 1 dX9_sight_70 rfl rfl ?_
          refine aw_get fX9_62 dX9_sight_71 (gn (by decide) (h88)) rfl ?_
          refine aw_aload_n 1 dX9_sight_74 rfl rfl ?_
          refine aw_get fX9_198 dX9_sight_75 (gn (by decide) (h88)) rfl ?_
          refine aw_iload_n 3 dX9_sight_78 rfl rfl ?_
          refine aw_iast ns (rfl) (by omega) (by decide) dX9_sight_79 (gn (by decide) (h104)) ?_
          rw [nA_u (f := ot) (i := ns) (x := (nI p0)) (v := p0) (rfl)]
          refine aw_aload_n 1 dX9_sight_80 rfl rfl ?_
          refine aw_get fX9_65 dX9_sight_81 (gn (by decide) (gn (by decide) (h88))) rfl ?_
          refine aw_aload_n 1 dX9_sight_84 rfl rfl ?_
          refine aw_get fX9_198 dX9_sight_85 (gn (by decide) (gn (by decide) (h88))) rfl ?_
          refine aw_iload_n 4 dX9_sight_88 rfl rfl ?_
          refine aw_iast ns (rfl) (by omega) (by decide) dX9_sight_89 (gn (by decide) (gn (by decide) (h105))) ?_
          rw [nA_u (f := dy) (i := ns) (x := (nI d0)) (v := d0) (rfl)]
          refine aw_aload_n 1 dX9_sight_90 rfl rfl ?_
          refine aw_get fX9_68 dX9_sight_91 (gn (by decide) (gn (by decide) (gn (by decide) (h88)))) rfl ?_
          refine aw_aload_n 1 dX9_sight_94 rfl rfl ?_
          refine aw_get fX9_198 dX9_sight_95 (gn (by decide) (gn (by decide) (gn (by decide) (h88)))) rfl ?_
          refine aw_iload 5 dX9_sight_98 rfl ?_
          refine aw_iast ns (rfl) (by omega) (by decide) dX9_sight_100 (gn (by decide) (gn (by decide) (gn (by decide) (h106)))) ?_
          rw [nA_u (f := kn) (i := ns) (x := (nI k0)) (v := k0) (rfl)]
          refine aw_aload_n 1 dX9_sight_101 rfl rfl ?_
          refine aw_get fX9_71 dX9_sight_102 (gn (by decide) (gn (by decide) (gn (by decide) (gn (by decide) (h88))))) rfl ?_
          refine aw_aload_n 1 dX9_sight_105 rfl rfl ?_
          refine aw_get fX9_198 dX9_sight_106 (gn (by decide) (gn (by decide) (gn (by decide) (gn (by decide) (h88))))) rfl ?_
          refine aw_ldc (1000000000) kX9_201 dX9_sight_109 ?_
          refine aw_iast ns (rfl) (by omega) (by decide) dX9_sight_111 (gn (by decide) (gn (by decide) (gn (by decide) (gn (by decide) (h107))))) ?_
          rw [nA_u (f := (gM go)) (i := ns) (x := 1000000000) (v := 1000000000) (rfl)]
          refine aw_aload_n 1 dX9_sight_112 rfl rfl ?_
          refine aw_dup dX9_sight_113 rfl ?_
          refine aw_get fX9_198 dX9_sight_114 (gn (by decide) (gn (by decide) (gn (by decide) (gn (by decide) (gn (by decide) (h88)))))) rfl ?_
          refine aw_iconst (1) dX9_sight_117 (by decide) ?_
          refine aw_iadd dX9_sight_118 ?_
          refine aw_toe (nI (ns + 1)) (nv_add (rfl) (rfl)) ?_
          refine aw_putQ fX9_198 dX9_sight_119 (lM G (nI sp) (nI fa) (nI nb) (nI (ns + 1)) (nI nm) ho ow sl (nI nv) (nI sh)) (gn (by decide) (gn (by decide) (gn (by decide) (gn (by decide) (gn (by decide) (h88)))))) rfl rfl rfl (Nat.le_of_ble_eq_true rfl) rfl ?_
          refine aw_aload_n 1 dX9_sight_122 rfl rfl ?_
          refine aw_get fX9_198 dX9_sight_123 (gs (gn (by decide) (gn (by decide) (gn (by decide) (gn (by decide) (gn (by decide) (h88))))))) rfl ?_
          refine aw_iconst (1) dX9_sight_126 (by decide) ?_
          refine aw_isub dX9_sight_127 ?_
          refine aw_toe (nI ns) (nv_p1 (rfl)) ?_
          subst hQF
          have eS : (spSight ns (nI t0) (nI p0) (nI d0) (nI k0)) = (nI ns) := by unfold spSight; (repeat' split) <;> first | (exfalso; omega) | rfl | contradiction
          have ok9 : 0 ≤ (spSight ns (nI t0) (nI p0) (nI d0) (nI k0)).toInt := by rw [eS, nI_toInt (by omega)]; omega
          exact aw_iret rfl dX9_sight_128 (by decide) (by decide) ⟨by rw [eS], _, by rw [spN_y ok9]; exact (gs (gn (by decide) (gn (by decide) (gn (by decide) (gn (by decide) (gn (by decide) (h88))))))), by rw [spUn_y ok9, nn_t0]; exact (gn (by decide) (gn (by decide) (gn (by decide) (gn (by decide) (gn (by decide) (gs h103)))))), by rw [spUn_y ok9, nn_p0]; exact (gn (by decide) (gn (by decide) (gn (by decide) (gn (by decide) (gs (gn (by decide) (h104))))))), by rw [spUn_y ok9, nn_d0]; exact (gn (by decide) (gn (by decide) (gn (by decide) (gs (gn (by decide) (gn (by decide) (h105))))))), by rw [spUn_y ok9, nn_k0]; exact (gn (by decide) (gn (by decide) (gs (gn (by decide) (gn (by decide) (gn (by decide) (h106))))))), by rw [spUn_y ok9, ← gM_n]; exact (gn (by decide) (gs (gn (by decide) (gn (by decide) (gn (by decide) (gn (by decide) (h107))))))), (gn (by decide) (gn (by decide) (gn (by decide) (gn (by decide) (gn (by decide) (gn (by decide) (h89))))))), rg2_set (rg2_set (rg2_set (rg2_set (rg2_set (rg2_set (rg2_rf 88 89 103 107 h) (by decide)) (by decide)) (by decide)) (by decide)) (by decide)) (by decide)⟩
        · have d41 := (nv_eq (a := ns) (b := 60) (rfl) (rfl) (by omega) (by omega)).mp c41
          refine aw_bipush (-6) dX9_sight_44 (by decide) ?_
          refine aw_istore [(5, .int (-6)), (0, .ref (G.1 + 88)), (1, .int t), (2, .int p), (3, .int d), (4, .int k)] dX9_sight_46 (by decide) rfl ?_
          refine aw_iload 0 dX9_sight_48 rfl ?_
          refine aw_if_eq 60 dX9_sight_50 (by decide) (fun c50 => absurd c50 (by decide)) (fun c50 => ?_)
          refine aw_aload_n 1 dX9_sight_53 rfl rfl ?_
          refine aw_iload 0 dX9_sight_54 rfl ?_
          refine aw_eV [.int (-6)] [] lX9_130 vX9_refuse mX9_refuse dX9_sight_56 (bX9_refuse (sp := sp) (fa := fa) (nb := nb) (ns := ns) (nm := nm) (nv := nv) (sh := sh) (ho := ho) (ow := ow) (sl := sl) (rg := rg) (x := (-6)) (q := 6) h88 h89 (by decide) (by decide)) h88 rfl rfl rfl (Nat.le_of_ble_eq_true rfl) (by decide) (by decide) rfl (fun h1731 q1730 => ?_)
          obtain ⟨rg11729, f1732, k1733⟩ := q1730
          have f1734 := rng_at k1733 (by decide) h88
          have f1735 := rng_at k1733 (by decide) h103
          have f1736 := rng_at k1733 (by decide) h104
          have f1737 := rng_at k1733 (by decide) h105
          have f1738 := rng_at k1733 (by decide) h106
          have f1739 := rng_at k1733 (by decide) h107
          subst hQF
          have eS : (spSight ns t p d k) = (-6) := by unfold spSight; (repeat' split) <;> first | (exfalso; omega) | rfl | contradiction
          have ok9 : ¬ 0 ≤ (spSight ns t p d k).toInt := by rw [eS]; decide
          exact aw_iret rfl dX9_sight_59 (by decide) (by decide) ⟨by rw [eS], _, by rw [spN_n ok9]; exact f1734, by rw [spUn_n ok9]; exact f1735, by rw [spUn_n ok9]; exact f1736, by rw [spUn_n ok9]; exact f1737, by rw [spUn_n ok9]; exact f1738, by rw [spUn_n ok9]; exact f1739, f1732, rg2_tr (rg2_rf 88 89 103 107 h) (rg2_w k1733 (by decide))⟩
