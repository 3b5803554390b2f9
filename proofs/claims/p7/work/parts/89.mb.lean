set_option maxHeartbeats 4000000 in
theorem oX9_row {l : Launch} {G : xG} {h : List va_E} {sp fa nb ns nm nv sh : Nat} {ho ow sl : Int32} {rg : Nat → Int32} {so xx yy tr tg : Nat → Nat} {yM rs rw : Nat → Int32} {w k : Int32} (h88 : h[88]? = some (oB 9 (lM G (nI sp) (nI fa) (nI nb) (nI ns) (nI nm) ho ow sl (nI nv) (nI sh)))) (h89 : h[89]? = some (aI 7 rg)) (h116 : h[116]? = some (aI 40 (nA so))) (h117 : h[117]? = some (aI 40 (nA xx))) (h118 : h[118]? = some (aI 40 yM)) (h119 : h[119]? = some (aI 40 (nA tr))) (h120 : h[120]? = some (aI 8 (nA tg))) (h121 : h[121]? = some (aI 2304 rs)) (h122 : h[122]? = some (aI 8 rw)) (htg : ∀ j, j < 8 → tg j < 12) (hsh : sh ≤ 8) (hnv : nv ≤ 40) (bso : ∀ j, j < 40 → so j < 4) (bxx : ∀ j, j < 40 → xx j < 12) (byy : ∀ j, j < 40 → yy j < 12) (btr : ∀ j, j < 40 → tr j ≤ 9) (hyM : ∀ j, j < nv → so j < 2 → yM j = nI (yy j)) : CE l G yX9_row cX9_row 5 (some .int) 3 0 0 [.ref (G.1 + 88), .int w, .int k] h (some (.int (if shR w = 0 then (if (0 ≤ k.toInt ∧ k.toInt < ((rdF (tn w) tg 12).1 : Int)) then ((rwF (tn w) so xx yy tr (rdF (tn w) tg 12).2 (rdF (tn w) tg 12).1 nv rw (rdF (tn w) tg 12).1).2.2 (tn k)) else -9) else shR w))) (fun h1 => ∃ sh1 : Nat, ∃ tg1 : Nat → Nat, ∃ rs1 : Nat → Int32, ∃ rw1 : Nat → Int32, ∃ rg1 : Nat → Int32, h1[88]? = some (oB 9 (lM G (nI sp) (nI fa) (nI nb) (nI ns) (nI nm) ho ow sl (nI nv) (nI sh1))) ∧ h1[120]? = some (aI 8 (nA tg1)) ∧ h1[121]? = some (aI 2304 rs1) ∧ h1[122]? = some (aI 8 rw1) ∧ h1[89]? = some (aI 7 rg1) ∧ rg2 88 89 120 122 h h1 ∧ (∀ j, j < 8 → tg1 j < 12) ∧ sh1 ≤ 8) := by
  refine cm_ofQ rfl (Nat.le_of_ble_eq_true rfl) [(0, .ref (G.1 + 88)), (1, .int w), (2, .int k)] rfl (fun QF hQF => ?_)
  refine aw_aload_n 0 dX9_row_0 rfl rfl ?_
  refine aw_iload_n 1 dX9_row_1 rfl rfl ?_
  refine aw_dV [.int w] [] lX9_239 vX9_wrongShelf mX9_wrongShelf dX9_row_2 (bX9_wrongShelf (x := w) ) h88 rfl rfl rfl (Nat.le_of_ble_eq_true rfl) (by decide) (by decide) rfl ?_
  refine aw_istore_n [(3, .int (shR w)), (0, .ref (G.1 + 88)), (1, .int w), (2, .int k)] dX9_row_5 rfl (by decide) rfl ?_
  refine aw_iload_n 0 dX9_row_6 rfl rfl ?_
  refine aw_if_eq 16 dX9_row_7 (by decide) (fun c7 => ?_) (fun c7 => ?_)
  · have d7 := (j_eq (a := (shR w).toInt) (b := (0)) (rfl) (rfl)).mp c7
    have hdd := shR_0 c7
    obtain ⟨w0, bb_w0, ee_w0⟩ := i_nat (x := w) (N := 4096) (by omega) (by omega)
    subst ee_w0
    have tt_w0 : (nI w0).toInt = (w0 : Int) := nI_toInt (by omega)
    have nn_w0 : tn (nI w0) = w0 := tn_nI (by omega)
    rw [nn_w0] at hdd
    refine aw_aload_n 1 dX9_row_16 rfl rfl ?_
    refine aw_iload_n 2 dX9_row_17 rfl rfl ?_
    refine aw_eV [.int (nI w0)] [] lX9_242 vX9_shelves mX9_shelves dX9_row_18 (bX9_shelves (sp := sp) (fa := fa) (nb := nb) (ns := ns) (nm := nm) (nv := nv) (sh := sh) (ho := ho) (ow := ow) (sl := sl) (so := so) (xx := xx) (tr := tr) (tg := tg) (yM := yM) (rs := rs) (rw := rw) (st := w0) h88 h116 h117 h118 h119 h120 h121 h122 htg (by omega) (by omega) bso bxx byy btr hyM (by omega) (by omega)) h88 rfl rfl rfl (Nat.le_of_ble_eq_true rfl) (by decide) (by decide) rfl (fun h3446 q3445 => ?_)
    obtain ⟨sh13441, tg13442, rs13443, rw13444, f3447, f3448, f3449, f3450, k3451, p3452, p3453⟩ := q3445
    have f3454 := rg2_at k3451 (by decide) h89
    have f3455 := rg2_at k3451 (by decide) h116
    have f3456 := rg2_at k3451 (by decide) h117
    have f3457 := rg2_at k3451 (by decide) h118
    have f3458 := rg2_at k3451 (by decide) h119
    have hb1 := rdF_b (st := w0) htg 12 (Nat.le_refl _)
    rw [← p3452] at hb1
    dsimp only at hb1
    have hs1 := rdF_len (st := w0) (tg := tg) 12
    rw [← p3452] at hs1
    dsimp only at hs1
    rw [← popL] at hs1
    replace hs1 : sh13441 ≤ 8 := by omega
    refine aw_istore [(4, .int (nI (RS w0 so xx yy tr (rdF w0 tg 12).2 (rdF w0 tg 12).1 nv 0 0))), (3, .int (shR (nI w0))), (0, .ref (G.1 + 88)), (1, .int (nI w0)), (2, .int k)] dX9_row_21 (by decide) rfl ?_
    refine aw_iload_n 4 dX9_row_23 rfl rfl ?_
    refine aw_aload_n 2 dX9_row_24 rfl rfl ?_
    refine aw_get fX9_233 dX9_row_25 f3447 rfl ?_
    refine aw_dS [.int k, .int (nI sh13441)] [] lX9_126 sX9_isIn mX9_isIn dX9_row_28 (bX9_isIn (x := k) (n := sh13441) (by omega)) rfl (Nat.le_of_ble_eq_true rfl) (by decide) (by decide) rfl ?_
    refine aw_if_eq 43 dX9_row_31 (by decide) (fun c31 => ?_) (fun c31 => ?_)
    · have t31 := ite_0 c31
      refine aw_bipush (-9) dX9_row_43 (by decide) ?_
      subst hQF
      exact aw_iret rfl dX9_row_45 (by decide) (by decide) ⟨by rw [if_pos c7, nn_w0, ← p3452]; dsimp only; rw [if_neg (by omega)], _, _, _, _, _, f3447, f3448, f3449, f3450, f3454, rg2_tr (rg2_rf 88 89 120 122 h) (rg2_w2 k3451 (by decide) (by decide)), hb1, hs1⟩
    · have t31 := ite_1 c31
      obtain ⟨k0, bb_k0, ee_k0⟩ := i_nat (x := k) (N := 8) (by omega) (by omega)
      subst ee_k0
      have tt_k0 : (nI k0).toInt = (k0 : Int) := nI_toInt (by omega)
      have nn_k0 : tn (nI k0) = k0 := tn_nI (by omega)
      refine aw_aload_n 2 dX9_row_34 rfl rfl ?_
      refine aw_get fX9_116 dX9_row_35 f3447 rfl ?_
      refine aw_iload_n 4 dX9_row_38 rfl rfl ?_
      refine aw_iald k0 (rfl) (by omega) (by decide) dX9_row_39 f3450 ?_
      refine aw_goto 45 dX9_row_40 (by decide) ?_
      subst hQF
      exact aw_iret rfl dX9_row_45 (by decide) (by decide) ⟨by rw [if_pos c7, nn_w0, ← p3452]; dsimp only; rw [if_pos (by omega), nn_k0, ← p3453], _, _, _, _, _, f3447, f3448, f3449, f3450, f3454, rg2_tr (rg2_rf 88 89 120 122 h) (rg2_w2 k3451 (by decide) (by decide)), hb1, hs1⟩
  · have d7 := mt (j_eq (a := (shR w).toInt) (b := (0)) (rfl) (rfl)).mpr c7
    refine aw_aload_n 1 dX9_row_10 rfl rfl ?_
    refine aw_iload_n 0 dX9_row_11 rfl rfl ?_
    obtain ⟨q3459, bq3459, eq3459⟩ := Or.resolve_left (shR_q w) (by assumption)
    refine aw_eV [.int (shR w)] [] lX9_130 vX9_refuse mX9_refuse dX9_row_12 (bX9_refuse (sp := sp) (fa := fa) (nb := nb) (ns := ns) (nm := nm) (nv := nv) (sh := sh) (ho := ho) (ow := ow) (sl := sl) (rg := rg) (x := (shR w)) (q := q3459) h88 h89 bq3459 eq3459) h88 rfl rfl rfl (Nat.le_of_ble_eq_true rfl) (by decide) (by decide) rfl (fun h3462 q3461 => ?_)
    obtain ⟨rg13460, f3463, k3464⟩ := q3461
    have f3465 := rng_at k3464 (by decide) h88
    have f3466 := rng_at k3464 (by decide) h116
    have f3467 := rng_at k3464 (by decide) h117
    have f3468 := rng_at k3464 (by decide) h118
    have f3469 := rng_at k3464 (by decide) h119
    have f3470 := rng_at k3464 (by decide) h120
    have f3471 := rng_at k3464 (by decide) h121
    have f3472 := rng_at k3464 (by decide) h122
    subst hQF
    exact aw_iret rfl dX9_row_15 (by decide) (by decide) ⟨by rw [if_neg c7], _, _, _, _, _, f3465, f3470, f3471, f3472, f3463, rg2_tr (rg2_rf 88 89 120 122 h) (rg2_w k3464 (by decide)), htg, hsh⟩
