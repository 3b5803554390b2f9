set_option maxHeartbeats 4000000 in
theorem oX9_shelf {l : Launch} {G : xG} {h : List va_E} {sp fa nb ns nm nv sh : Nat} {ho ow sl : Int32} {rg : Nat → Int32} {so xx yy tr tg : Nat → Nat} {yM rs rw : Nat → Int32} {w : Int32} (h88 : h[88]? = some (oB 9 (lM G (nI sp) (nI fa) (nI nb) (nI ns) (nI nm) ho ow sl (nI nv) (nI sh)))) (h89 : h[89]? = some (aI 7 rg)) (h116 : h[116]? = some (aI 40 (nA so))) (h117 : h[117]? = some (aI 40 (nA xx))) (h118 : h[118]? = some (aI 40 yM)) (h119 : h[119]? = some (aI 40 (nA tr))) (h120 : h[120]? = some (aI 8 (nA tg))) (h121 : h[121]? = some (aI 2304 rs)) (h122 : h[122]? = some (aI 8 rw)) (htg : ∀ j, j < 8 → tg j < 12) (hsh : sh ≤ 8) (hnv : nv ≤ 40) (bso : ∀ j, j < 40 → so j < 4) (bxx : ∀ j, j < 40 → xx j < 12) (byy : ∀ j, j < 40 → yy j < 12) (btr : ∀ j, j < 40 → tr j ≤ 9) (hyM : ∀ j, j < nv → so j < 2 → yM j = nI (yy j)) : CE l G yX9_shelf cX9_shelf 3 (some .int) 3 0 0 [.ref (G.1 + 88), .int w] h (some (.int (if shR w = 0 then (nI (RS (tn w) so xx yy tr (rdF (tn w) tg 12).2 (rdF (tn w) tg 12).1 nv 0 0)) else shR w))) (fun h1 => ∃ sh1 : Nat, ∃ tg1 : Nat → Nat, ∃ rs1 : Nat → Int32, ∃ rw1 : Nat → Int32, ∃ rg1 : Nat → Int32, h1[88]? = some (oB 9 (lM G (nI sp) (nI fa) (nI nb) (nI ns) (nI nm) ho ow sl (nI nv) (nI sh1))) ∧ h1[120]? = some (aI 8 (nA tg1)) ∧ h1[121]? = some (aI 2304 rs1) ∧ h1[122]? = some (aI 8 rw1) ∧ h1[89]? = some (aI 7 rg1) ∧ rg2 88 89 120 122 h h1 ∧ (∀ j, j < 8 → tg1 j < 12) ∧ sh1 ≤ 8) := by
  refine cm_ofQ rfl (Nat.le_of_ble_eq_true rfl) [(0, .ref (G.1 + 88)), (1, .int w)] rfl (fun QF hQF => ?_)
  refine aw_aload_n 0 dX9_shelf_0 rfl rfl ?_
  refine aw_iload_n 1 dX9_shelf_1 rfl rfl ?_
  refine aw_dV [.int w] [] lX9_239 vX9_wrongShelf mX9_wrongShelf dX9_shelf_2 (bX9_wrongShelf (x := w) ) h88 rfl rfl rfl (Nat.le_of_ble_eq_true rfl) (by decide) (by decide) rfl ?_
  refine aw_istore_n [(2, .int (shR w)), (0, .ref (G.1 + 88)), (1, .int w)] dX9_shelf_5 rfl (by decide) rfl ?_
  refine aw_iload_n 0 dX9_shelf_6 rfl rfl ?_
  refine aw_if_eq 18 dX9_shelf_7 (by decide) (fun c7 => ?_) (fun c7 => ?_)
  · have d7 := (j_eq (a := (shR w).toInt) (b := (0)) (rfl) (rfl)).mp c7
    have hdd := shR_0 c7
    obtain ⟨w0, bb_w0, ee_w0⟩ := i_nat (x := w) (N := 4096) (by omega) (by omega)
    subst ee_w0
    have tt_w0 : (nI w0).toInt = (w0 : Int) := nI_toInt (by omega)
    have nn_w0 : tn (nI w0) = w0 := tn_nI (by omega)
    rw [nn_w0] at hdd
    refine aw_aload_n 1 dX9_shelf_18 rfl rfl ?_
    refine aw_iload_n 2 dX9_shelf_19 rfl rfl ?_
    refine aw_eV [.int (nI w0)] [] lX9_242 vX9_shelves mX9_shelves dX9_shelf_20 (bX9_shelves (sp := sp) (fa := fa) (nb := nb) (ns := ns) (nm := nm) (nv := nv) (sh := sh) (ho := ho) (ow := ow) (sl := sl) (so := so) (xx := xx) (tr := tr) (tg := tg) (yM := yM) (rs := rs) (rw := rw) (st := w0) h88 h116 h117 h118 h119 h120 h121 h122 htg (by omega) (by omega) bso bxx byy btr hyM (by omega) (by omega)) h88 rfl rfl rfl (Nat.le_of_ble_eq_true rfl) (by decide) (by decide) rfl (fun h3414 q3413 => ?_)
    obtain ⟨sh13409, tg13410, rs13411, rw13412, f3415, f3416, f3417, f3418, k3419, p3420, p3421⟩ := q3413
    have f3422 := rg2_at k3419 (by decide) h89
    have f3423 := rg2_at k3419 (by decide) h116
    have f3424 := rg2_at k3419 (by decide) h117
    have f3425 := rg2_at k3419 (by decide) h118
    have f3426 := rg2_at k3419 (by decide) h119
    have hb1 := rdF_b (st := w0) htg 12 (Nat.le_refl _)
    rw [← p3420] at hb1
    dsimp only at hb1
    have hs1 := rdF_len (st := w0) (tg := tg) 12
    rw [← p3420] at hs1
    dsimp only at hs1
    rw [← popL] at hs1
    replace hs1 : sh13409 ≤ 8 := by omega
    subst hQF
    exact aw_iret rfl dX9_shelf_23 (by decide) (by decide) ⟨by rw [if_pos c7, nn_w0], _, _, _, _, _, f3415, f3416, f3417, f3418, f3422, rg2_tr (rg2_rf 88 89 120 122 h) (rg2_w2 k3419 (by decide) (by decide)), hb1, hs1⟩
  · have d7 := mt (j_eq (a := (shR w).toInt) (b := (0)) (rfl) (rfl)).mpr c7
    refine aw_aload_n 1 dX9_shelf_10 rfl rfl ?_
    refine aw_iload_n 0 dX9_shelf_11 rfl rfl ?_
    obtain ⟨q3427, bq3427, eq3427⟩ := Or.resolve_left (shR_q w) (by assumption)
    refine aw_eV [.int (shR w)] [] lX9_130 vX9_refuse mX9_refuse dX9_shelf_12 (bX9_refuse (sp := sp) (fa := fa) (nb := nb) (ns := ns) (nm := nm) (nv := nv) (sh := sh) (ho := ho) (ow := ow) (sl := sl) (rg := rg) (x := (shR w)) (q := q3427) h88 h89 bq3427 eq3427) h88 rfl rfl rfl (Nat.le_of_ble_eq_true rfl) (by decide) (by decide) rfl (fun h3430 q3429 => ?_)
    obtain ⟨rg13428, f3431, k3432⟩ := q3429
    have f3433 := rng_at k3432 (by decide) h88
    have f3434 := rng_at k3432 (by decide) h116
    have f3435 := rng_at k3432 (by decide) h117
    have f3436 := rng_at k3432 (by decide) h118
    have f3437 := rng_at k3432 (by decide) h119
    have f3438 := rng_at k3432 (by decide) h120
    have f3439 := rng_at k3432 (by decide) h121
    have f3440 := rng_at k3432 (by decide) h122
    refine aw_goto 23 dX9_shelf_15 (by decide) ?_
    subst hQF
    exact aw_iret rfl dX9_shelf_23 (by decide) (by decide) ⟨by rw [if_neg c7], _, _, _, _, _, f3433, f3438, f3439, f3440, f3431, rg2_tr (rg2_rf 88 89 120 122 h) (rg2_w k3432 (by decide)), htg, hsh⟩
