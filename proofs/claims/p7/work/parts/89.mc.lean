set_option maxHeartbeats 4000000 in
theorem oX9_quarrel {l : Launch} {G : xG} {h : List va_E} {sp fa nb ns nm nv sh : Nat} {ho ow sl : Int32} {rg : Nat → Int32} {so xx yy tr tg : Nat → Nat} {yM rs rw : Nat → Int32} {w : Int32} (h88 : h[88]? = some (oB 9 (lM G (nI sp) (nI fa) (nI nb) (nI ns) (nI nm) ho ow sl (nI nv) (nI sh)))) (h89 : h[89]? = some (aI 7 rg)) (h116 : h[116]? = some (aI 40 (nA so))) (h117 : h[117]? = some (aI 40 (nA xx))) (h118 : h[118]? = some (aI 40 yM)) (h119 : h[119]? = some (aI 40 (nA tr))) (h120 : h[120]? = some (aI 8 (nA tg))) (h121 : h[121]? = some (aI 2304 rs)) (h122 : h[122]? = some (aI 8 rw)) (htg : ∀ j, j < 8 → tg j < 12) (hsh : sh ≤ 8) (hnv : nv ≤ 40) (bso : ∀ j, j < 40 → so j < 4) (bxx : ∀ j, j < 40 → xx j < 12) (byy : ∀ j, j < 40 → yy j < 12) (btr : ∀ j, j < 40 → tr j ≤ 9) (hyM : ∀ j, j < nv → so j < 2 → yM j = nI (yy j)) : CE l G yX9_quarrel cX9_quarrel 5 (some .int) 3 0 0 [.ref (G.1 + 88), .int w] h (some (.int (if shR w = 0 then nI (toF (tn w) so xx yy tr nv) - (nI (RS (tn w) so xx yy tr (rdF (tn w) tg 12).2 (rdF (tn w) tg 12).1 nv 0 0)) else shR w))) (fun h1 => ∃ sh1 : Nat, ∃ tg1 : Nat → Nat, ∃ rs1 : Nat → Int32, ∃ rw1 : Nat → Int32, ∃ rg1 : Nat → Int32, h1[88]? = some (oB 9 (lM G (nI sp) (nI fa) (nI nb) (nI ns) (nI nm) ho ow sl (nI nv) (nI sh1))) ∧ h1[120]? = some (aI 8 (nA tg1)) ∧ h1[121]? = some (aI 2304 rs1) ∧ h1[122]? = some (aI 8 rw1) ∧ h1[89]? = some (aI 7 rg1) ∧ rg2 88 89 120 122 h h1 ∧ (∀ j, j < 8 → tg1 j < 12) ∧ sh1 ≤ 8) := by
  refine cm_ofQ rfl (Nat.le_of_ble_eq_true rfl) [(0, .ref (G.1 + 88)), (1, .int w)] rfl (fun QF hQF => ?_)
  refine aw_aload_n 0 dX9_quarrel_0 rfl rfl ?_
  refine aw_iload_n 1 dX9_quarrel_1 rfl rfl ?_
  refine aw_dV [.int w] [] lX9_239 vX9_wrongShelf mX9_wrongShelf dX9_quarrel_2 (bX9_wrongShelf (x := w) ) h88 rfl rfl rfl (Nat.le_of_ble_eq_true rfl) (by decide) (by decide) rfl ?_
  refine aw_istore_n [(2, .int (shR w)), (0, .ref (G.1 + 88)), (1, .int w)] dX9_quarrel_5 rfl (by decide) rfl ?_
  refine aw_iload_n 0 dX9_quarrel_6 rfl rfl ?_
  refine aw_if_eq 16 dX9_quarrel_7 (by decide) (fun c7 => ?_) (fun c7 => ?_)
  · have d7 := (j_eq (a := (shR w).toInt) (b := (0)) (rfl) (rfl)).mp c7
    have hdd := shR_0 c7
    obtain ⟨w0, bb_w0, ee_w0⟩ := i_nat (x := w) (N := 4096) (by omega) (by omega)
    subst ee_w0
    have tt_w0 : (nI w0).toInt = (w0 : Int) := nI_toInt (by omega)
    have nn_w0 : tn (nI w0) = w0 := tn_nI (by omega)
    rw [nn_w0] at hdd
    refine aw_iconst (0) dX9_quarrel_16 (by decide) ?_
    refine aw_istore_n [(3, .int 0), (2, .int (shR (nI w0))), (0, .ref (G.1 + 88)), (1, .int (nI w0))] dX9_quarrel_17 rfl (by decide) rfl ?_
    refine aw_iconst (0) dX9_quarrel_18 (by decide) ?_
    refine aw_istore [(4, .int 0), (3, .int 0), (2, .int (shR (nI w0))), (0, .ref (G.1 + 88)), (1, .int (nI w0))] dX9_quarrel_19 (by decide) rfl ?_
    refine aw_lv [(4, .int 0), (3, .int 0), (1, .int (nI w0)), (0, .ref (G.1 + 88))] [0, 1, 4, 3] rfl ?_
    suffices L3473 : ∀ (mm : Nat) (k : Nat) (wv : Nat), nv - k < mm → (k ≤ nv) → (wv = toF w0 so xx yy tr k) → AW l G yX9_quarrel cX9_quarrel 5 (some .int) (xR 3 0 0) (fun _ _ => True) QF 0 0 21 [(4, .int (nI k)), (3, .int (nI wv)), (1, .int (nI w0)), (0, .ref (G.1 + 88))] [] h from L3473 (nv - 0 + 1) 0 0 (Nat.lt_succ_self _) (Nat.zero_le _) (rfl)
    intro mm
    induction mm with
    | zero =>
      intro k wv hmm hk hw
      exact absurd hmm (Nat.not_lt_zero _)
    | succ mm ih3473 =>
      intro k wv hmm hk hw
      have b9 := toF_le (st := w0) (so := so) (xx := xx) (yy := yy) btr k (by omega)
      refine aw_iload 0 dX9_quarrel_21 rfl ?_
      refine aw_aload_n 3 dX9_quarrel_23 rfl rfl ?_
      refine aw_get fX9_227 dX9_quarrel_24 h88 rfl ?_
      refine aw_icmp_ge 87 dX9_quarrel_27 (by decide) (fun c27 => ?_) (fun c27 => ?_)
      · have d27 := (nv_le (a := nv) (b := k) (rfl) (rfl) (by omega) (by omega)).mp c27
        refine aw_iload_n 1 dX9_quarrel_87 rfl rfl ?_
        refine aw_aload_n 3 dX9_quarrel_88 rfl rfl ?_
        refine aw_iload_n 2 dX9_quarrel_89 rfl rfl ?_
        refine aw_eV [.int (nI w0)] [.int (nI wv)] lX9_242 vX9_shelves mX9_shelves dX9_quarrel_90 (bX9_shelves (sp := sp) (fa := fa) (nb := nb) (ns := ns) (nm := nm) (nv := nv) (sh := sh) (ho := ho) (ow := ow) (sl := sl) (so := so) (xx := xx) (tr := tr) (tg := tg) (yM := yM) (rs := rs) (rw := rw) (st := w0) h88 h116 h117 h118 h119 h120 h121 h122 htg (by omega) (by omega) bso bxx byy btr hyM (by omega) (by omega)) h88 rfl rfl rfl (Nat.le_of_ble_eq_true rfl) (by decide) (by decide) rfl (fun h3479 q3478 => ?_)
        obtain ⟨sh13474, tg13475, rs13476, rw13477, f3480, f3481, f3482, f3483, k3484, p3485, p3486⟩ := q3478
        have f3487 := rg2_at k3484 (by decide) h89
        have f3488 := rg2_at k3484 (by decide) h116
        have f3489 := rg2_at k3484 (by decide) h117
        have f3490 := rg2_at k3484 (by decide) h118
        have f3491 := rg2_at k3484 (by decide) h119
        have hb1 := rdF_b (st := w0) htg 12 (Nat.le_refl _)
        rw [← p3485] at hb1
        dsimp only at hb1
        have hs1 := rdF_len (st := w0) (tg := tg) 12
        rw [← p3485] at hs1
        dsimp only at hs1
        rw [← popL] at hs1
        replace hs1 : sh13474 ≤ 8 := by omega
        refine aw_isub dX9_quarrel_93 ?_
        subst hQF
        exact aw_iret rfl dX9_quarrel_94 (by decide) (by decide) ⟨by rw [if_pos c7, nn_w0, show nv = k by omega, ← hw], _, _, _, _, _, f3480, f3481, f3482, f3483, f3487, rg2_tr (rg2_rf 88 89 120 122 h) (rg2_w2 k3484 (by decide) (by decide)), hb1, hs1⟩
      · have d27 := mt (nv_le (a := nv) (b := k) (rfl) (rfl) (by omega) (by omega)).mpr c27
        refine aw_iload_n 2 dX9_quarrel_30 rfl rfl ?_
        refine aw_aload_n 3 dX9_quarrel_31 rfl rfl ?_
        refine aw_get fX9_101 dX9_quarrel_32 h88 rfl ?_
        refine aw_iload 0 dX9_quarrel_35 rfl ?_
        refine aw_iald k (rfl) (by omega) (by decide) dX9_quarrel_37 h117 ?_
        refine aw_toe (nI (xx k)) (rfl) ?_
        have b3492 := bxx k (by omega)
        refine aw_ishr dX9_quarrel_38 ?_
        refine aw_iconst (1) dX9_quarrel_39 (by decide) ?_
        refine aw_iand dX9_quarrel_40 ?_
        refine aw_toe (if w0.testBit (xx k) = true then 1 else 0) (nv_bit (rfl) (rfl) (by omega) (by omega)) ?_
        refine aw_iconst (1) dX9_quarrel_41 (by decide) ?_
        refine aw_icmp_ne 81 dX9_quarrel_42 (by decide) (fun c42 => ?_) (fun c42 => ?_)
        · have t42 := ite_0e c42
          refine aw_iinc (j := 0) (nI (k + 1)) [(4, .int (nI (k + 1))), (3, .int (nI wv)), (1, .int (nI w0)), (0, .ref (G.1 + 88))] dX9_quarrel_81 rfl (nv_inc (rfl)) (by decide) rfl ?_
          refine aw_goto 21 dX9_quarrel_84 (by decide) ?_
          refine aw_lv [(4, .int (nI (k + 1))), (3, .int (nI wv)), (1, .int (nI w0)), (0, .ref (G.1 + 88))] [0, 1, 2, 3] rfl ?_
          exact ih3473 (k + 1) wv (by omega) (by omega) (toF_n hw (fun q => t42 q.1))
        · have t42 := ite_1e c42
          refine aw_aload_n 3 dX9_quarrel_45 rfl rfl ?_
          refine aw_get fX9_98 dX9_quarrel_46 h88 rfl ?_
          refine aw_iload 0 dX9_quarrel_49 rfl ?_
          refine aw_iald k (rfl) (by omega) (by decide) dX9_quarrel_51 h116 ?_
          refine aw_toe (nI (so k)) (rfl) ?_
          have b3493 := bso k (by omega)
          refine aw_iconst (1) dX9_quarrel_52 (by decide) ?_
          refine aw_icmp_gt 71 dX9_quarrel_53 (by decide) (fun c53 => ?_) (fun c53 => ?_)
          · have d53 := (nv_lt (a := 1) (b := so k) (rfl) (rfl) (by omega) (by omega)).mp c53
            refine aw_iload_n 1 dX9_quarrel_71 rfl rfl ?_
            refine aw_aload_n 3 dX9_quarrel_72 rfl rfl ?_
            refine aw_get fX9_107 dX9_quarrel_73 h88 rfl ?_
            refine aw_iload 0 dX9_quarrel_76 rfl ?_
            refine aw_iald k (rfl) (by omega) (by decide) dX9_quarrel_78 h119 ?_
            refine aw_toe (nI (tr k)) (rfl) ?_
            have b3494 := btr k (by omega)
            refine aw_iadd dX9_quarrel_79 ?_
            refine aw_toe (nI (wv + (tr k))) (nv_add (rfl) (rfl)) ?_
            refine aw_istore_n [(3, .int (nI (wv + (tr k)))), (4, .int (nI k)), (1, .int (nI w0)), (0, .ref (G.1 + 88))] dX9_quarrel_80 rfl (by decide) rfl ?_
            refine aw_iinc (j := 1) (nI (k + 1)) [(4, .int (nI (k + 1))), (3, .int (nI (wv + (tr k)))), (1, .int (nI w0)), (0, .ref (G.1 + 88))] dX9_quarrel_81 rfl (nv_inc (rfl)) (by decide) rfl ?_
            refine aw_goto 21 dX9_quarrel_84 (by decide) ?_
            refine aw_lv [(4, .int (nI (k + 1))), (3, .int (nI (wv + (tr k)))), (1, .int (nI w0)), (0, .ref (G.1 + 88))] [0, 1, 2, 3] rfl ?_
            exact ih3473 (k + 1) (wv + (tr k)) (by omega) (by omega) (toF_y hw ⟨t42, Or.inl (by omega)⟩)
          · have d53 := mt (nv_lt (a := 1) (b := so k) (rfl) (rfl) (by omega) (by omega)).mpr c53
            refine aw_iload_n 2 dX9_quarrel_56 rfl rfl ?_
            refine aw_aload_n 3 dX9_quarrel_57 rfl rfl ?_
            refine aw_get fX9_104 dX9_quarrel_58 h88 rfl ?_
            refine aw_iload 0 dX9_quarrel_61 rfl ?_
            refine aw_iald k (rfl) (by omega) (by decide) dX9_quarrel_63 h118 ?_
            refine aw_toe (nI (yy k)) (hyM k (by omega) (by omega)) ?_
            have b3495 := byy k (by omega)
            refine aw_ishr dX9_quarrel_64 ?_
            refine aw_iconst (1) dX9_quarrel_65 (by decide) ?_
            refine aw_iand dX9_quarrel_66 ?_
            refine aw_toe (if w0.testBit (yy k) = true then 1 else 0) (nv_bit (rfl) (rfl) (by omega) (by omega)) ?_
            refine aw_iconst (1) dX9_quarrel_67 (by decide) ?_
            refine aw_icmp_ne 81 dX9_quarrel_68 (by decide) (fun c68 => ?_) (fun c68 => ?_)
            · have t68 := ite_0e c68
              refine aw_iinc (j := 0) (nI (k + 1)) [(4, .int (nI (k + 1))), (3, .int (nI wv)), (1, .int (nI w0)), (0, .ref (G.1 + 88))] dX9_quarrel_81 rfl (nv_inc (rfl)) (by decide) rfl ?_
              refine aw_goto 21 dX9_quarrel_84 (by decide) ?_
              refine aw_lv [(4, .int (nI (k + 1))), (3, .int (nI wv)), (1, .int (nI w0)), (0, .ref (G.1 + 88))] [0, 1, 2, 3] rfl ?_
              exact ih3473 (k + 1) wv (by omega) (by omega) (toF_n hw (fun q => q.2.elim (fun e => by omega) t68))
            · have t68 := ite_1e c68
              refine aw_iload_n 1 dX9_quarrel_71 rfl rfl ?_
              refine aw_aload_n 3 dX9_quarrel_72 rfl rfl ?_
              refine aw_get fX9_107 dX9_quarrel_73 h88 rfl ?_
              refine aw_iload 0 dX9_quarrel_76 rfl ?_
              refine aw_iald k (rfl) (by omega) (by decide) dX9_quarrel_78 h119 ?_
              refine aw_toe (nI (tr k)) (rfl) ?_
              have b3496 := btr k (by omega)
              refine aw_iadd dX9_quarrel_79 ?_
              refine aw_toe (nI (wv + (tr k))) (nv_add (rfl) (rfl)) ?_
              refine aw_istore_n [(3, .int (nI (wv + (tr k)))), (4, .int (nI k)), (1, .int (nI w0)), (0, .ref (G.1 + 88))] dX9_quarrel_80 rfl (by decide) rfl ?_
              refine aw_iinc (j := 1) (nI (k + 1)) [(4, .int (nI (k + 1))), (3, .int (nI (wv + (tr k)))), (1, .int (nI w0)), (0, .ref (G.1 + 88))] dX9_quarrel_81 rfl (nv_inc (rfl)) (by decide) rfl ?_
              refine aw_goto 21 dX9_quarrel_84 (by decide) ?_
              refine aw_lv [(4, .int (nI (k + 1))), (3, .int (nI (wv + (tr k)))), (1, .int (nI w0)), (0, .ref (G.1 + 88))] [0, 1, 2, 3] rfl ?_
              exact ih3473 (k + 1) (wv + (tr k)) (by omega) (by omega) (toF_y hw ⟨t42, Or.inr t68⟩)
  · have d7 := mt (j_eq (a := (shR w).toInt) (b := (0)) (rfl) (rfl)).mpr c7
    refine aw_aload_n 1 dX9_quarrel_10 rfl rfl ?_
    refine aw_iload_n 0 dX9_quarrel_11 rfl rfl ?_
    obtain ⟨q3497, bq3497, eq3497⟩ := Or.resolve_left (shR_q w) (by assumption)
    refine aw_eV [.int (shR w)] [] lX9_130 vX9_refuse mX9_refuse dX9_quarrel_12 (bX9_refuse (sp := sp) (fa := fa) (nb := nb) (ns := ns) (nm := nm) (nv := nv) (sh := sh) (ho := ho) (ow := ow) (sl := sl) (rg := rg) (x := (shR w)) (q := q3497) h88 h89 bq3497 eq3497) h88 rfl rfl rfl (Nat.le_of_ble_eq_true rfl) (by decide) (by decide) rfl (fun h3500 q3499 => ?_)
    obtain ⟨rg13498, f3501, k3502⟩ := q3499
    have f3503 := rng_at k3502 (by decide) h88
    have f3504 := rng_at k3502 (by decide) h116
    have f3505 := rng_at k3502 (by decide) h117
    have f3506 := rng_at k3502 (by decide) h118
    have f3507 := rng_at k3502 (by decide) h119
    have f3508 := rng_at k3502 (by decide) h120
    have f3509 := rng_at k3502 (by decide) h121
    have f3510 := rng_at k3502 (by decide) h122
    subst hQF
    exact aw_iret rfl dX9_quarrel_15 (by decide) (by decide) ⟨by rw [if_neg c7], _, _, _, _, _, f3503, f3508, f3509, f3510, f3501, rg2_tr (rg2_rf 88 89 120 122 h) (rg2_w k3502 (by decide)), htg, hsh⟩
