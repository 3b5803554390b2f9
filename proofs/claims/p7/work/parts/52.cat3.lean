set_option maxHeartbeats 4000000 in
theorem gX1_addEntry {l : Launch} {G : xG} {h : List va_E} {m se ye fi : Nat → Nat} {W Sn Z Ro Co : Nat → Int32} {Ba : Nat → Int64} {nb sp fa : Nat} {ver : Int32} {c w s r u : Int32} {c0 : Nat} (hC : xCat G m se ye fi W Sn Z Ro Co Ba nb sp fa ver h) (hm : ∀ j, j < 20 → m j ≤ j) (hse : ∀ j, j < 20 → se j < 20) (hfi : ∀ j, j < 4 → fi j < 11) (hye : ∀ j, j < 4 → ye j < 1901) (ec : c = nI c0) (bc : c0 < 4) (bf : fi c0 < 10) : CE l G yX1_addEntry cX1_addEntry 8 (some .int) 1 0 0 [.ref (G.1 + 1), .int c, .int w, .int s, .int r, .int u] h (some (.int (nI (fi c0)))) (fun h1 => ∃ ver1, xCat G m se ye (un fi c0 (fi c0 + 1)) (upd W (c0 * 10 + fi c0) w) (upd Sn (c0 * 10 + fi c0) (snF se w 20)) (upd Z (c0 * 10 + fi c0) s) (upd Ro (c0 * 10 + fi c0) r) (upd Co (c0 * 10 + fi c0) u) Ba nb sp fa ver1 h1 ∧ rng 1 11 h h1) := by
  refine cm_of rfl (Nat.le_of_ble_eq_true rfl) [(0, .ref (G.1 + 1)), (1, .int c), (2, .int w), (3, .int s), (4, .int r), (5, .int u)] rfl ?_
  refine aw_aload_n 0 dX1_addEntry_0 rfl rfl ?_
  refine aw_get fX1_21 dX1_addEntry_1 hC.1 rfl ?_
  refine aw_iload_n 1 dX1_addEntry_4 rfl rfl ?_
  refine aw_iald c0 (ec) (by omega) (by decide) dX1_addEntry_5 hC.2.2.2.2.1 ?_
  refine aw_toe (nI (fi c0)) (rfl) ?_
  have b6 := hfi c0 (by omega)
  refine aw_istore [(6, .int (nI (fi c0))), (0, .ref (G.1 + 1)), (1, .int c), (2, .int w), (3, .int s), (4, .int r), (5, .int u)] dX1_addEntry_6 (by decide) rfl ?_
  refine aw_iload_n 2 dX1_addEntry_8 rfl rfl ?_
  refine aw_bipush (10) dX1_addEntry_9 (by decide) ?_
  refine aw_imul dX1_addEntry_11 ?_
  refine aw_iload 0 dX1_addEntry_12 rfl ?_
  refine aw_iadd dX1_addEntry_14 ?_
  refine aw_toe (nI ((c0 * 10) + (fi c0))) (nv_add (nv_mul (ec) (rfl)) (rfl)) ?_
  refine aw_istore [(7, .int (nI ((c0 * 10) + (fi c0)))), (6, .int (nI (fi c0))), (0, .ref (G.1 + 1)), (1, .int c), (2, .int w), (3, .int s), (4, .int r), (5, .int u)] dX1_addEntry_15 (by decide) rfl ?_
  refine aw_aload_n 2 dX1_addEntry_17 rfl rfl ?_
  refine aw_get fX1_24 dX1_addEntry_18 hC.1 rfl ?_
  refine aw_iload 0 dX1_addEntry_21 rfl ?_
  refine aw_iload_n 4 dX1_addEntry_23 rfl rfl ?_
  refine aw_iast ((c0 * 10) + (fi c0)) (rfl) (by omega) (by decide) dX1_addEntry_24 hC.2.2.2.2.2.1 ?_
  refine aw_aload_n 2 dX1_addEntry_25 rfl rfl ?_
  refine aw_get fX1_27 dX1_addEntry_26 (gn (by decide) (hC.1)) rfl ?_
  refine aw_iload 0 dX1_addEntry_29 rfl ?_
  refine aw_aload_n 2 dX1_addEntry_31 rfl rfl ?_
  refine aw_iload_n 4 dX1_addEntry_32 rfl rfl ?_
  refine aw_dV [.int w] [.int (nI ((c0 * 10) + (fi c0))), .ref (G.1 + 7)] lX1_56 vX1_sensesOf mX1_sensesOf dX1_addEntry_33 (gX1_sensesOf (gn (by decide) (hC.1)) (gn (by decide) (hC.2.2.1))) (gn (by decide) (hC.1)) rfl rfl rfl (Nat.le_of_ble_eq_true rfl) (by decide) (by decide) rfl ?_
  refine aw_iast ((c0 * 10) + (fi c0)) (rfl) (by omega) (by decide) dX1_addEntry_36 (gn (by decide) (hC.2.2.2.2.2.2.1)) ?_
  refine aw_aload_n 2 dX1_addEntry_37 rfl rfl ?_
  refine aw_get fX1_30 dX1_addEntry_38 (gn (by decide) (gn (by decide) (hC.1))) rfl ?_
  refine aw_iload 0 dX1_addEntry_41 rfl ?_
  refine aw_iload_n 5 dX1_addEntry_43 rfl rfl ?_
  refine aw_iast ((c0 * 10) + (fi c0)) (rfl) (by omega) (by decide) dX1_addEntry_44 (gn (by decide) (gn (by decide) (hC.2.2.2.2.2.2.2.1))) ?_
  refine aw_aload_n 2 dX1_addEntry_45 rfl rfl ?_
  refine aw_get fX1_33 dX1_addEntry_46 (gn (by decide) (gn (by decide) (gn (by decide) (hC.1)))) rfl ?_
  refine aw_iload 0 dX1_addEntry_49 rfl ?_
  refine aw_iload 6 dX1_addEntry_51 rfl ?_
  refine aw_iast ((c0 * 10) + (fi c0)) (rfl) (by omega) (by decide) dX1_addEntry_53 (gn (by decide) (gn (by decide) (gn (by decide) (hC.2.2.2.2.2.2.2.2.1)))) ?_
  refine aw_aload_n 2 dX1_addEntry_54 rfl rfl ?_
  refine aw_get fX1_36 dX1_addEntry_55 (gn (by decide) (gn (by decide) (gn (by decide) (gn (by decide) (hC.1))))) rfl ?_
  refine aw_iload 0 dX1_addEntry_58 rfl ?_
  refine aw_iload 7 dX1_addEntry_60 rfl ?_
  refine aw_iast ((c0 * 10) + (fi c0)) (rfl) (by omega) (by decide) dX1_addEntry_62 (gn (by decide) (gn (by decide) (gn (by decide) (gn (by decide) (hC.2.2.2.2.2.2.2.2.2.1))))) ?_
  refine aw_aload_n 2 dX1_addEntry_63 rfl rfl ?_
  refine aw_get fX1_21 dX1_addEntry_64 (gn (by decide) (gn (by decide) (gn (by decide) (gn (by decide) (gn (by decide) (hC.1)))))) rfl ?_
  refine aw_iload_n 3 dX1_addEntry_67 rfl rfl ?_
  refine aw_iload 1 dX1_addEntry_68 rfl ?_
  refine aw_iconst (1) dX1_addEntry_70 (by decide) ?_
  refine aw_iadd dX1_addEntry_71 ?_
  refine aw_iast c0 (ec) (by omega) (by decide) dX1_addEntry_72 (gn (by decide) (gn (by decide) (gn (by decide) (gn (by decide) (gn (by decide) (hC.2.2.2.2.1)))))) ?_
  rw [nA_u (f := fi) (i := c0) (x := (nI (fi c0)) + 1) (v := (fi c0) + 1) (nv_add (rfl) (rfl))]
  refine aw_aload_n 2 dX1_addEntry_73 rfl rfl ?_
  refine aw_dup dX1_addEntry_74 rfl ?_
  refine aw_get fX1_53 dX1_addEntry_75 (gn (by decide) (gn (by decide) (gn (by decide) (gn (by decide) (gn (by decide) (gn (by decide) (hC.1))))))) rfl ?_
  refine aw_iconst (1) dX1_addEntry_78 (by decide) ?_
  refine aw_iadd dX1_addEntry_79 ?_
  refine aw_top (fun v7 ev7 => ?_)
  refine aw_putQ fX1_53 dX1_addEntry_80 [.ref (G.1 + 2), .ref (G.1 + 3), .ref (G.1 + 4), .ref (G.1 + 5), .ref (G.1 + 6), .ref (G.1 + 7), .ref (G.1 + 8), .ref (G.1 + 9), .ref (G.1 + 10), .ref (G.1 + 11), .int (nI nb), .int (nI sp), .int (nI fa), .int v7] (gn (by decide) (gn (by decide) (gn (by decide) (gn (by decide) (gn (by decide) (gn (by decide) (hC.1))))))) rfl rfl rfl (Nat.le_of_ble_eq_true rfl) rfl ?_
  refine aw_iload 1 dX1_addEntry_83 rfl ?_
  exact aw_iret rfl dX1_addEntry_85 (by decide) (by decide) ⟨rfl, v7, ⟨(gs (gn (by decide) (gn (by decide) (gn (by decide) (gn (by decide) (gn (by decide) (gn (by decide) (hC.1)))))))), (gn (by decide) (gn (by decide) (gn (by decide) (gn (by decide) (gn (by decide) (gn (by decide) (gn (by decide) (hC.2.1)))))))), (gn (by decide) (gn (by decide) (gn (by decide) (gn (by decide) (gn (by decide) (gn (by decide) (gn (by decide) (hC.2.2.1)))))))), (gn (by decide) (gn (by decide) (gn (by decide) (gn (by decide) (gn (by decide) (gn (by decide) (gn (by decide) (hC.2.2.2.1)))))))), (gn (by decide) (gs (gn (by decide) (gn (by decide) (gn (by decide) (gn (by decide) (gn (by decide) (hC.2.2.2.2.1)))))))), (gn (by decide) (gn (by decide) (gn (by decide) (gn (by decide) (gn (by decide) (gn (by decide) (gs hC.2.2.2.2.2.1))))))), (gn (by decide) (gn (by decide) (gn (by decide) (gn (by decide) (gn (by decide) (gs (gn (by decide) (hC.2.2.2.2.2.2.1)))))))), (gn (by decide) (gn (by decide) (gn (by decide) (gn (by decide) (gs (gn (by decide) (gn (by decide) (hC.2.2.2.2.2.2.2.1)))))))), (gn (by decide) (gn (by decide) (gn (by decide) (gs (gn (by decide) (gn (by decide) (gn (by decide) (hC.2.2.2.2.2.2.2.2.1)))))))), (gn (by decide) (gn (by decide) (gs (gn (by decide) (gn (by decide) (gn (by decide) (gn (by decide) (hC.2.2.2.2.2.2.2.2.2.1)))))))), (gn (by decide) (gn (by decide) (gn (by decide) (gn (by decide) (gn (by decide) (gn (by decide) (gn (by decide) (hC.2.2.2.2.2.2.2.2.2.2))))))))⟩, rng_set (rng_set (rng_set (rng_set (rng_set (rng_set (rng_set (rng_rf 1 11 h) (by decide) (by decide)) (by decide) (by decide)) (by decide) (by decide)) (by decide) (by decide)) (by decide) (by decide)) (by decide) (by decide)) (by decide) (by decide)⟩
set_option maxHeartbeats 4000000 in
theorem gX1_isBarTold {l : Launch} {G : xG} {h : List va_E} {e f : Int32} {e0 f0 : Nat} {m se ye fi : Nat → Nat} {W Sn Z Ro Co : Nat → Int32} {Ba : Nat → Int64} {nb sp fa : Nat} {ver : Int32} (hC : xCat G m se ye fi W Sn Z Ro Co Ba nb sp fa ver h) (hm : ∀ j, j < 20 → m j ≤ j) (hse : ∀ j, j < 20 → se j < 20) (hfi : ∀ j, j < 4 → fi j < 11) (hye : ∀ j, j < 4 → ye j < 1901) (ee : e = nI e0) (be : e0 < 40) (ef : f = nI f0) (bf : f0 < 40) : CD l G yX1_isBarTold cX1_isBarTold 3 (some .boolean) 0 0 0 [.ref (G.1 + 1), .int e, .int f] h (some (.int (barF Ba e0 f))) h := by
  refine cm_of rfl (Nat.le_of_ble_eq_true rfl) [(0, .ref (G.1 + 1)), (1, .int e), (2, .int f)] rfl ?_
  refine aw_aload_n 0 dX1_isBarTold_0 rfl rfl ?_
  refine aw_get fX1_39 dX1_isBarTold_1 hC.1 rfl ?_
  refine aw_iload_n 1 dX1_isBarTold_4 rfl rfl ?_
  refine aw_lald e0 (ee) (by omega) (by decide) dX1_isBarTold_5 hC.2.2.2.2.2.2.2.2.2.2 ?_
  refine aw_iload_n 2 dX1_isBarTold_6 rfl rfl ?_
  refine aw_lshr _ dX1_isBarTold_7 rfl ?_
  refine aw_lconst 1 dX1_isBarTold_8 (by decide) ?_
  refine aw_land dX1_isBarTold_9 ?_
  refine aw_lconst 0 dX1_isBarTold_10 (by decide) ?_
  refine aw_lcmp dX1_isBarTold_11 ?_
  refine aw_if_eq 19 dX1_isBarTold_12 (by decide) (fun c12 => ?_) (fun c12 => ?_)
  · refine aw_iconst (0) dX1_isBarTold_19 (by decide) ?_
    exact aw_zret rfl rfl dX1_isBarTold_20 (by decide) (by decide) ⟨by simp [barF, c12], rfl⟩
  · refine aw_iconst (1) dX1_isBarTold_15 (by decide) ?_
    refine aw_goto 20 dX1_isBarTold_16 (by decide) ?_
    exact aw_zret rfl rfl dX1_isBarTold_20 (by decide) (by decide) ⟨by simp [barF, c12], rfl⟩
set_option maxHeartbeats 4000000 in
theorem gX1_isSameText {l : Launch} {G : xG} {h : List va_E} {e f : Int32} {e0 f0 : Nat} {m se ye fi : Nat → Nat} {W Sn Z Ro Co : Nat → Int32} {Ba : Nat → Int64} {nb sp fa : Nat} {ver : Int32} (hC : xCat G m se ye fi W Sn Z Ro Co Ba nb sp fa ver h) (hm : ∀ j, j < 20 → m j ≤ j) (hse : ∀ j, j < 20 → se j < 20) (hfi : ∀ j, j < 4 → fi j < 11) (hye : ∀ j, j < 4 → ye j < 1901) (ee : e = nI e0) (be : e0 < 40) (ef : f = nI f0) (bf : f0 < 40) : CD l G yX1_isSameText cX1_isSameText 3 (some .boolean) 0 0 0 [.ref (G.1 + 1), .int e, .int f] h (some (.int (if W e0 = W f0 ∧ Z e0 = Z f0 then 1 else 0))) h := by
  refine cm_of rfl (Nat.le_of_ble_eq_true rfl) [(0, .ref (G.1 + 1)), (1, .int e), (2, .int f)] rfl ?_
  refine aw_aload_n 0 dX1_isSameText_0 rfl rfl ?_
  refine aw_get fX1_24 dX1_isSameText_1 hC.1 rfl ?_
  refine aw_iload_n 1 dX1_isSameText_4 rfl rfl ?_
  refine aw_iald e0 (ee) (by omega) (by decide) dX1_isSameText_5 hC.2.2.2.2.2.1 ?_
  refine aw_aload_n 0 dX1_isSameText_6 rfl rfl ?_
  refine aw_get fX1_24 dX1_isSameText_7 hC.1 rfl ?_
  refine aw_iload_n 2 dX1_isSameText_10 rfl rfl ?_
  refine aw_iald f0 (ef) (by omega) (by decide) dX1_isSameText_11 hC.2.2.2.2.2.1 ?_
  refine aw_icmp_ne 34 dX1_isSameText_12 (by decide) (fun c12 => ?_) (fun c12 => ?_)
  · refine aw_iconst (0) dX1_isSameText_34 (by decide) ?_
    exact aw_zret rfl rfl dX1_isSameText_35 (by decide) (by decide) ⟨by simp [c12], rfl⟩
  · refine aw_aload_n 0 dX1_isSameText_15 rfl rfl ?_
    refine aw_get fX1_30 dX1_isSameText_16 hC.1 rfl ?_
    refine aw_iload_n 1 dX1_isSameText_19 rfl rfl ?_
    refine aw_iald e0 (ee) (by omega) (by decide) dX1_isSameText_20 hC.2.2.2.2.2.2.2.1 ?_
    refine aw_aload_n 0 dX1_isSameText_21 rfl rfl ?_
    refine aw_get fX1_30 dX1_isSameText_22 hC.1 rfl ?_
    refine aw_iload_n 2 dX1_isSameText_25 rfl rfl ?_
    refine aw_iald f0 (ef) (by omega) (by decide) dX1_isSameText_26 hC.2.2.2.2.2.2.2.1 ?_
    refine aw_icmp_ne 34 dX1_isSameText_27 (by decide) (fun c27 => ?_) (fun c27 => ?_)
    · refine aw_iconst (0) dX1_isSameText_34 (by decide) ?_
      exact aw_zret rfl rfl dX1_isSameText_35 (by decide) (by decide) ⟨by simp [c12, c27], rfl⟩
    · refine aw_iconst (1) dX1_isSameText_30 (by decide) ?_
      refine aw_goto 35 dX1_isSameText_31 (by decide) ?_
      exact aw_zret rfl rfl dX1_isSameText_35 (by decide) (by decide) ⟨by simp [c12, c27], rfl⟩
set_option maxHeartbeats 4000000 in
theorem gX1_fades {l : Launch} {G : xG} {h : List va_E} {e f : Int32} {e0 f0 : Nat} {m se ye fi : Nat → Nat} {W Sn Z Ro Co : Nat → Int32} {Ba : Nat → Int64} {nb sp fa : Nat} {ver : Int32} (hC : xCat G m se ye fi W Sn Z Ro Co Ba nb sp fa ver h) (hm : ∀ j, j < 20 → m j ≤ j) (hse : ∀ j, j < 20 → se j < 20) (hfi : ∀ j, j < 4 → fi j < 11) (hye : ∀ j, j < 4 → ye j < 1901) (ee : e = nI e0) (be : e0 < 40) (ef : f = nI f0) (bf : f0 < 40) : CD l G yX1_fadesAsItMay cX1_fadesAsItMay 8 (some .boolean) 0 0 0 [.ref (G.1 + 1), .int e, .int f] h (some (.int (fadeC ye Co fa e0 f0))) h := by
  refine cm_of rfl (Nat.le_of_ble_eq_true rfl) [(0, .ref (G.1 + 1)), (1, .int e), (2, .int f)] rfl ?_
  refine aw_iload_n 1 dX1_fadesAsItMay_0 rfl rfl ?_
  refine aw_bipush (10) dX1_fadesAsItMay_1 (by decide) ?_
  refine aw_idiv dX1_fadesAsItMay_3 (by decide) ?_
  refine aw_toe (nI (e0 / 10)) (nv_div (ee) (rfl) (by omega) (by decide) (by decide)) ?_
  refine aw_istore_n [(3, .int (nI (e0 / 10))), (0, .ref (G.1 + 1)), (1, .int e), (2, .int f)] dX1_fadesAsItMay_4 rfl (by decide) rfl ?_
  refine aw_iload_n 3 dX1_fadesAsItMay_5 rfl rfl ?_
  refine aw_bipush (10) dX1_fadesAsItMay_6 (by decide) ?_
  refine aw_idiv dX1_fadesAsItMay_8 (by decide) ?_
  refine aw_toe (nI (f0 / 10)) (nv_div (ef) (rfl) (by omega) (by decide) (by decide)) ?_
  refine aw_istore [(4, .int (nI (f0 / 10))), (3, .int (nI (e0 / 10))), (0, .ref (G.1 + 1)), (1, .int e), (2, .int f)] dX1_fadesAsItMay_9 (by decide) rfl ?_
  refine aw_aload_n 2 dX1_fadesAsItMay_11 rfl rfl ?_
  refine aw_get fX1_18 dX1_fadesAsItMay_12 hC.1 rfl ?_
  refine aw_iload_n 1 dX1_fadesAsItMay_15 rfl rfl ?_
  refine aw_iald (e0 / 10) (rfl) (by omega) (by decide) dX1_fadesAsItMay_16 hC.2.2.2.1 ?_
  refine aw_toe (nI (ye (e0 / 10))) (rfl) ?_
  have b8 := hye (e0 / 10) (by omega)
  refine aw_aload_n 2 dX1_fadesAsItMay_17 rfl rfl ?_
  refine aw_get fX1_18 dX1_fadesAsItMay_18 hC.1 rfl ?_
  refine aw_iload 0 dX1_fadesAsItMay_21 rfl ?_
  refine aw_iald (f0 / 10) (rfl) (by omega) (by decide) dX1_fadesAsItMay_23 hC.2.2.2.1 ?_
  refine aw_toe (nI (ye (f0 / 10))) (rfl) ?_
  have b9 := hye (f0 / 10) (by omega)
  refine aw_icmp_eq 51 dX1_fadesAsItMay_24 (by decide) (fun c24 => ?_) (fun c24 => ?_)
  · refine aw_iload_n 1 dX1_fadesAsItMay_51 rfl rfl ?_
    refine aw_iload 0 dX1_fadesAsItMay_52 rfl ?_
    refine aw_icmp_ge 61 dX1_fadesAsItMay_54 (by decide) (fun c54 => ?_) (fun c54 => ?_)
    · refine aw_iconst (0) dX1_fadesAsItMay_61 (by decide) ?_
      refine aw_istore [(5, .int 0), (4, .int (nI (f0 / 10))), (3, .int (nI (e0 / 10))), (0, .ref (G.1 + 1)), (1, .int e), (2, .int f)] dX1_fadesAsItMay_62 (by decide) rfl ?_
      refine aw_iload 0 dX1_fadesAsItMay_64 rfl ?_
      refine aw_if_eq 85 dX1_fadesAsItMay_66 (by decide) (fun c66 => ?_) (fun c66 => absurd (by decide) c66)
      refine aw_aload_n 3 dX1_fadesAsItMay_85 rfl rfl ?_
      refine aw_get fX1_36 dX1_fadesAsItMay_86 hC.1 rfl ?_
      refine aw_iload_n 5 dX1_fadesAsItMay_89 rfl rfl ?_
      refine aw_iald f0 (ef) (by omega) (by decide) dX1_fadesAsItMay_90 hC.2.2.2.2.2.2.2.2.2.1 ?_
      refine aw_aload_n 3 dX1_fadesAsItMay_91 rfl rfl ?_
      refine aw_get fX1_36 dX1_fadesAsItMay_92 hC.1 rfl ?_
      refine aw_iload_n 4 dX1_fadesAsItMay_95 rfl rfl ?_
      refine aw_iald e0 (ee) (by omega) (by decide) dX1_fadesAsItMay_96 hC.2.2.2.2.2.2.2.2.2.1 ?_
      refine aw_isub dX1_fadesAsItMay_97 ?_
      refine aw_top (fun v10 ev10 => ?_)
      refine aw_istore [(6, .int v10), (5, .int 0), (4, .int (nI (f0 / 10))), (3, .int (nI (e0 / 10))), (0, .ref (G.1 + 1)), (1, .int e), (2, .int f)] dX1_fadesAsItMay_98 (by decide) rfl ?_
      refine aw_iload 1 dX1_fadesAsItMay_100 rfl ?_
      refine aw_if_eq 122 dX1_fadesAsItMay_102 (by decide) (fun c102 => ?_) (fun c102 => absurd (by decide) c102)
      refine aw_aload_n 4 dX1_fadesAsItMay_122 rfl rfl ?_
      refine aw_get fX1_18 dX1_fadesAsItMay_123 hC.1 rfl ?_
      refine aw_iload_n 3 dX1_fadesAsItMay_126 rfl rfl ?_
      refine aw_iald (e0 / 10) (rfl) (by omega) (by decide) dX1_fadesAsItMay_127 hC.2.2.2.1 ?_
      refine aw_toe (nI (ye (e0 / 10))) (rfl) ?_
      have b11 := hye (e0 / 10) (by omega)
      refine aw_aload_n 4 dX1_fadesAsItMay_128 rfl rfl ?_
      refine aw_get fX1_18 dX1_fadesAsItMay_129 hC.1 rfl ?_
      refine aw_iload 2 dX1_fadesAsItMay_132 rfl ?_
      refine aw_iald (f0 / 10) (rfl) (by omega) (by decide) dX1_fadesAsItMay_134 hC.2.2.2.1 ?_
      refine aw_toe (nI (ye (f0 / 10))) (rfl) ?_
      have b12 := hye (f0 / 10) (by omega)
      refine aw_isub dX1_fadesAsItMay_135 ?_
      refine aw_istore [(7, .int ((nI (ye (e0 / 10))) - (nI (ye (f0 / 10))))), (6, .int v10), (5, .int 0), (4, .int (nI (f0 / 10))), (3, .int (nI (e0 / 10))), (0, .ref (G.1 + 1)), (1, .int e), (2, .int f)] dX1_fadesAsItMay_136 (by decide) rfl ?_
      refine aw_iload 1 dX1_fadesAsItMay_138 rfl ?_
      refine aw_if_lt 161 dX1_fadesAsItMay_140 (by decide) (fun c140 => ?_) (fun c140 => ?_)
      · refine aw_iconst (0) dX1_fadesAsItMay_161 (by decide) ?_
        exact aw_zret rfl rfl dX1_fadesAsItMay_162 (by decide) (by decide) ⟨by subst_vars; simp [fadeC, c24, c54, c140], rfl⟩
      · refine aw_iload 1 dX1_fadesAsItMay_143 rfl ?_
        refine aw_iload 0 dX1_fadesAsItMay_145 rfl ?_
        refine aw_aload_n 5 dX1_fadesAsItMay_147 rfl rfl ?_
        refine aw_get fX1_50 dX1_fadesAsItMay_148 hC.1 rfl ?_
        refine aw_imul dX1_fadesAsItMay_151 ?_
        refine aw_iconst (5) dX1_fadesAsItMay_152 (by decide) ?_
        refine aw_iadd dX1_fadesAsItMay_153 ?_
        refine aw_icmp_gt 161 dX1_fadesAsItMay_154 (by decide) (fun c154 => ?_) (fun c154 => ?_)
        · refine aw_iconst (0) dX1_fadesAsItMay_161 (by decide) ?_
          exact aw_zret rfl rfl dX1_fadesAsItMay_162 (by decide) (by decide) ⟨by subst_vars; first | (simp [fadeC, c24, c54, c140, c154]; done) | (simp [c24] at c154; simp [fadeC, c24, c54, c140, c154]), rfl⟩
        · refine aw_iconst (1) dX1_fadesAsItMay_157 (by decide) ?_
          refine aw_goto 162 dX1_fadesAsItMay_158 (by decide) ?_
          exact aw_zret rfl rfl dX1_fadesAsItMay_162 (by decide) (by decide) ⟨by subst_vars; first | (simp [fadeC, c24, c54, c140, c154]; done) | (simp [c24] at c154; simp [fadeC, c24, c54, c140, c154]), rfl⟩
    · refine aw_iconst (1) dX1_fadesAsItMay_57 (by decide) ?_
      refine aw_goto 62 dX1_fadesAsItMay_58 (by decide) ?_
      refine aw_istore [(5, .int 1), (4, .int (nI (f0 / 10))), (3, .int (nI (e0 / 10))), (0, .ref (G.1 + 1)), (1, .int e), (2, .int f)] dX1_fadesAsItMay_62 (by decide) rfl ?_
      refine aw_iload 0 dX1_fadesAsItMay_64 rfl ?_
      refine aw_if_eq 85 dX1_fadesAsItMay_66 (by decide) (fun c66 => absurd c66 (by decide)) (fun c66 => ?_)
      refine aw_aload_n 3 dX1_fadesAsItMay_69 rfl rfl ?_
      refine aw_get fX1_36 dX1_fadesAsItMay_70 hC.1 rfl ?_
      refine aw_iload_n 4 dX1_fadesAsItMay_73 rfl rfl ?_
      refine aw_iald e0 (ee) (by omega) (by decide) dX1_fadesAsItMay_74 hC.2.2.2.2.2.2.2.2.2.1 ?_
      refine aw_aload_n 3 dX1_fadesAsItMay_75 rfl rfl ?_
      refine aw_get fX1_36 dX1_fadesAsItMay_76 hC.1 rfl ?_
      refine aw_iload_n 5 dX1_fadesAsItMay_79 rfl rfl ?_
      refine aw_iald f0 (ef) (by omega) (by decide) dX1_fadesAsItMay_80 hC.2.2.2.2.2.2.2.2.2.1 ?_
      refine aw_isub dX1_fadesAsItMay_81 ?_
      refine aw_goto 98 dX1_fadesAsItMay_82 (by decide) ?_
      refine aw_top (fun v13 ev13 => ?_)
      refine aw_istore [(6, .int v13), (5, .int 1), (4, .int (nI (f0 / 10))), (3, .int (nI (e0 / 10))), (0, .ref (G.1 + 1)), (1, .int e), (2, .int f)] dX1_fadesAsItMay_98 (by decide) rfl ?_
      refine aw_iload 1 dX1_fadesAsItMay_100 rfl ?_
      refine aw_if_eq 122 dX1_fadesAsItMay_102 (by decide) (fun c102 => absurd c102 (by decide)) (fun c102 => ?_)
      refine aw_aload_n 4 dX1_fadesAsItMay_105 rfl rfl ?_
      refine aw_get fX1_18 dX1_fadesAsItMay_106 hC.1 rfl ?_
      refine aw_iload 2 dX1_fadesAsItMay_109 rfl ?_
      refine aw_iald (f0 / 10) (rfl) (by omega) (by decide) dX1_fadesAsItMay_111 hC.2.2.2.1 ?_
      refine aw_toe (nI (ye (f0 / 10))) (rfl) ?_
      have b14 := hye (f0 / 10) (by omega)
      refine aw_aload_n 4 dX1_fadesAsItMay_112 rfl rfl ?_
      refine aw_get fX1_18 dX1_fadesAsItMay_113 hC.1 rfl ?_
      refine aw_iload_n 3 dX1_fadesAsItMay_116 rfl rfl ?_
      refine aw_iald (e0 / 10) (rfl) (by omega) (by decide) dX1_fadesAsItMay_117 hC.2.2.2.1 ?_
      refine aw_toe (nI (ye (e0 / 10))) (rfl) ?_
      have b15 := hye (e0 / 10) (by omega)
      refine aw_isub dX1_fadesAsItMay_118 ?_
      refine aw_goto 136 dX1_fadesAsItMay_119 (by decide) ?_
      refine aw_istore [(7, .int ((nI (ye (f0 / 10))) - (nI (ye (e0 / 10))))), (6, .int v13), (5, .int 1), (4, .int (nI (f0 / 10))), (3, .int (nI (e0 / 10))), (0, .ref (G.1 + 1)), (1, .int e), (2, .int f)] dX1_fadesAsItMay_136 (by decide) rfl ?_
      refine aw_iload 1 dX1_fadesAsItMay_138 rfl ?_
      refine aw_if_lt 161 dX1_fadesAsItMay_140 (by decide) (fun c140 => ?_) (fun c140 => ?_)
      · refine aw_iconst (0) dX1_fadesAsItMay_161 (by decide) ?_
        exact aw_zret rfl rfl dX1_fadesAsItMay_162 (by decide) (by decide) ⟨by subst_vars; simp [fadeC, c24, c54, c140], rfl⟩
      · refine aw_iload 1 dX1_fadesAsItMay_143 rfl ?_
        refine aw_iload 0 dX1_fadesAsItMay_145 rfl ?_
        refine aw_aload_n 5 dX1_fadesAsItMay_147 rfl rfl ?_
        refine aw_get fX1_50 dX1_fadesAsItMay_148 hC.1 rfl ?_
        refine aw_imul dX1_fadesAsItMay_151 ?_
        refine aw_iconst (5) dX1_fadesAsItMay_152 (by decide) ?_
        refine aw_iadd dX1_fadesAsItMay_153 ?_
        refine aw_icmp_gt 161 dX1_fadesAsItMay_154 (by decide) (fun c154 => ?_) (fun c154 => ?_)
        · refine aw_iconst (0) dX1_fadesAsItMay_161 (by decide) ?_
          exact aw_zret rfl rfl dX1_fadesAsItMay_162 (by decide) (by decide) ⟨by subst_vars; first | (simp [fadeC, c24, c54, c140, c154]; done) | (simp [c24] at c154; simp [fadeC, c24, c54, c140, c154]), rfl⟩
        · refine aw_iconst (1) dX1_fadesAsItMay_157 (by decide) ?_
          refine aw_goto 162 dX1_fadesAsItMay_158 (by decide) ?_
          exact aw_zret rfl rfl dX1_fadesAsItMay_162 (by decide) (by decide) ⟨by subst_vars; first | (simp [fadeC, c24, c54, c140, c154]; done) | (simp [c24] at c154; simp [fadeC, c24, c54, c140, c154]), rfl⟩
  · refine aw_aload_n 2 dX1_fadesAsItMay_27 rfl rfl ?_
    refine aw_get fX1_18 dX1_fadesAsItMay_28 hC.1 rfl ?_
    refine aw_iload_n 1 dX1_fadesAsItMay_31 rfl rfl ?_
    refine aw_iald (e0 / 10) (rfl) (by omega) (by decide) dX1_fadesAsItMay_32 hC.2.2.2.1 ?_
    refine aw_toe (nI (ye (e0 / 10))) (rfl) ?_
    have b16 := hye (e0 / 10) (by omega)
    refine aw_aload_n 2 dX1_fadesAsItMay_33 rfl rfl ?_
    refine aw_get fX1_18 dX1_fadesAsItMay_34 hC.1 rfl ?_
    refine aw_iload 0 dX1_fadesAsItMay_37 rfl ?_
    refine aw_iald (f0 / 10) (rfl) (by omega) (by decide) dX1_fadesAsItMay_39 hC.2.2.2.1 ?_
    refine aw_toe (nI (ye (f0 / 10))) (rfl) ?_
    have b17 := hye (f0 / 10) (by omega)
    refine aw_icmp_ge 47 dX1_fadesAsItMay_40 (by decide) (fun c40 => ?_) (fun c40 => ?_)
    · refine aw_iconst (0) dX1_fadesAsItMay_47 (by decide) ?_
      refine aw_goto 62 dX1_fadesAsItMay_48 (by decide) ?_
      refine aw_istore [(5, .int 0), (4, .int (nI (f0 / 10))), (3, .int (nI (e0 / 10))), (0, .ref (G.1 + 1)), (1, .int e), (2, .int f)] dX1_fadesAsItMay_62 (by decide) rfl ?_
      refine aw_iload 0 dX1_fadesAsItMay_64 rfl ?_
      refine aw_if_eq 85 dX1_fadesAsItMay_66 (by decide) (fun c66 => ?_) (fun c66 => absurd (by decide) c66)
      refine aw_aload_n 3 dX1_fadesAsItMay_85 rfl rfl ?_
      refine aw_get fX1_36 dX1_fadesAsItMay_86 hC.1 rfl ?_
      refine aw_iload_n 5 dX1_fadesAsItMay_89 rfl rfl ?_
      refine aw_iald f0 (ef) (by omega) (by decide) dX1_fadesAsItMay_90 hC.2.2.2.2.2.2.2.2.2.1 ?_
      refine aw_aload_n 3 dX1_fadesAsItMay_91 rfl rfl ?_
      refine aw_get fX1_36 dX1_fadesAsItMay_92 hC.1 rfl ?_
      refine aw_iload_n 4 dX1_fadesAsItMay_95 rfl rfl ?_
      refine aw_iald e0 (ee) (by omega) (by decide) dX1_fadesAsItMay_96 hC.2.2.2.2.2.2.2.2.2.1 ?_
      refine aw_isub dX1_fadesAsItMay_97 ?_
      refine aw_top (fun v18 ev18 => ?_)
      refine aw_istore [(6, .int v18), (5, .int 0), (4, .int (nI (f0 / 10))), (3, .int (nI (e0 / 10))), (0, .ref (G.1 + 1)), (1, .int e), (2, .int f)] dX1_fadesAsItMay_98 (by decide) rfl ?_
      refine aw_iload 1 dX1_fadesAsItMay_100 rfl ?_
      refine aw_if_eq 122 dX1_fadesAsItMay_102 (by decide) (fun c102 => ?_) (fun c102 => absurd (by decide) c102)
      refine aw_aload_n 4 dX1_fadesAsItMay_122 rfl rfl ?_
      refine aw_get fX1_18 dX1_fadesAsItMay_123 hC.1 rfl ?_
      refine aw_iload_n 3 dX1_fadesAsItMay_126 rfl rfl ?_
      refine aw_iald (e0 / 10) (rfl) (by omega) (by decide) dX1_fadesAsItMay_127 hC.2.2.2.1 ?_
      refine aw_toe (nI (ye (e0 / 10))) (rfl) ?_
      have b19 := hye (e0 / 10) (by omega)
      refine aw_aload_n 4 dX1_fadesAsItMay_128 rfl rfl ?_
      refine aw_get fX1_18 dX1_fadesAsItMay_129 hC.1 rfl ?_
      refine aw_iload 2 dX1_fadesAsItMay_132 rfl ?_
      refine aw_iald (f0 / 10) (rfl) (by omega) (by decide) dX1_fadesAsItMay_134 hC.2.2.2.1 ?_
      refine aw_toe (nI (ye (f0 / 10))) (rfl) ?_
      have b20 := hye (f0 / 10) (by omega)
      refine aw_isub dX1_fadesAsItMay_135 ?_
      refine aw_istore [(7, .int ((nI (ye (e0 / 10))) - (nI (ye (f0 / 10))))), (6, .int v18), (5, .int 0), (4, .int (nI (f0 / 10))), (3, .int (nI (e0 / 10))), (0, .ref (G.1 + 1)), (1, .int e), (2, .int f)] dX1_fadesAsItMay_136 (by decide) rfl ?_
      refine aw_iload 1 dX1_fadesAsItMay_138 rfl ?_
      refine aw_if_lt 161 dX1_fadesAsItMay_140 (by decide) (fun c140 => ?_) (fun c140 => ?_)
      · refine aw_iconst (0) dX1_fadesAsItMay_161 (by decide) ?_
        exact aw_zret rfl rfl dX1_fadesAsItMay_162 (by decide) (by decide) ⟨by subst_vars; simp [fadeC, c24, c40, c140], rfl⟩
      · refine aw_iload 1 dX1_fadesAsItMay_143 rfl ?_
        refine aw_iload 0 dX1_fadesAsItMay_145 rfl ?_
        refine aw_aload_n 5 dX1_fadesAsItMay_147 rfl rfl ?_
        refine aw_get fX1_50 dX1_fadesAsItMay_148 hC.1 rfl ?_
        refine aw_imul dX1_fadesAsItMay_151 ?_
        refine aw_iconst (5) dX1_fadesAsItMay_152 (by decide) ?_
        refine aw_iadd dX1_fadesAsItMay_153 ?_
        refine aw_icmp_gt 161 dX1_fadesAsItMay_154 (by decide) (fun c154 => ?_) (fun c154 => ?_)
        · refine aw_iconst (0) dX1_fadesAsItMay_161 (by decide) ?_
          exact aw_zret rfl rfl dX1_fadesAsItMay_162 (by decide) (by decide) ⟨by subst_vars; first | (simp [fadeC, c24, c40, c140, c154]; done) | (simp [c24] at c154; simp [fadeC, c24, c40, c140, c154]), rfl⟩
        · refine aw_iconst (1) dX1_fadesAsItMay_157 (by decide) ?_
          refine aw_goto 162 dX1_fadesAsItMay_158 (by decide) ?_
          exact aw_zret rfl rfl dX1_fadesAsItMay_162 (by decide) (by decide) ⟨by subst_vars; first | (simp [fadeC, c24, c40, c140, c154]; done) | (simp [c24] at c154; simp [fadeC, c24, c40, c140, c154]), rfl⟩
    · refine aw_iconst (1) dX1_fadesAsItMay_43 (by decide) ?_
      refine aw_goto 62 dX1_fadesAsItMay_44 (by decide) ?_
      refine aw_istore [(5, .int 1), (4, .int (nI (f0 / 10))), (3, .int (nI (e0 / 10))), (0, .ref (G.1 + 1)), (1, .int e), (2, .int f)] dX1_fadesAsItMay_62 (by decide) rfl ?_
      refine aw_iload 0 dX1_fadesAsItMay_64 rfl ?_
      refine aw_if_eq 85 dX1_fadesAsItMay_66 (by decide) (fun c66 => absurd c66 (by decide)) (fun c66 => ?_)
      refine aw_aload_n 3 dX1_fadesAsItMay_69 rfl rfl ?_
      refine aw_get fX1_36 dX1_fadesAsItMay_70 hC.1 rfl ?_
      refine aw_iload_n 4 dX1_fadesAsItMay_73 rfl rfl ?_
      refine aw_iald e0 (ee) (by omega) (by decide) dX1_fadesAsItMay_74 hC.2.2.2.2.2.2.2.2.2.1 ?_
      refine aw_aload_n 3 dX1_fadesAsItMay_75 rfl rfl ?_
      refine aw_get fX1_36 dX1_fadesAsItMay_76 hC.1 rfl ?_
      refine aw_iload_n 5 dX1_fadesAsItMay_79 rfl rfl ?_
      refine aw_iald f0 (ef) (by omega) (by decide) dX1_fadesAsItMay_80 hC.2.2.2.2.2.2.2.2.2.1 ?_
      refine aw_isub dX1_fadesAsItMay_81 ?_
      refine aw_goto 98 dX1_fadesAsItMay_82 (by decide) ?_
      refine aw_top (fun v21 ev21 => ?_)
      refine aw_istore [(6, .int v21), (5, .int 1), (4, .int (nI (f0 / 10))), (3, .int (nI (e0 / 10))), (0, .ref (G.1 + 1)), (1, .int e), (2, .int f)] dX1_fadesAsItMay_98 (by decide) rfl ?_
      refine aw_iload 1 dX1_fadesAsItMay_100 rfl ?_
      refine aw_if_eq 122 dX1_fadesAsItMay_102 (by decide) (fun c102 => absurd c102 (by decide)) (fun c102 => ?_)
      refine aw_aload_n 4 dX1_fadesAsItMay_105 rfl rfl ?_
      refine aw_get fX1_18 dX1_fadesAsItMay_106 hC.1 rfl ?_
      refine aw_iload 2 dX1_fadesAsItMay_109 rfl ?_
      refine aw_iald (f0 / 10) (rfl) (by omega) (by decide) dX1_fadesAsItMay_111 hC.2.2.2.1 ?_
      refine aw_toe (nI (ye (f0 / 10))) (rfl) ?_
      have b22 := hye (f0 / 10) (by omega)
      refine aw_aload_n 4 dX1_fadesAsItMay_112 rfl rfl ?_
      refine aw_get fX1_18 dX1_fadesAsItMay_113 hC.1 rfl ?_
      refine aw_iload_n 3 dX1_fadesAsItMay_116 rfl rfl ?_
      refine aw_iald (e0 / 10) (rfl) (by omega) (by decide) dX1_fadesAsItMay_117 hC.2.2.2.1 ?_
      refine aw_toe (nI (ye (e0 / 10))) (rfl) ?_
      have b23 := hye (e0 / 10) (by omega)
      refine aw_isub dX1_fadesAsItMay_118 ?_
      refine aw_goto 136 dX1_fadesAsItMay_119 (by decide) ?_
      refine aw_istore [(7, .int ((nI (ye (f0 / 10))) - (nI (ye (e0 / 10))))), (6, .int v21), (5, .int 1), (4, .int (nI (f0 / 10))), (3, .int (nI (e0 / 10))), (0, .ref (G.1 + 1)), (1, .int e), (2, .int f)] dX1_fadesAsItMay_136 (by decide) rfl ?_
      refine aw_iload 1 dX1_fadesAsItMay_138 rfl ?_
      refine aw_if_lt 161 dX1_fadesAsItMay_140 (by decide) (fun c140 => ?_) (fun c140 => ?_)
      · refine aw_iconst (0) dX1_fadesAsItMay_161 (by decide) ?_
        exact aw_zret rfl rfl dX1_fadesAsItMay_162 (by decide) (by decide) ⟨by subst_vars; simp [fadeC, c24, c40, c140], rfl⟩
      · refine aw_iload 1 dX1_fadesAsItMay_143 rfl ?_
        refine aw_iload 0 dX1_fadesAsItMay_145 rfl ?_
        refine aw_aload_n 5 dX1_fadesAsItMay_147 rfl rfl ?_
        refine aw_get fX1_50 dX1_fadesAsItMay_148 hC.1 rfl ?_
        refine aw_imul dX1_fadesAsItMay_151 ?_
        refine aw_iconst (5) dX1_fadesAsItMay_152 (by decide) ?_
        refine aw_iadd dX1_fadesAsItMay_153 ?_
        refine aw_icmp_gt 161 dX1_fadesAsItMay_154 (by decide) (fun c154 => ?_) (fun c154 => ?_)
        · refine aw_iconst (0) dX1_fadesAsItMay_161 (by decide) ?_
          exact aw_zret rfl rfl dX1_fadesAsItMay_162 (by decide) (by decide) ⟨by subst_vars; first | (simp [fadeC, c24, c40, c140, c154]; done) | (simp [c24] at c154; simp [fadeC, c24, c40, c140, c154]), rfl⟩
        · refine aw_iconst (1) dX1_fadesAsItMay_157 (by decide) ?_
          refine aw_goto 162 dX1_fadesAsItMay_158 (by decide) ?_
          exact aw_zret rfl rfl dX1_fadesAsItMay_162 (by decide) (by decide) ⟨by subst_vars; first | (simp [fadeC, c24, c40, c140, c154]; done) | (simp [c24] at c154; simp [fadeC, c24, c40, c140, c154]), rfl⟩
set_option maxHeartbeats 4000000 in
theorem gX1_likeness {l : Launch} {G : xG} {h : List va_E} {e f : Int32} {e0 f0 : Nat} {m se ye fi : Nat → Nat} {W Sn Z Ro Co : Nat → Int32} {Ba : Nat → Int64} {nb sp fa : Nat} {ver : Int32} (hC : xCat G m se ye fi W Sn Z Ro Co Ba nb sp fa ver h) (hm : ∀ j, j < 20 → m j ≤ j) (hse : ∀ j, j < 20 → se j < 20) (hfi : ∀ j, j < 4 → fi j < 11) (hye : ∀ j, j < 4 → ye j < 1901) (ee : e = nI e0) (be : e0 < 40) (ef : f = nI f0) (bf : f0 < 40) : CD l G yX1_likeness cX1_likeness 6 (some .int) 1 0 0 [.ref (G.1 + 1), .int e, .int f] h (some (.int (likeC ye Sn Z Ro Co Ba sp fa e0 f0))) h := by
  refine cm_of rfl (Nat.le_of_ble_eq_true rfl) [(0, .ref (G.1 + 1)), (1, .int e), (2, .int f)] rfl ?_
  refine aw_aload_n 0 dX1_likeness_0 rfl rfl ?_
  refine aw_get fX1_30 dX1_likeness_1 hC.1 rfl ?_
  refine aw_iload_n 1 dX1_likeness_4 rfl rfl ?_
  refine aw_iald e0 (ee) (by omega) (by decide) dX1_likeness_5 hC.2.2.2.2.2.2.2.1 ?_
  refine aw_aload_n 0 dX1_likeness_6 rfl rfl ?_
  refine aw_get fX1_30 dX1_likeness_7 hC.1 rfl ?_
  refine aw_iload_n 2 dX1_likeness_10 rfl rfl ?_
  refine aw_iald f0 (ef) (by omega) (by decide) dX1_likeness_11 hC.2.2.2.2.2.2.2.1 ?_
  refine aw_isub dX1_likeness_12 ?_
  refine aw_mabs lX1_60 dX1_likeness_13 (Nat.le_of_ble_eq_true rfl) (by decide) (by decide) ?_
  refine aw_toe (apF Z e0 f0) (rfl) ?_
  refine aw_istore_n [(3, .int (apF Z e0 f0)), (0, .ref (G.1 + 1)), (1, .int e), (2, .int f)] dX1_likeness_16 rfl (by decide) rfl ?_
  refine aw_aload_n 1 dX1_likeness_17 rfl rfl ?_
  refine aw_get fX1_27 dX1_likeness_18 hC.1 rfl ?_
  refine aw_iload_n 2 dX1_likeness_21 rfl rfl ?_
  refine aw_iald e0 (ee) (by omega) (by decide) dX1_likeness_22 hC.2.2.2.2.2.2.1 ?_
  refine aw_aload_n 1 dX1_likeness_23 rfl rfl ?_
  refine aw_get fX1_27 dX1_likeness_24 hC.1 rfl ?_
  refine aw_iload_n 3 dX1_likeness_27 rfl rfl ?_
  refine aw_iald f0 (ef) (by omega) (by decide) dX1_likeness_28 hC.2.2.2.2.2.2.1 ?_
  refine aw_iand dX1_likeness_29 ?_
  refine aw_top (fun v24 ev24 => ?_)
  refine aw_istore [(4, .int v24), (3, .int (apF Z e0 f0)), (0, .ref (G.1 + 1)), (1, .int e), (2, .int f)] dX1_likeness_30 (by decide) rfl ?_
  refine aw_iload_n 1 dX1_likeness_32 rfl rfl ?_
  refine aw_aload_n 2 dX1_likeness_33 rfl rfl ?_
  refine aw_get fX1_47 dX1_likeness_34 hC.1 rfl ?_
  refine aw_icmp_gt 63 dX1_likeness_37 (by decide) (fun c37 => ?_) (fun c37 => ?_)
  · refine aw_iconst (0) dX1_likeness_63 (by decide) ?_
    exact aw_iret rfl dX1_likeness_64 (by decide) (by decide) ⟨by subst_vars; simp [likeC, c37], rfl⟩
  · refine aw_iload 0 dX1_likeness_40 rfl ?_
    refine aw_if_eq 63 dX1_likeness_42 (by decide) (fun c42 => ?_) (fun c42 => ?_)
    · refine aw_iconst (0) dX1_likeness_63 (by decide) ?_
      exact aw_iret rfl dX1_likeness_64 (by decide) (by decide) ⟨by subst_vars; simp [likeC, c37, c42], rfl⟩
    · refine aw_aload_n 2 dX1_likeness_45 rfl rfl ?_
      refine aw_iload_n 3 dX1_likeness_46 rfl rfl ?_
      refine aw_iload_n 4 dX1_likeness_47 rfl rfl ?_
      refine aw_dV [.int e, .int f] [] lX1_65 vX1_isBarTold mX1_isBarTold dX1_likeness_48 (gX1_isBarTold hC hm hse hfi hye ee be ef bf) hC.1 rfl rfl rfl (Nat.le_of_ble_eq_true rfl) (by decide) (by decide) rfl ?_
      refine aw_if_ne 63 dX1_likeness_51 (by decide) (fun c51 => ?_) (fun c51 => ?_)
      · refine aw_iconst (0) dX1_likeness_63 (by decide) ?_
        exact aw_iret rfl dX1_likeness_64 (by decide) (by decide) ⟨by subst_vars; simp [likeC, c37, c42, c51], rfl⟩
      · refine aw_aload_n 2 dX1_likeness_54 rfl rfl ?_
        refine aw_iload_n 3 dX1_likeness_55 rfl rfl ?_
        refine aw_iload_n 4 dX1_likeness_56 rfl rfl ?_
        refine aw_dV [.int e, .int f] [] lX1_69 vX1_fadesAsItMay mX1_fadesAsItMay dX1_likeness_57 (gX1_fades hC hm hse hfi hye ee be ef bf) hC.1 rfl rfl rfl (Nat.le_of_ble_eq_true rfl) (by decide) (by decide) rfl ?_
        refine aw_if_ne 65 dX1_likeness_60 (by decide) (fun c60 => ?_) (fun c60 => ?_)
        · refine aw_bipush (10) dX1_likeness_65 (by decide) ?_
          refine aw_iload 0 dX1_likeness_67 rfl ?_
          refine aw_dS [.int v24] [.int 10] lX1_72 sJ6_bitCount_0f7a4 mJ6_bitCount_0f7a4 dX1_likeness_69 (J6_bitCount_g) rfl (Nat.le_of_ble_eq_true rfl) (by decide) (by decide) rfl ?_
          refine aw_imul dX1_likeness_72 ?_
          refine aw_iconst (2) dX1_likeness_73 (by decide) ?_
          refine aw_aload_n 2 dX1_likeness_74 rfl rfl ?_
          refine aw_get fX1_27 dX1_likeness_75 hC.1 rfl ?_
          refine aw_iload_n 3 dX1_likeness_78 rfl rfl ?_
          refine aw_iald e0 (ee) (by omega) (by decide) dX1_likeness_79 hC.2.2.2.2.2.2.1 ?_
          refine aw_aload_n 2 dX1_likeness_80 rfl rfl ?_
          refine aw_get fX1_27 dX1_likeness_81 hC.1 rfl ?_
          refine aw_iload_n 4 dX1_likeness_84 rfl rfl ?_
          refine aw_iald f0 (ef) (by omega) (by decide) dX1_likeness_85 hC.2.2.2.2.2.2.1 ?_
          refine aw_ixor dX1_likeness_86 ?_
          refine aw_dS [.int ((Sn e0) ^^^ (Sn f0))] [.int 2, .int (10 * (bcF v24))] lX1_72 sJ6_bitCount_0f7a4 mJ6_bitCount_0f7a4 dX1_likeness_87 (J6_bitCount_g) rfl (Nat.le_of_ble_eq_true rfl) (by decide) (by decide) rfl ?_
          refine aw_imul dX1_likeness_90 ?_
          refine aw_isub dX1_likeness_91 ?_
          refine aw_iload_n 1 dX1_likeness_92 rfl rfl ?_
          refine aw_isub dX1_likeness_93 ?_
          refine aw_top (fun v25 ev25 => ?_)
          refine aw_istore [(5, .int v25), (4, .int v24), (3, .int (apF Z e0 f0)), (0, .ref (G.1 + 1)), (1, .int e), (2, .int f)] dX1_likeness_94 (by decide) rfl ?_
          refine aw_aload_n 3 dX1_likeness_96 rfl rfl ?_
          refine aw_get fX1_33 dX1_likeness_97 hC.1 rfl ?_
          refine aw_iload_n 4 dX1_likeness_100 rfl rfl ?_
          refine aw_iald e0 (ee) (by omega) (by decide) dX1_likeness_101 hC.2.2.2.2.2.2.2.2.1 ?_
          refine aw_aload_n 3 dX1_likeness_102 rfl rfl ?_
          refine aw_get fX1_33 dX1_likeness_103 hC.1 rfl ?_
          refine aw_iload_n 5 dX1_likeness_106 rfl rfl ?_
          refine aw_iald f0 (ef) (by omega) (by decide) dX1_likeness_107 hC.2.2.2.2.2.2.2.2.1 ?_
          refine aw_icmp_ne 114 dX1_likeness_108 (by decide) (fun c108 => ?_) (fun c108 => ?_)
          · refine aw_iconst (1) dX1_likeness_114 (by decide) ?_
            refine aw_iload 0 dX1_likeness_115 rfl ?_
            refine aw_mmax lX1_77 dX1_likeness_117 (Nat.le_of_ble_eq_true rfl) (by decide) (by decide) ?_
            exact aw_iret rfl dX1_likeness_120 (by decide) (by decide) ⟨by subst_vars; simp [likeC, c37, c42, c51, c60, c108], rfl⟩
          · obtain ⟨v26, ev26⟩ : ∃ q : Int32, q = v25 + Int32.ofInt (7) := ⟨_, rfl⟩
            refine aw_iinc (j := 0) v26 [(5, .int v26), (4, .int v24), (3, .int (apF Z e0 f0)), (0, .ref (G.1 + 1)), (1, .int e), (2, .int f)] dX1_likeness_111 rfl ev26.symm (by decide) rfl ?_
            refine aw_iconst (1) dX1_likeness_114 (by decide) ?_
            refine aw_iload 0 dX1_likeness_115 rfl ?_
            refine aw_mmax lX1_77 dX1_likeness_117 (Nat.le_of_ble_eq_true rfl) (by decide) (by decide) ?_
            exact aw_iret rfl dX1_likeness_120 (by decide) (by decide) ⟨by subst_vars; simp [likeC, c37, c42, c51, c60, c108], rfl⟩
        · refine aw_iconst (0) dX1_likeness_63 (by decide) ?_
          exact aw_iret rfl dX1_likeness_64 (by decide) (by decide) ⟨by subst_vars; simp [likeC, c37, c42, c51, c60], rfl⟩
set_option maxHeartbeats 4000000 in
theorem gX1_tellBar {l : Launch} {G : xG} {h : List va_E} {e f : Int32} {e0 f0 : Nat} {m se ye fi : Nat → Nat} {W Sn Z Ro Co : Nat → Int32} {Ba : Nat → Int64} {nb sp fa : Nat} {ver : Int32} (hC : xCat G m se ye fi W Sn Z Ro Co Ba nb sp fa ver h) (hm : ∀ j, j < 20 → m j ≤ j) (hse : ∀ j, j < 20 → se j < 20) (hfi : ∀ j, j < 4 → fi j < 11) (hye : ∀ j, j < 4 → ye j < 1901) (ee : e = nI e0) (be : e0 < 40) (ef : f = nI f0) (bf : f0 < 40) : CE l G yX1_tellBar cX1_tellBar 3 none 0 0 0 [.ref (G.1 + 1), .int e, .int f] h none (fun h1 => ∃ ver1, xCat G m se ye fi W Sn Z Ro Co (vp_updL (vp_updL Ba e0 (Ba e0 ||| 1 <<< (f.toInt64 &&& 63))) f0 (vp_updL Ba e0 (Ba e0 ||| 1 <<< (f.toInt64 &&& 63)) f0 ||| 1 <<< (e.toInt64 &&& 63))) (nb + 1) sp fa ver1 h1 ∧ rng 1 11 h h1) := by
  refine cm_of rfl (Nat.le_of_ble_eq_true rfl) [(0, .ref (G.1 + 1)), (1, .int e), (2, .int f)] rfl ?_
  refine aw_aload_n 0 dX1_tellBar_0 rfl rfl ?_
  refine aw_get fX1_39 dX1_tellBar_1 hC.1 rfl ?_
  refine aw_iload_n 1 dX1_tellBar_4 rfl rfl ?_
  refine aw_dup2 dX1_tellBar_5 rfl rfl ?_
  refine aw_lald e0 (ee) (by omega) (by decide) dX1_tellBar_6 hC.2.2.2.2.2.2.2.2.2.2 ?_
  refine aw_lconst 1 dX1_tellBar_7 (by decide) ?_
  refine aw_iload_n 2 dX1_tellBar_8 rfl rfl ?_
  refine aw_lshl _ dX1_tellBar_9 rfl ?_
  refine aw_lor dX1_tellBar_10 ?_
  refine aw_last e0 (ee) (by omega) (by decide) dX1_tellBar_11 hC.2.2.2.2.2.2.2.2.2.2 ?_
  refine aw_aload_n 0 dX1_tellBar_12 rfl rfl ?_
  refine aw_get fX1_39 dX1_tellBar_13 (gn (by decide) (hC.1)) rfl ?_
  refine aw_iload_n 2 dX1_tellBar_16 rfl rfl ?_
  refine aw_dup2 dX1_tellBar_17 rfl rfl ?_
  refine aw_lald f0 (ef) (by omega) (by decide) dX1_tellBar_18 (gs hC.2.2.2.2.2.2.2.2.2.2) ?_
  refine aw_lconst 1 dX1_tellBar_19 (by decide) ?_
  refine aw_iload_n 1 dX1_tellBar_20 rfl rfl ?_
  refine aw_lshl _ dX1_tellBar_21 rfl ?_
  refine aw_lor dX1_tellBar_22 ?_
  refine aw_last f0 (ef) (by omega) (by decide) dX1_tellBar_23 (gs hC.2.2.2.2.2.2.2.2.2.2) ?_
  refine aw_aload_n 0 dX1_tellBar_24 rfl rfl ?_
  refine aw_dup dX1_tellBar_25 rfl ?_
  refine aw_get fX1_43 dX1_tellBar_26 (gn (by decide) (gn (by decide) (hC.1))) rfl ?_
  refine aw_iconst (1) dX1_tellBar_29 (by decide) ?_
  refine aw_iadd dX1_tellBar_30 ?_
  refine aw_toe (nI (nb + 1)) (nv_add (rfl) (rfl)) ?_
  refine aw_putQ fX1_43 dX1_tellBar_31 [.ref (G.1 + 2), .ref (G.1 + 3), .ref (G.1 + 4), .ref (G.1 + 5), .ref (G.1 + 6), .ref (G.1 + 7), .ref (G.1 + 8), .ref (G.1 + 9), .ref (G.1 + 10), .ref (G.1 + 11), .int (nI (nb + 1)), .int (nI sp), .int (nI fa), .int ver] (gn (by decide) (gn (by decide) (hC.1))) rfl rfl rfl (Nat.le_of_ble_eq_true rfl) rfl ?_
  refine aw_aload_n 0 dX1_tellBar_34 rfl rfl ?_
  refine aw_dup dX1_tellBar_35 rfl ?_
  refine aw_get fX1_53 dX1_tellBar_36 (gs (gn (by decide) (gn (by decide) (hC.1)))) rfl ?_
  refine aw_iconst (1) dX1_tellBar_39 (by decide) ?_
  refine aw_iadd dX1_tellBar_40 ?_
  refine aw_top (fun v27 ev27 => ?_)
  refine aw_putQ fX1_53 dX1_tellBar_41 [.ref (G.1 + 2), .ref (G.1 + 3), .ref (G.1 + 4), .ref (G.1 + 5), .ref (G.1 + 6), .ref (G.1 + 7), .ref (G.1 + 8), .ref (G.1 + 9), .ref (G.1 + 10), .ref (G.1 + 11), .int (nI (nb + 1)), .int (nI sp), .int (nI fa), .int v27] (gs (gn (by decide) (gn (by decide) (hC.1)))) rfl rfl rfl (Nat.le_of_ble_eq_true rfl) rfl ?_
  exact aw_vret rfl dX1_tellBar_44 (by decide) (by decide) ⟨rfl, v27, ⟨(gs (gs (gn (by decide) (gn (by decide) (hC.1))))), (gn (by decide) (gn (by decide) (gn (by decide) (gn (by decide) (hC.2.1))))), (gn (by decide) (gn (by decide) (gn (by decide) (gn (by decide) (hC.2.2.1))))), (gn (by decide) (gn (by decide) (gn (by decide) (gn (by decide) (hC.2.2.2.1))))), (gn (by decide) (gn (by decide) (gn (by decide) (gn (by decide) (hC.2.2.2.2.1))))), (gn (by decide) (gn (by decide) (gn (by decide) (gn (by decide) (hC.2.2.2.2.2.1))))), (gn (by decide) (gn (by decide) (gn (by decide) (gn (by decide) (hC.2.2.2.2.2.2.1))))), (gn (by decide) (gn (by decide) (gn (by decide) (gn (by decide) (hC.2.2.2.2.2.2.2.1))))), (gn (by decide) (gn (by decide) (gn (by decide) (gn (by decide) (hC.2.2.2.2.2.2.2.2.1))))), (gn (by decide) (gn (by decide) (gn (by decide) (gn (by decide) (hC.2.2.2.2.2.2.2.2.2.1))))), (gn (by decide) (gn (by decide) (gs (gs hC.2.2.2.2.2.2.2.2.2.2))))⟩, rng_set (rng_set (rng_set (rng_set (rng_rf 1 11 h) (by decide) (by decide)) (by decide) (by decide)) (by decide) (by decide)) (by decide) (by decide)⟩
