def xSn (G : xG) (h : List va_E) : Prop := h[125]? = some (.inr (7, [.ref (G.1 + 126), .ref (G.1 + 127), .ref (G.1 + 128), .ref (G.1 + 129), .ref (G.1 + 130), .ref (G.1 + 131), .ref (G.1 + 132), .ref (G.1 + 133), .ref (G.1 + 134), .int 0, .int 0, .int 0, .int 0, .int 0])) ∧ h[126]? = some (.inl (0, 8, .inl (fun _ => 0))) ∧ h[127]? = some (.inl (0, 12, .inl (fun _ => 0))) ∧ h[128]? = some (.inl (0, 64, .inl (fun _ => 0))) ∧ h[129]? = some (.inl (0, 64, .inl (fun _ => 0))) ∧ h[130]? = some (.inl (0, 8, .inl (fun _ => 0))) ∧ h[131]? = some (.inl (0, 8, .inl (fun _ => 0))) ∧ h[132]? = some (.inl (0, 8, .inl (fun _ => 0))) ∧ h[133]? = some (.inl (0, 2048, .inl (fun _ => 0))) ∧ h[134]? = some (.inl (0, 8, .inl (fun _ => 0)))
set_option maxHeartbeats 4000000 in
theorem X7_rebuild_o {l : Launch} {G : xG} {h : List va_E} {w : Int32} {st : Nat} (hN : xSn G h) (h79 : h[79]? = some (.inr (6, [.ref (G.1 + 80), .ref (G.1 + 81), .ref (G.1 + 82), .ref (G.1 + 83), .int 0]))) (ew : w = nI st) (bst : st < 4096) (hp : popN st ≤ 8) (s0 : st ≠ 0) : CE l G yX7_rebuild cX7_rebuild 4 none 4 0 0 [.ref (G.1 + 125), .int w, .ref (G.1 + 79)] h none (fun h1 => (∃ pF, xSh G (thF st 12) pF (tkF (thF st 12) (popN st)) (nI (popN st)) 0 0 w 0 h1) ∧ lo 125 h h1) := by
  refine cm_of rfl (Nat.le_of_ble_eq_true rfl) [(0, .ref (G.1 + 125)), (1, .int w), (2, .ref (G.1 + 79))] rfl ?_
  refine aw_iload_n 1 dX7_rebuild_0 rfl rfl ?_
  refine aw_aload_n 0 dX7_rebuild_1 rfl rfl ?_
  refine aw_get fX7_49 dX7_rebuild_2 hN.1 rfl ?_
  refine aw_icmp_ne 20 dX7_rebuild_5 (by decide) (fun c5 => ?_) (fun c5 => absurd c5 (fun q => s0 ((nI_eq (by omega) (by decide)).mp (ew.symm.trans q))))
  refine aw_aload_n 0 dX7_rebuild_20 rfl rfl ?_
  refine aw_iload_n 1 dX7_rebuild_21 rfl rfl ?_
  refine aw_putQ fX7_49 dX7_rebuild_22 [.ref (G.1 + 126), .ref (G.1 + 127), .ref (G.1 + 128), .ref (G.1 + 129), .ref (G.1 + 130), .ref (G.1 + 131), .ref (G.1 + 132), .ref (G.1 + 133), .ref (G.1 + 134), .int 0, .int 0, .int 0, .int w, .int 0] hN.1 rfl rfl rfl (Nat.le_of_ble_eq_true rfl) rfl ?_
  refine aw_aload_n 0 dX7_rebuild_25 rfl rfl ?_
  refine aw_aload_n 2 dX7_rebuild_26 rfl rfl ?_
  refine aw_get fX7_55 dX7_rebuild_27 (gn (by decide) (h79)) rfl ?_
  refine aw_putQ fX7_52 dX7_rebuild_30 [.ref (G.1 + 126), .ref (G.1 + 127), .ref (G.1 + 128), .ref (G.1 + 129), .ref (G.1 + 130), .ref (G.1 + 131), .ref (G.1 + 132), .ref (G.1 + 133), .ref (G.1 + 134), .int 0, .int 0, .int 0, .int w, .int 0] (gs hN.1) rfl rfl rfl (Nat.le_of_ble_eq_true rfl) rfl ?_
  refine aw_aload_n 0 dX7_rebuild_33 rfl rfl ?_
  refine aw_iload_n 1 dX7_rebuild_34 rfl rfl ?_
  refine aw_eW [.int w] [] lX7_60 vX7_readThings mX7_readThings dX7_rebuild_35 (X7_readThings_o ⟨(gs (gs hN.1)), (gn (by decide) (gn (by decide) (hN.2.1))), (gn (by decide) (gn (by decide) (hN.2.2.1))), (gn (by decide) (gn (by decide) (hN.2.2.2.1))), (gn (by decide) (gn (by decide) (hN.2.2.2.2.1))), (gn (by decide) (gn (by decide) (hN.2.2.2.2.2.1))), (gn (by decide) (gn (by decide) (hN.2.2.2.2.2.2.1))), (gn (by decide) (gn (by decide) (hN.2.2.2.2.2.2.2.1))), (gn (by decide) (gn (by decide) (hN.2.2.2.2.2.2.2.2.1))), (gn (by decide) (gn (by decide) (hN.2.2.2.2.2.2.2.2.2)))⟩ ew bst hp) (gs (gs hN.1)) rfl rfl rfl (Nat.le_of_ble_eq_true rfl) (by decide) (by decide) rfl (fun h1 q1 => ?_)
  obtain ⟨⟨pF, hS1⟩, hk1⟩ := q1
  refine aw_aload_n 0 dX7_rebuild_38 rfl rfl ?_
  refine aw_eW [] [] lX7_64 vX7_clearTrust mX7_clearTrust dX7_rebuild_39 (X7_clearTrust_o ⟨hS1.1, hS1.2.1, hS1.2.2.1, hS1.2.2.2.1, hS1.2.2.2.2.1, hS1.2.2.2.2.2.1, hS1.2.2.2.2.2.2.1, hS1.2.2.2.2.2.2.2.1, hS1.2.2.2.2.2.2.2.2.1, hS1.2.2.2.2.2.2.2.2.2⟩ rfl hp) hS1.1 rfl rfl rfl (Nat.le_of_ble_eq_true rfl) (by decide) (by decide) rfl (fun h2 q2 => ?_)
  refine aw_aload_n 0 dX7_rebuild_42 rfl rfl ?_
  refine aw_iconst (0) dX7_rebuild_43 (by decide) ?_
  refine aw_putQ fX7_43 dX7_rebuild_44 [.ref (G.1 + 126), .ref (G.1 + 127), .ref (G.1 + 128), .ref (G.1 + 129), .ref (G.1 + 130), .ref (G.1 + 131), .ref (G.1 + 132), .ref (G.1 + 133), .ref (G.1 + 134), .int (nI (popN st)), .int 0, .int 0, .int w, .int 0] q2.1.1 rfl rfl rfl (Nat.le_of_ble_eq_true rfl) rfl ?_
  refine aw_iconst (0) dX7_rebuild_47 (by decide) ?_
  refine aw_istore_n [(3, .int 0), (0, .ref (G.1 + 125)), (1, .int w), (2, .ref (G.1 + 79))] dX7_rebuild_48 rfl (by decide) rfl ?_
  refine aw_iload_n 0 dX7_rebuild_49 rfl rfl ?_
  refine aw_aload_n 3 dX7_rebuild_50 rfl rfl ?_
  refine aw_get fX7_55 dX7_rebuild_51 (gn (by decide) (((lo_tr (lo_tr (lo_set (lo_set (lo_rf 125 h) (by decide)) (by decide)) hk1 (by decide)) q2.2 (by decide)) 79 (by decide)).trans h79)) rfl ?_
  refine aw_icmp_ge 142 dX7_rebuild_54 (by decide) (fun c54 => ?_) (fun c54 => absurd (by decide) c54)
  refine aw_aload_n 1 dX7_rebuild_142 rfl rfl ?_
  refine aw_eW [] [] lX7_83 vX7_weighStates mX7_weighStates dX7_rebuild_143 (X7_weighStates_o ⟨(gs q2.1.1), (gn (by decide) (q2.1.2.1)), (gn (by decide) (q2.1.2.2.1)), (gn (by decide) (q2.1.2.2.2.1)), (gn (by decide) (q2.1.2.2.2.2.1)), (gn (by decide) (q2.1.2.2.2.2.2.1)), (gn (by decide) (q2.1.2.2.2.2.2.2.1)), (gn (by decide) (q2.1.2.2.2.2.2.2.2.1)), (gn (by decide) (q2.1.2.2.2.2.2.2.2.2.1)), (gn (by decide) (q2.1.2.2.2.2.2.2.2.2.2))⟩ rfl hp (by have := pop_pos bst s0; omega)) (gs q2.1.1) rfl rfl rfl (Nat.le_of_ble_eq_true rfl) (by decide) (by decide) rfl (fun h3 q3 => ?_)
  refine aw_aload_n 1 dX7_rebuild_146 rfl rfl ?_
  refine aw_eW [] [] lX7_86 vX7_tellRow mX7_tellRow dX7_rebuild_147 (X7_tellRow_o ⟨q3.1.1, q3.1.2.1, q3.1.2.2.1, q3.1.2.2.2.1, q3.1.2.2.2.2.1, q3.1.2.2.2.2.2.1, q3.1.2.2.2.2.2.2.1, q3.1.2.2.2.2.2.2.2.1, q3.1.2.2.2.2.2.2.2.2.1, q3.1.2.2.2.2.2.2.2.2.2⟩ rfl hp) q3.1.1 rfl rfl rfl (Nat.le_of_ble_eq_true rfl) (by decide) (by decide) rfl (fun h4 q4 => ?_)
  exact aw_vret rfl dX7_rebuild_150 (by decide) (by decide) ⟨rfl, ⟨pF, q4.1⟩, lo_tr (lo_tr (lo_set (lo_tr (lo_tr (lo_set (lo_set (lo_rf 125 h) (by decide)) (by decide)) hk1 (by decide)) q2.2 (by decide)) (by decide)) q3.2 (by decide)) q4.2 (by decide)⟩
set_option maxHeartbeats 4000000 in
theorem X8_bestRow_o {l : Launch} {G : xG} {h : List va_E} {w : Int32} {st : Nat} (hF : xF8 G h) (hl : h.length = 125) (ew : w = nI st) (bst : st < 4096) (hp : popN st ≤ 8) (s0 : st ≠ 0) : CE l G yX8_bestRow cX8_bestRow 2 (some (.object RX7)) 5 10 2242 [.ref (G.1 + 0), .int w] h (some (.ref (G.1 + 125))) (fun h1 => kp h h1 ∧ ∃ pF, xSh G (thF st 12) pF (tkF (thF st 12) (popN st)) (nI (popN st)) 0 0 w 0 h1) := by
  refine cm_of rfl (Nat.le_of_ble_eq_true rfl) [(0, .ref (G.1 + 0)), (1, .int w)] rfl ?_
  refine aw_aload_n 0 dX8_bestRow_0 rfl rfl ?_
  refine aw_get fX8_13 dX8_bestRow_1 hF.1 rfl ?_
  refine aw_nonnullN dX8_bestRow_4 ?_
  refine aw_aload_n 0 dX8_bestRow_7 rfl rfl ?_
  refine aw_newQ 125 nX8_216 dX8_bestRow_8 [.null, .null, .null, .null, .null, .null, .null, .null, .null, .int 0, .int 0, .int 0, .int 0, .int 0] (by decide) (by decide) (by decide) (by simp only [List.length_append, List.length_set, List.length_cons, List.length_nil, hl]) ?_
  refine aw_dup dX8_bestRow_11 rfl ?_
  refine aw_eN [] [.ref (G.1 + 125), .ref (G.1 + 0)] lX8_267 vX7_init mX7_init dX8_bestRow_12 (KX7_init (a := 125) (by simp only [List.length_append, List.length_set, List.length_cons, List.length_nil, hl]) (gp (by simp only [List.length_append, List.length_set, List.length_cons, List.length_nil, hl]))) rfl (Nat.le_of_ble_eq_true rfl) (by decide) (by decide) rfl (fun hi qi => ?_)
  obtain ⟨ql, g125, g126, g127, g128, g129, g130, g131, g132, g133, g134, qk⟩ := qi
  refine aw_putQ fX8_13 dX8_bestRow_15 [.ref (G.1 + 1), .ref (G.1 + 12), .ref (G.1 + 61), .ref (G.1 + 69), .ref (G.1 + 77), .ref (G.1 + 79), .ref (G.1 + 84), .ref (G.1 + 87), .null, .ref (G.1 + 125)] (lo_at qk (by decide) (ga (hF.1))) rfl rfl rfl (Nat.le_of_ble_eq_true rfl) rfl ?_
  refine aw_aload_n 0 dX8_bestRow_18 rfl rfl ?_
  refine aw_get fX8_13 dX8_bestRow_19 (gs (lo_at qk (by decide) (ga (hF.1)))) rfl ?_
  refine aw_iload_n 1 dX8_bestRow_22 rfl rfl ?_
  refine aw_aload_n 0 dX8_bestRow_23 rfl rfl ?_
  refine aw_get fX8_51 dX8_bestRow_24 (gs (lo_at qk (by decide) (ga (hF.1)))) rfl ?_
  refine aw_eW [.int w, .ref (G.1 + 79)] [] lX8_268 vX7_rebuild mX7_rebuild dX8_bestRow_27 (X7_rebuild_o ⟨(gn (by decide) (g125)), (gn (by decide) (g126)), (gn (by decide) (g127)), (gn (by decide) (g128)), (gn (by decide) (g129)), (gn (by decide) (g130)), (gn (by decide) (g131)), (gn (by decide) (g132)), (gn (by decide) (g133)), (gn (by decide) (g134))⟩ (gn (by decide) (lo_at qk (by decide) (ga (hF.2.2.2.2.2.2.2.2.2.2.2.2.2.2.2.2.2.2.2.2.2.2.2.2.2.2.2.2.2.2.2.1)))) ew bst hp s0) (gn (by decide) (g125)) rfl rfl rfl (Nat.le_of_ble_eq_true rfl) (by decide) (by decide) rfl (fun h5 q5 => ?_)
  obtain ⟨⟨pF, hQ⟩, hk5⟩ := q5
  refine aw_aload_n 0 dX8_bestRow_30 rfl rfl ?_
  refine aw_get fX8_13 dX8_bestRow_31 (lo_at hk5 (by decide) (gs (lo_at qk (by decide) (ga (hF.1))))) rfl ?_
  exact aw_aret rfl dX8_bestRow_34 (by decide) (by decide) ⟨rfl, (kp_tr (kp_set ((kp_tr (kp_app (kp_rf h) (by simp [hl] <;> omega)) (fun j _ j2 => qk j j2))) (by decide)) (fun j _ j2 => hk5 j j2)), pF, hQ⟩
set_option maxHeartbeats 4000000 in
theorem X8_sR_z {l : Launch} {G : xG} {h : List va_E} {w : Int32} (hw : w.toInt = 0) : CD l G yX8_shelfRefusal cX8_shelfRefusal 1 (some .int) 1 0 0 [.int w] h (some (.int (-1))) h := by
  refine cm_of rfl (Nat.le_of_ble_eq_true rfl) [(0, .int w)] rfl ?_
  refine aw_iload_n 0 dX8_shelfRefusal_0 rfl rfl ?_
  refine aw_if_eq 13 dX8_shelfRefusal_1 (by decide) (fun c1 => ?_) (fun c1 => absurd (by simp only [i_eq, (show (0 : Int32).toInt = 0 from rfl)] <;> omega) c1)
  refine aw_iconst (-1) dX8_shelfRefusal_13 (by decide) ?_
  exact aw_iret rfl dX8_shelfRefusal_14 (by decide) (by decide) ⟨rfl, rfl⟩
set_option maxHeartbeats 4000000 in
theorem X8_sR_f {l : Launch} {G : xG} {h : List va_E} {w : Int32} (hw : ¬ (0 ≤ w.toInt ∧ w.toInt < 4096)) : CD l G yX8_shelfRefusal cX8_shelfRefusal 1 (some .int) 1 0 0 [.int w] h (some (.int (-1))) h := by
  refine cm_of rfl (Nat.le_of_ble_eq_true rfl) [(0, .int w)] rfl ?_
  refine aw_iload_n 0 dX8_shelfRefusal_0 rfl rfl ?_
  refine aw_if_eq 13 dX8_shelfRefusal_1 (by decide) (fun c1 => absurd c1 (by simp only [i_eq, (show (0 : Int32).toInt = 0 from rfl)] <;> omega)) (fun c1 => ?_)
  refine aw_iload_n 0 dX8_shelfRefusal_4 rfl rfl ?_
  refine aw_bipush (12) dX8_shelfRefusal_5 (by decide) ?_
  refine aw_dS [.int w, .int 12] [] lX8_87 sX8_hasOtherBits mX8_hasOtherBits dX8_shelfRefusal_7 (X8_hasOtherBits12_t (by omega)) rfl (Nat.le_of_ble_eq_true rfl) (by decide) (by decide) rfl ?_
  refine aw_if_eq 15 dX8_shelfRefusal_10 (by decide) (fun c10 => absurd c10 (by decide)) (fun c10 => ?_)
  refine aw_iconst (-1) dX8_shelfRefusal_13 (by decide) ?_
  exact aw_iret rfl dX8_shelfRefusal_14 (by decide) (by decide) ⟨rfl, rfl⟩
set_option maxHeartbeats 4000000 in
theorem X8_sR_b {l : Launch} {G : xG} {h : List va_E} {w : Int32} (hw : 0 ≤ w.toInt ∧ w.toInt < 4096) (h0 : w.toInt ≠ 0) (hp : 8 < popN w.toInt.toNat) : CD l G yX8_shelfRefusal cX8_shelfRefusal 1 (some .int) 1 0 0 [.int w] h (some (.int (-6))) h := by
  refine cm_of rfl (Nat.le_of_ble_eq_true rfl) [(0, .int w)] rfl ?_
  obtain ⟨w0, bw, ew⟩ := i_nat (N := 4096) hw.1 hw.2
  have tw : w.toInt = (w0 : Int) := i_toNat ew (by omega)
  have w00 : w.toInt.toNat = w0 := by omega
  rw [w00] at hp
  have hp12 := popN_le w0
  refine aw_iload_n 0 dX8_shelfRefusal_0 rfl rfl ?_
  refine aw_if_eq 13 dX8_shelfRefusal_1 (by decide) (fun c1 => absurd c1 (by simp only [i_eq, (i_toNat (ew) (by omega)), (show (0 : Int32).toInt = 0 from rfl)] <;> omega)) (fun c1 => ?_)
  refine aw_iload_n 0 dX8_shelfRefusal_4 rfl rfl ?_
  refine aw_bipush (12) dX8_shelfRefusal_5 (by decide) ?_
  refine aw_dS [.int w, .int 12] [] lX8_87 sX8_hasOtherBits mX8_hasOtherBits dX8_shelfRefusal_7 (X8_hasOtherBits12_f (by omega)) rfl (Nat.le_of_ble_eq_true rfl) (by decide) (by decide) rfl ?_
  refine aw_if_eq 15 dX8_shelfRefusal_10 (by decide) (fun c10 => ?_) (fun c10 => absurd (by decide) c10)
  refine aw_iload_n 0 dX8_shelfRefusal_15 rfl rfl ?_
  refine aw_dS [.int w] [] lX8_246 sJ6_bitCount_0f7a4 mJ6_bitCount_0f7a4 dX8_shelfRefusal_16 (J6_bitCount_n (x := w0) ew (by omega)) rfl (Nat.le_of_ble_eq_true rfl) (by decide) (by decide) rfl ?_
  refine aw_bipush (8) dX8_shelfRefusal_19 (by decide) ?_
  refine aw_icmp_le 29 dX8_shelfRefusal_21 (by decide) (fun c21 => absurd c21 (by simp only [i_le, (nI_toInt (n := popN w0) (by omega)), (show (8 : Int32).toInt = 8 from rfl)] <;> omega)) (fun c21 => ?_)
  refine aw_bipush (-6) dX8_shelfRefusal_24 (by decide) ?_
  refine aw_goto 30 dX8_shelfRefusal_26 (by decide) ?_
  exact aw_iret rfl dX8_shelfRefusal_30 (by decide) (by decide) ⟨rfl, rfl⟩
set_option maxHeartbeats 4000000 in
theorem X8_sR_o {l : Launch} {G : xG} {h : List va_E} {w : Int32} (hw : 0 ≤ w.toInt ∧ w.toInt < 4096) (h0 : w.toInt ≠ 0) (hp : popN w.toInt.toNat ≤ 8) : CD l G yX8_shelfRefusal cX8_shelfRefusal 1 (some .int) 1 0 0 [.int w] h (some (.int 0)) h := by
  refine cm_of rfl (Nat.le_of_ble_eq_true rfl) [(0, .int w)] rfl ?_
  obtain ⟨w0, bw, ew⟩ := i_nat (N := 4096) hw.1 hw.2
  have tw : w.toInt = (w0 : Int) := i_toNat ew (by omega)
  have w00 : w.toInt.toNat = w0 := by omega
  rw [w00] at hp
  have hp12 := popN_le w0
  refine aw_iload_n 0 dX8_shelfRefusal_0 rfl rfl ?_
  refine aw_if_eq 13 dX8_shelfRefusal_1 (by decide) (fun c1 => absurd c1 (by simp only [i_eq, (i_toNat (ew) (by omega)), (show (0 : Int32).toInt = 0 from rfl)] <;> omega)) (fun c1 => ?_)
  refine aw_iload_n 0 dX8_shelfRefusal_4 rfl rfl ?_
  refine aw_bipush (12) dX8_shelfRefusal_5 (by decide) ?_
  refine aw_dS [.int w, .int 12] [] lX8_87 sX8_hasOtherBits mX8_hasOtherBits dX8_shelfRefusal_7 (X8_hasOtherBits12_f (by omega)) rfl (Nat.le_of_ble_eq_true rfl) (by decide) (by decide) rfl ?_
  refine aw_if_eq 15 dX8_shelfRefusal_10 (by decide) (fun c10 => ?_) (fun c10 => absurd (by decide) c10)
  refine aw_iload_n 0 dX8_shelfRefusal_15 rfl rfl ?_
  refine aw_dS [.int w] [] lX8_246 sJ6_bitCount_0f7a4 mJ6_bitCount_0f7a4 dX8_shelfRefusal_16 (J6_bitCount_n (x := w0) ew (by omega)) rfl (Nat.le_of_ble_eq_true rfl) (by decide) (by decide) rfl ?_
  refine aw_bipush (8) dX8_shelfRefusal_19 (by decide) ?_
  refine aw_icmp_le 29 dX8_shelfRefusal_21 (by decide) (fun c21 => ?_) (fun c21 => absurd (by simp only [i_le, (nI_toInt (n := popN w0) (by omega)), (show (8 : Int32).toInt = 8 from rfl)] <;> omega) c21)
  refine aw_iconst (0) dX8_shelfRefusal_29 (by decide) ?_
  exact aw_iret rfl dX8_shelfRefusal_30 (by decide) (by decide) ⟨rfl, rfl⟩
