set_option maxHeartbeats 4000000 in
theorem X8_bestJoining_o {l : Launch} {G : xG} {h : List va_E} {a0 b0 : Nat} {a b : Int32} (hF : xF8 G h) (hl : h.length = 125) (ea : a = nI a0) (ba : a0 < 4) (eb : b = nI b0) (bb : b0 < 4) : CE l G yX8_bestJoining cX8_bestJoining 4 (some (.object RX4)) 4 6 13430 [.ref (G.1 + 0), .int a, .int b] h (some (.ref (G.1 + (13 + 3 * (a0 * 4 + b0))))) (fun h1 => kp h h1 ∧ h1[13 + 3 * (a0 * 4 + b0)]? = some (.inr (4, [.ref (G.1 + (14 + 3 * (a0 * 4 + b0))), .ref (G.1 + (15 + 3 * (a0 * 4 + b0))), .int 0, .int 1, .int 1]))) := by
  refine cm_of rfl (Nat.le_of_ble_eq_true rfl) [(0, .ref (G.1 + 0)), (1, .int a), (2, .int b)] rfl ?_
  have hT0 : a0 * 4 + b0 < 16 → xjF G h (a0 * 4 + b0) := fun q => hF.2.2.2.2.2.2.2.2.2.2.2.2.2.2.2.2.2.2.2.2.2.2.2.2.2.2.2.2.2.2.2.2.2.2.2.2.2.2.2.2 (a0 * 4 + b0) q
  refine aw_aload_n 0 dX8_bestJoining_0 rfl rfl ?_
  refine aw_get fX8_26 dX8_bestJoining_1 hF.1 rfl ?_
  refine aw_iload_n 1 dX8_bestJoining_4 rfl rfl ?_
  refine aw_iconst (4) dX8_bestJoining_5 (by decide) ?_
  refine aw_imul dX8_bestJoining_6 ?_
  refine aw_iload_n 2 dX8_bestJoining_7 rfl rfl ?_
  refine aw_iadd dX8_bestJoining_8 ?_
  refine aw_aald ((a0 * 4) + b0) (nv_add (nv_mul (ea) (rfl)) (eb)) (by omega) (by decide) dX8_bestJoining_9 hF.2.2.2.2.2.2.2.2.2.2.2.2.1 ?_
  rw [show va_rf (xjo G.1 16 (a0 * 4 + b0)) = .ref (G.1 + (13 + 3 * (a0 * 4 + b0))) from by rw [xjo_at (by omega)]; rfl]
  refine aw_astore_n [(3, .ref (G.1 + (13 + 3 * (a0 * 4 + b0)))), (0, .ref (G.1 + 0)), (1, .int a), (2, .int b)] dX8_bestJoining_10 rfl (by decide) rfl ?_
  refine aw_aload_n 0 dX8_bestJoining_11 rfl rfl ?_
  refine aw_get fX8_256 dX8_bestJoining_12 ((hT0 (by omega)).1) rfl ?_
  refine aw_aload_n 1 dX8_bestJoining_15 rfl rfl ?_
  refine aw_get fX8_20 dX8_bestJoining_16 hF.1 rfl ?_
  refine aw_get fX8_259 dX8_bestJoining_19 hF.2.1 rfl ?_
  refine aw_icmp_eq 68 dX8_bestJoining_22 (by decide) (fun c22 => absurd c22 (by decide)) (fun c22 => ?_)
  refine aw_aload_n 1 dX8_bestJoining_25 rfl rfl ?_
  refine aw_get fX8_9 dX8_bestJoining_26 hF.1 rfl ?_
  refine aw_nonnullN dX8_bestJoining_29 ?_
  refine aw_aload_n 1 dX8_bestJoining_32 rfl rfl ?_
  refine aw_newQ 125 nX8_260 dX8_bestJoining_33 [.null, .null, .null, .null, .null, .int 0, .int 0] (by decide) (by decide) (by decide) (by simp only [List.length_append, List.length_set, List.length_cons, List.length_nil, hl]) ?_
  refine aw_dup dX8_bestJoining_36 rfl ?_
  refine aw_eN [] [.ref (G.1 + 125), .ref (G.1 + 0)] lX8_262 vX3_init mX3_init dX8_bestJoining_37 (KX3_init (a := 125) (by simp only [List.length_append, List.length_set, List.length_cons, List.length_nil, hl]) (gp (by simp only [List.length_append, List.length_set, List.length_cons, List.length_nil, hl]))) rfl (Nat.le_of_ble_eq_true rfl) (by decide) (by decide) rfl (fun h9 q10 => ?_)
  obtain ⟨ql, qa, q1, q2, q3, q4, q5, qk⟩ := q10
  refine aw_putQ fX8_9 dX8_bestJoining_40 [.ref (G.1 + 1), .ref (G.1 + 12), .ref (G.1 + 61), .ref (G.1 + 69), .ref (G.1 + 77), .ref (G.1 + 79), .ref (G.1 + 84), .ref (G.1 + 87), .ref (G.1 + 125), .null] (lo_at qk (by decide) (ga (hF.1))) rfl rfl rfl (Nat.le_of_ble_eq_true rfl) rfl ?_
  refine aw_aload_n 1 dX8_bestJoining_43 rfl rfl ?_
  refine aw_get fX8_9 dX8_bestJoining_44 (gs (lo_at qk (by decide) (ga (hF.1)))) rfl ?_
  refine aw_aload_n 1 dX8_bestJoining_47 rfl rfl ?_
  refine aw_get fX8_20 dX8_bestJoining_48 (gs (lo_at qk (by decide) (ga (hF.1)))) rfl ?_
  refine aw_iload_n 2 dX8_bestJoining_51 rfl rfl ?_
  refine aw_iload_n 3 dX8_bestJoining_52 rfl rfl ?_
  refine aw_aload_n 0 dX8_bestJoining_53 rfl rfl ?_
  refine aw_eW [.ref (G.1 + 1), .int a, .int b, .ref (G.1 + (13 + 3 * (a0 * 4 + b0)))] [] lX8_263 vX3_solve mX3_solve dX8_bestJoining_54 (X3_solve_o (T := 13 + 3 * (a0 * 4 + b0)) (T1 := 14 + 3 * (a0 * 4 + b0)) (T2 := 15 + 3 * (a0 * 4 + b0)) ⟨(gn (by decide) (qa)), (gn (by decide) (q1)), (gn (by decide) (q2)), (gn (by decide) (q3)), (gn (by decide) (q4)), (gn (by decide) (q5))⟩ (gn (by omega) (lo_at qk (by omega) (ga ((hT0 (by omega)).1)))) (by omega) (gn (by decide) (lo_at qk (by decide) (ga (hF.2.1)))) (gn (by decide) (lo_at qk (by decide) (ga (hF.2.2.2.2.2.1)))) ea (by omega) eb (by omega) (by omega) (by omega)) (gn (by decide) (qa)) rfl rfl rfl (Nat.le_of_ble_eq_true rfl) (by decide) (by decide) rfl (fun h11 q12 => ?_)
  refine aw_aload_n 0 dX8_bestJoining_57 rfl rfl ?_
  refine aw_aload_n 1 dX8_bestJoining_58 rfl rfl ?_
  refine aw_get fX8_20 dX8_bestJoining_59 ((q12.2.2 0 (by decide) (by omega)).trans (gs (lo_at qk (by decide) (ga (hF.1))))) rfl ?_
  refine aw_get fX8_259 dX8_bestJoining_62 ((q12.2.2 1 (by decide) (by omega)).trans (gn (by decide) (lo_at qk (by decide) (ga (hF.2.1))))) rfl ?_
  refine aw_putQ fX8_256 dX8_bestJoining_65 [.ref (G.1 + (14 + 3 * (a0 * 4 + b0))), .ref (G.1 + (15 + 3 * (a0 * 4 + b0))), .int 0, .int 1, .int 1] q12.2.1 rfl rfl rfl (Nat.le_of_ble_eq_true rfl) rfl ?_
  refine aw_aload_n 0 dX8_bestJoining_68 rfl rfl ?_
  exact aw_aret rfl dX8_bestJoining_69 (by decide) (by decide) ⟨rfl, kp_set ((kp_tr (kp_set ((kp_tr (kp_app (kp_rf h) (by simp [hl] <;> omega)) (fun j _ j2 => qk j j2))) (by decide)) (fun j j1 j2 => q12.2.2 j j2 (by omega)))) (by omega), (gs q12.2.1)⟩
set_option maxHeartbeats 4000000 in
theorem A7t {l : Launch} {G : xG} {h : List va_E} {a b : Int32} (hF : xF8 G h) (hl : h.length = 125) (ha : 0 ≤ a.toInt ∧ a.toInt < 4) (hb : 0 ≤ b.toInt ∧ b.toInt < 4) (hab : a.toInt ≠ b.toInt) : CE l G yX8_join cX8_join 3 (some .int) 5 6 13430 [.ref (G.1 + 0), .int a, .int b] h (some (.int 0)) (kp h) := by
  refine cm_of rfl (Nat.le_of_ble_eq_true rfl) [(0, .ref (G.1 + 0)), (1, .int a), (2, .int b)] rfl ?_
  obtain ⟨a0, ba, ea⟩ := i_nat (N := 4) ha.1 ha.2
  have ta : a.toInt = (a0 : Int) := i_toNat ea (by omega)
  obtain ⟨b0, bb, eb⟩ := i_nat (N := 4) hb.1 hb.2
  have tb : b.toInt = (b0 : Int) := i_toNat eb (by omega)
  refine aw_iload_n 1 dX8_join_0 rfl rfl ?_
  refine aw_iload_n 2 dX8_join_1 rfl rfl ?_
  refine aw_dS [.int a, .int b] [] lX8_104 sX8_areTwo mX8_areTwo dX8_join_2 (X8_areTwo_t (by omega) (by omega) (by omega)) rfl (Nat.le_of_ble_eq_true rfl) (by decide) (by decide) rfl ?_
  refine aw_if_ne 14 dX8_join_5 (by decide) (fun c5 => ?_) (fun c5 => absurd c5 (by decide))
  refine aw_aload_n 0 dX8_join_14 rfl rfl ?_
  refine aw_iload_n 1 dX8_join_15 rfl rfl ?_
  refine aw_iload_n 2 dX8_join_16 rfl rfl ?_
  refine aw_eV [.int a, .int b] [] lX8_124 vX8_bestJoining mX8_bestJoining dX8_join_17 (X8_bestJoining_o hF hl ea ba eb bb) hF.1 rfl rfl rfl (Nat.le_of_ble_eq_true rfl) (by decide) (by decide) rfl (fun h13 q14 => ?_)
  refine aw_get fX8_128 dX8_join_20 q14.2 rfl ?_
  exact aw_iret rfl dX8_join_23 (by decide) (by decide) ⟨rfl, (kp_tr (kp_rf h) q14.1)⟩
set_option maxHeartbeats 4000000 in
theorem A7f {l : Launch} {G : xG} {h : List va_E} {a b : Int32} (hF : xF8 G h) (hab : ¬ ((0 ≤ a.toInt ∧ a.toInt < 4) ∧ (0 ≤ b.toInt ∧ b.toInt < 4) ∧ a.toInt ≠ b.toInt)) : CE l G yX8_join cX8_join 3 (some .int) 5 6 13430 [.ref (G.1 + 0), .int a, .int b] h (some (.int (-1))) (kp h) := by
  refine cm_of rfl (Nat.le_of_ble_eq_true rfl) [(0, .ref (G.1 + 0)), (1, .int a), (2, .int b)] rfl ?_
  refine aw_iload_n 1 dX8_join_0 rfl rfl ?_
  refine aw_iload_n 2 dX8_join_1 rfl rfl ?_
  refine aw_dS [.int a, .int b] [] lX8_104 sX8_areTwo mX8_areTwo dX8_join_2 (X8_areTwo_f (by omega)) rfl (Nat.le_of_ble_eq_true rfl) (by decide) (by decide) rfl ?_
  refine aw_if_ne 14 dX8_join_5 (by decide) (fun c5 => absurd (by decide) c5) (fun c5 => ?_)
  refine aw_aload_n 0 dX8_join_8 rfl rfl ?_
  refine aw_iconst (-1) dX8_join_9 (by decide) ?_
  refine aw_eV [.int (-1)] [] lX8_70 vX8_refuse mX8_refuse dX8_join_10 (X8_refuse1 hF) hF.1 rfl rfl rfl (Nat.le_of_ble_eq_true rfl) (by decide) (by decide) rfl (fun h15 q16 => ?_)
  exact aw_iret rfl dX8_join_13 (by decide) (by decide) ⟨rfl, (kp_tr (kp_rf h) q16)⟩
set_option maxHeartbeats 4000000 in
theorem A9t {l : Launch} {G : xG} {h : List va_E} {a b : Int32} (hF : xF8 G h) (hl : h.length = 125) (ha : 0 ≤ a.toInt ∧ a.toInt < 4) (hb : 0 ≤ b.toInt ∧ b.toInt < 4) (hab : a.toInt ≠ b.toInt) : CE l G yX8_bests cX8_bests 3 (some .int) 5 6 13430 [.ref (G.1 + 0), .int a, .int b] h (some (.int 1)) (kp h) := by
  refine cm_of rfl (Nat.le_of_ble_eq_true rfl) [(0, .ref (G.1 + 0)), (1, .int a), (2, .int b)] rfl ?_
  obtain ⟨a0, ba, ea⟩ := i_nat (N := 4) ha.1 ha.2
  have ta : a.toInt = (a0 : Int) := i_toNat ea (by omega)
  obtain ⟨b0, bb, eb⟩ := i_nat (N := 4) hb.1 hb.2
  have tb : b.toInt = (b0 : Int) := i_toNat eb (by omega)
  refine aw_iload_n 1 dX8_bests_0 rfl rfl ?_
  refine aw_iload_n 2 dX8_bests_1 rfl rfl ?_
  refine aw_dS [.int a, .int b] [] lX8_104 sX8_areTwo mX8_areTwo dX8_bests_2 (X8_areTwo_t (by omega) (by omega) (by omega)) rfl (Nat.le_of_ble_eq_true rfl) (by decide) (by decide) rfl ?_
  refine aw_if_ne 14 dX8_bests_5 (by decide) (fun c5 => ?_) (fun c5 => absurd c5 (by decide))
  refine aw_aload_n 0 dX8_bests_14 rfl rfl ?_
  refine aw_iload_n 1 dX8_bests_15 rfl rfl ?_
  refine aw_iload_n 2 dX8_bests_16 rfl rfl ?_
  refine aw_eV [.int a, .int b] [] lX8_124 vX8_bestJoining mX8_bestJoining dX8_bests_17 (X8_bestJoining_o hF hl ea ba eb bb) hF.1 rfl rfl rfl (Nat.le_of_ble_eq_true rfl) (by decide) (by decide) rfl (fun h17 q18 => ?_)
  refine aw_get fX8_134 dX8_bests_20 q18.2 rfl ?_
  exact aw_iret rfl dX8_bests_23 (by decide) (by decide) ⟨rfl, (kp_tr (kp_rf h) q18.1)⟩
set_option maxHeartbeats 4000000 in
theorem A9f {l : Launch} {G : xG} {h : List va_E} {a b : Int32} (hF : xF8 G h) (hab : ¬ ((0 ≤ a.toInt ∧ a.toInt < 4) ∧ (0 ≤ b.toInt ∧ b.toInt < 4) ∧ a.toInt ≠ b.toInt)) : CE l G yX8_bests cX8_bests 3 (some .int) 5 6 13430 [.ref (G.1 + 0), .int a, .int b] h (some (.int (-1))) (kp h) := by
  refine cm_of rfl (Nat.le_of_ble_eq_true rfl) [(0, .ref (G.1 + 0)), (1, .int a), (2, .int b)] rfl ?_
  refine aw_iload_n 1 dX8_bests_0 rfl rfl ?_
  refine aw_iload_n 2 dX8_bests_1 rfl rfl ?_
  refine aw_dS [.int a, .int b] [] lX8_104 sX8_areTwo mX8_areTwo dX8_bests_2 (X8_areTwo_f (by omega)) rfl (Nat.le_of_ble_eq_true rfl) (by decide) (by decide) rfl ?_
  refine aw_if_ne 14 dX8_bests_5 (by decide) (fun c5 => absurd (by decide) c5) (fun c5 => ?_)
  refine aw_aload_n 0 dX8_bests_8 rfl rfl ?_
  refine aw_iconst (-1) dX8_bests_9 (by decide) ?_
  refine aw_eV [.int (-1)] [] lX8_70 vX8_refuse mX8_refuse dX8_bests_10 (X8_refuse1 hF) hF.1 rfl rfl rfl (Nat.le_of_ble_eq_true rfl) (by decide) (by decide) rfl (fun h19 q20 => ?_)
  exact aw_iret rfl dX8_bests_13 (by decide) (by decide) ⟨rfl, (kp_tr (kp_rf h) q20)⟩
set_option maxHeartbeats 4000000 in
theorem X9_at_0 {l : Launch} {G : xG} {h : List va_E}  : CD l G yX9_at cX9_at 2 (some .int) 0 0 0 [.int 0, .int 0] h (some (.int 0)) h := by
  refine cm_of rfl (Nat.le_of_ble_eq_true rfl) [(0, .int 0), (1, .int 0)] rfl ?_
  refine aw_iload_n 0 dX9_at_0 rfl rfl ?_
  refine aw_bipush (10) dX9_at_1 (by decide) ?_
  refine aw_ishl dX9_at_3 ?_
  refine aw_toe 0 (by decide) ?_
  refine aw_iload_n 1 dX9_at_4 rfl rfl ?_
  refine aw_iadd dX9_at_5 ?_
  refine aw_toe 0 (by decide) ?_
  exact aw_iret rfl dX9_at_6 (by decide) (by decide) ⟨rfl, rfl⟩
set_option maxHeartbeats 4000000 in
theorem X9_measure_o {l : Launch} {G : xG} {h : List va_E} {a b : Int32} (hM : xF9 G h) (ha : 0 ≤ a.toInt ∧ a.toInt < 4) (hb : 0 ≤ b.toInt ∧ b.toInt < 4) : CD l G yX9_measure cX9_measure 5 none 0 0 0 [.ref (G.1 + 88), .int a, .int b] h none h := by
  refine cm_of rfl (Nat.le_of_ble_eq_true rfl) [(0, .ref (G.1 + 88)), (1, .int a), (2, .int b)] rfl ?_
  obtain ⟨a0, ba, ea⟩ := i_nat (N := 4) ha.1 ha.2
  have ta : a.toInt = (a0 : Int) := i_toNat ea (by omega)
  obtain ⟨b0, bb, eb⟩ := i_nat (N := 4) hb.1 hb.2
  have tb : b.toInt = (b0 : Int) := i_toNat eb (by omega)
  refine aw_iconst (0) dX9_measure_0 (by decide) ?_
  refine aw_istore_n [(3, .int 0), (0, .ref (G.1 + 88)), (1, .int a), (2, .int b)] dX9_measure_1 rfl (by decide) rfl ?_
  refine aw_iload_n 0 dX9_measure_2 rfl rfl ?_
  refine aw_aload_n 1 dX9_measure_3 rfl rfl ?_
  refine aw_get fX9_19 dX9_measure_4 hM.1 rfl ?_
  refine aw_iload_n 2 dX9_measure_7 rfl rfl ?_
  refine aw_iald a0 (ea) (by omega) (by decide) dX9_measure_8 hM.2.2.2.2.1 ?_
  refine aw_toe 0 (rfl) ?_
  refine aw_icmp_ge 59 dX9_measure_9 (by decide) (fun c9 => ?_) (fun c9 => absurd (by decide) c9)
  exact aw_vret rfl dX9_measure_59 (by decide) (by decide) ⟨rfl, rfl⟩
set_option maxHeartbeats 4000000 in
theorem X9_finds_o {l : Launch} {G : xG} {h : List va_E} (hM : xF9 G h) : CE l G yX9_finds cX9_finds 11 (some .int) 1 0 0 [.ref (G.1 + 88), .int 0, .int 0] h (some (.int 0)) (fun h1 => h1[102]? = some (.inl (0, 11264, .inl (upd (fun _ => 0) 0 1))) ∧ ∀ j, j ≠ 102 → j ≠ 100 → h1[j]? = h[j]?) := by
  refine cm_of rfl (Nat.le_of_ble_eq_true rfl) [(0, .ref (G.1 + 88)), (1, .int 0), (2, .int 0)] rfl ?_
  refine aw_iconst (1) dX9_finds_0 (by decide) ?_
  refine aw_iload_n 2 dX9_finds_1 rfl rfl ?_
  refine aw_ishl dX9_finds_2 ?_
  refine aw_toe 1 (by decide) ?_
  refine aw_istore_n [(3, .int 1), (0, .ref (G.1 + 88)), (1, .int 0), (2, .int 0)] dX9_finds_3 rfl (by decide) rfl ?_
  refine aw_iconst (0) dX9_finds_4 (by decide) ?_
  refine aw_istore [(4, .int 0), (3, .int 1), (0, .ref (G.1 + 88)), (1, .int 0), (2, .int 0)] dX9_finds_5 (by decide) rfl ?_
  refine aw_iload 0 dX9_finds_7 rfl ?_
  refine aw_iload_n 1 dX9_finds_9 rfl rfl ?_
  refine aw_icmp_ge 43 dX9_finds_10 (by decide) (fun c10 => absurd c10 (by decide)) (fun c10 => ?_)
  refine aw_aload_n 2 dX9_finds_13 rfl rfl ?_
  refine aw_get fX9_50 dX9_finds_14 hM.1 rfl ?_
  refine aw_iload_n 3 dX9_finds_17 rfl rfl ?_
  refine aw_iload 0 dX9_finds_18 rfl ?_
  refine aw_dS [.int 0, .int 0] [.ref (G.1 + 100)] lX9_170 sX9_at mX9_at dX9_finds_20 (X9_at_0) rfl (Nat.le_of_ble_eq_true rfl) (by decide) (by decide) rfl ?_
  refine aw_iconst (0) dX9_finds_23 (by decide) ?_
  refine aw_iast 0 (rfl) (by decide) (by decide) dX9_finds_24 hM.2.2.2.2.2.2.2.2.2.2.2.2.1 ?_
  rw [up00]
  refine aw_aload_n 2 dX9_finds_25 rfl rfl ?_
  refine aw_get fX9_56 dX9_finds_26 (gn (by decide) (hM.1)) rfl ?_
  refine aw_iload_n 3 dX9_finds_29 rfl rfl ?_
  refine aw_iload 0 dX9_finds_30 rfl ?_
  refine aw_dS [.int 0, .int 0] [.ref (G.1 + 102)] lX9_170 sX9_at mX9_at dX9_finds_32 (X9_at_0) rfl (Nat.le_of_ble_eq_true rfl) (by decide) (by decide) rfl ?_
  refine aw_iconst (1) dX9_finds_35 (by decide) ?_
  refine aw_iast 0 (rfl) (by decide) (by decide) dX9_finds_36 (gn (by decide) (hM.2.2.2.2.2.2.2.2.2.2.2.2.2.2.1)) ?_
  refine aw_iinc (j := 0) (1) [(4, .int 1), (3, .int 1), (0, .ref (G.1 + 88)), (1, .int 0), (2, .int 0)] dX9_finds_37 rfl (by decide) (by decide) rfl ?_
  refine aw_goto 7 dX9_finds_40 (by decide) ?_
  refine aw_iload 0 dX9_finds_7 rfl ?_
  refine aw_iload_n 1 dX9_finds_9 rfl rfl ?_
  refine aw_icmp_ge 43 dX9_finds_10 (by decide) (fun c10 => ?_) (fun c10 => absurd (by decide) c10)
  refine aw_iload_n 3 dX9_finds_43 rfl rfl ?_
  refine aw_iconst (1) dX9_finds_44 (by decide) ?_
  refine aw_isub dX9_finds_45 ?_
  refine aw_toe (-1) (by decide) ?_
  refine aw_istore [(4, .int (-1)), (3, .int 1), (0, .ref (G.1 + 88)), (1, .int 0), (2, .int 0)] dX9_finds_46 (by decide) rfl ?_
  refine aw_iload 0 dX9_finds_48 rfl ?_
  refine aw_if_lt 262 dX9_finds_50 (by decide) (fun c50 => ?_) (fun c50 => absurd (by decide) c50)
  refine aw_aload_n 2 dX9_finds_262 rfl rfl ?_
  refine aw_get fX9_50 dX9_finds_263 (gn (by decide) (gn (by decide) (hM.1))) rfl ?_
  refine aw_iconst (0) dX9_finds_266 (by decide) ?_
  refine aw_iald 0 (rfl) (by decide) (by decide) dX9_finds_267 (gn (by decide) (gs hM.2.2.2.2.2.2.2.2.2.2.2.2.1)) ?_
  refine aw_toe 0 (rfl) ?_
  refine aw_iret rfl dX9_finds_268 (by decide) (by decide) ⟨rfl, (gs (gn (by decide) (hM.2.2.2.2.2.2.2.2.2.2.2.2.2.2.1))), fun j j1 j2 => ?_⟩
  rw [List.getElem?_set_ne (Ne.symm j1), List.getElem?_set_ne (Ne.symm j2)]
set_option maxHeartbeats 4000000 in
theorem X9_joins_o {l : Launch} {G : xG} {h : List va_E} {a b : Int32} (hM : xF9 G h) (ha : 0 ≤ a.toInt ∧ a.toInt < 4) (hb : 0 ≤ b.toInt ∧ b.toInt < 4) : CE l G yX9_joins cX9_joins 8 (some .int) 2 0 0 [.ref (G.1 + 88), .int a, .int b] h (some (.int 0)) (fun h1 => h1[102]? = some (.inl (0, 11264, .inl (upd (fun _ => 0) 0 1))) ∧ ∀ j, j ≠ 102 → j ≠ 100 → h1[j]? = h[j]?) := by
  refine cm_of rfl (Nat.le_of_ble_eq_true rfl) [(0, .ref (G.1 + 88)), (1, .int a), (2, .int b)] rfl ?_
  obtain ⟨a0, ba, ea⟩ := i_nat (N := 4) ha.1 ha.2
  have ta : a.toInt = (a0 : Int) := i_toNat ea (by omega)
  obtain ⟨b0, bb, eb⟩ := i_nat (N := 4) hb.1 hb.2
  have tb : b.toInt = (b0 : Int) := i_toNat eb (by omega)
  refine aw_aload_n 0 dX9_joins_0 rfl rfl ?_
  refine aw_iload_n 1 dX9_joins_1 rfl rfl ?_
  refine aw_iload_n 2 dX9_joins_2 rfl rfl ?_
  refine aw_dW [.int a, .int b] [] lX9_177 vX9_measure mX9_measure dX9_joins_3 (X9_measure_o hM ha hb) hM.1 rfl rfl rfl (Nat.le_of_ble_eq_true rfl) (by decide) (by decide) rfl ?_
  refine aw_aload_n 0 dX9_joins_6 rfl rfl ?_
  refine aw_aload_n 0 dX9_joins_7 rfl rfl ?_
  refine aw_get fX9_19 dX9_joins_8 hM.1 rfl ?_
  refine aw_iload_n 1 dX9_joins_11 rfl rfl ?_
  refine aw_iald a0 (ea) (by omega) (by decide) dX9_joins_12 hM.2.2.2.2.1 ?_
  refine aw_toe 0 (rfl) ?_
  refine aw_aload_n 0 dX9_joins_13 rfl rfl ?_
  refine aw_get fX9_19 dX9_joins_14 hM.1 rfl ?_
  refine aw_iload_n 2 dX9_joins_17 rfl rfl ?_
  refine aw_iald b0 (eb) (by omega) (by decide) dX9_joins_18 hM.2.2.2.2.1 ?_
  refine aw_toe 0 (rfl) ?_
  refine aw_eV [.int 0, .int 0] [] lX9_181 vX9_finds mX9_finds dX9_joins_19 (X9_finds_o hM) hM.1 rfl rfl rfl (Nat.le_of_ble_eq_true rfl) (by decide) (by decide) rfl (fun h21 q22 => ?_)
  refine aw_istore_n [(3, .int 0), (0, .ref (G.1 + 88)), (1, .int a), (2, .int b)] dX9_joins_22 rfl (by decide) rfl ?_
  refine aw_iconst (0) dX9_joins_23 (by decide) ?_
  refine aw_istore [(4, .int 0), (3, .int 0), (0, .ref (G.1 + 88)), (1, .int a), (2, .int b)] dX9_joins_24 (by decide) rfl ?_
  refine aw_iconst (0) dX9_joins_26 (by decide) ?_
  refine aw_istore [(5, .int 0), (4, .int 0), (3, .int 0), (0, .ref (G.1 + 88)), (1, .int a), (2, .int b)] dX9_joins_27 (by decide) rfl ?_
  refine aw_iload 0 dX9_joins_29 rfl ?_
  refine aw_aload_n 3 dX9_joins_31 rfl rfl ?_
  refine aw_get fX9_19 dX9_joins_32 ((q22.2 88 (by decide) (by decide)).trans hM.1) rfl ?_
  refine aw_iload_n 4 dX9_joins_35 rfl rfl ?_
  refine aw_iald a0 (ea) (by omega) (by decide) dX9_joins_36 ((q22.2 92 (by decide) (by decide)).trans hM.2.2.2.2.1) ?_
  refine aw_toe 0 (rfl) ?_
  refine aw_icmp_ge 185 dX9_joins_37 (by decide) (fun c37 => ?_) (fun c37 => absurd (by decide) c37)
  refine aw_iload_n 2 dX9_joins_185 rfl rfl ?_
  exact aw_iret rfl dX9_joins_186 (by decide) (by decide) ⟨rfl, q22.1, q22.2⟩
set_option maxHeartbeats 4000000 in
theorem B7t {l : Launch} {G : xG} {h : List va_E} {a b : Int32} (hM : xF9 G h) (ha : 0 ≤ a.toInt ∧ a.toInt < 4) (hb : 0 ≤ b.toInt ∧ b.toInt < 4) (hab : a.toInt ≠ b.toInt) : CE l G yX9_join cX9_join 3 (some .int) 3 0 0 [.ref (G.1 + 88), .int a, .int b] h (some (.int 0)) (fun _ => True) := by
  refine cm_of rfl (Nat.le_of_ble_eq_true rfl) [(0, .ref (G.1 + 88)), (1, .int a), (2, .int b)] rfl ?_
  obtain ⟨a0, ba, ea⟩ := i_nat (N := 4) ha.1 ha.2
  have ta : a.toInt = (a0 : Int) := i_toNat ea (by omega)
  obtain ⟨b0, bb, eb⟩ := i_nat (N := 4) hb.1 hb.2
  have tb : b.toInt = (b0 : Int) := i_toNat eb (by omega)
  refine aw_aload_n 0 dX9_join_0 rfl rfl ?_
  refine aw_iload_n 1 dX9_join_1 rfl rfl ?_
  refine aw_iload_n 2 dX9_join_2 rfl rfl ?_
  refine aw_dV [.int a, .int b] [] lX9_184 vX9_areBooks mX9_areBooks dX9_join_3 (X9_areBooks_t (by omega) (by omega) (by omega)) hM.1 rfl rfl rfl (Nat.le_of_ble_eq_true rfl) (by decide) (by decide) rfl ?_
  refine aw_if_eq 18 dX9_join_6 (by decide) (fun c6 => absurd c6 (by decide)) (fun c6 => ?_)
  refine aw_aload_n 0 dX9_join_9 rfl rfl ?_
  refine aw_iload_n 1 dX9_join_10 rfl rfl ?_
  refine aw_iload_n 2 dX9_join_11 rfl rfl ?_
  refine aw_eV [.int a, .int b] [] lX9_187 vX9_joins mX9_joins dX9_join_12 (X9_joins_o hM ha hb) hM.1 rfl rfl rfl (Nat.le_of_ble_eq_true rfl) (by decide) (by decide) rfl (fun h23 q24 => ?_)
  refine aw_goto 23 dX9_join_15 (by decide) ?_
  exact aw_iret rfl dX9_join_23 (by decide) (by decide) ⟨rfl, trivial⟩
set_option maxHeartbeats 4000000 in
theorem B7f {l : Launch} {G : xG} {h : List va_E} {a b : Int32} (hM : xF9 G h) (hab : ¬ ((0 ≤ a.toInt ∧ a.toInt < 4) ∧ (0 ≤ b.toInt ∧ b.toInt < 4) ∧ a.toInt ≠ b.toInt)) : CE l G yX9_join cX9_join 3 (some .int) 3 0 0 [.ref (G.1 + 88), .int a, .int b] h (some (.int (-1))) (fun _ => True) := by
  refine cm_of rfl (Nat.le_of_ble_eq_true rfl) [(0, .ref (G.1 + 88)), (1, .int a), (2, .int b)] rfl ?_
  refine aw_aload_n 0 dX9_join_0 rfl rfl ?_
  refine aw_iload_n 1 dX9_join_1 rfl rfl ?_
  refine aw_iload_n 2 dX9_join_2 rfl rfl ?_
  refine aw_dV [.int a, .int b] [] lX9_184 vX9_areBooks mX9_areBooks dX9_join_3 (X9_areBooks_f (by omega)) hM.1 rfl rfl rfl (Nat.le_of_ble_eq_true rfl) (by decide) (by decide) rfl ?_
  refine aw_if_eq 18 dX9_join_6 (by decide) (fun c6 => ?_) (fun c6 => absurd (by decide) c6)
  refine aw_aload_n 0 dX9_join_18 rfl rfl ?_
  refine aw_iconst (-1) dX9_join_19 (by decide) ?_
  refine aw_eV [.int (-1)] [] lX9_130 vX9_refuse mX9_refuse dX9_join_20 (X9_refuse1 hM) hM.1 rfl rfl rfl (Nat.le_of_ble_eq_true rfl) (by decide) (by decide) rfl (fun h25 q26 => ?_)
  exact aw_iret rfl dX9_join_23 (by decide) (by decide) ⟨rfl, trivial⟩
set_option maxHeartbeats 4000000 in
theorem B9t {l : Launch} {G : xG} {h : List va_E} {a b : Int32} (hM : xF9 G h) (ha : 0 ≤ a.toInt ∧ a.toInt < 4) (hb : 0 ≤ b.toInt ∧ b.toInt < 4) (hab : a.toInt ≠ b.toInt) : CE l G yX9_bests cX9_bests 4 (some .int) 3 0 0 [.ref (G.1 + 88), .int a, .int b] h (some (.int 1)) (fun _ => True) := by
  refine cm_of rfl (Nat.le_of_ble_eq_true rfl) [(0, .ref (G.1 + 88)), (1, .int a), (2, .int b)] rfl ?_
  obtain ⟨a0, ba, ea⟩ := i_nat (N := 4) ha.1 ha.2
  have ta : a.toInt = (a0 : Int) := i_toNat ea (by omega)
  obtain ⟨b0, bb, eb⟩ := i_nat (N := 4) hb.1 hb.2
  have tb : b.toInt = (b0 : Int) := i_toNat eb (by omega)
  refine aw_aload_n 0 dX9_bests_0 rfl rfl ?_
  refine aw_iload_n 1 dX9_bests_1 rfl rfl ?_
  refine aw_iload_n 2 dX9_bests_2 rfl rfl ?_
  refine aw_dV [.int a, .int b] [] lX9_184 vX9_areBooks mX9_areBooks dX9_bests_3 (X9_areBooks_t (by omega) (by omega) (by omega)) hM.1 rfl rfl rfl (Nat.le_of_ble_eq_true rfl) (by decide) (by decide) rfl ?_
  refine aw_if_ne 15 dX9_bests_6 (by decide) (fun c6 => ?_) (fun c6 => absurd c6 (by decide))
  refine aw_aload_n 0 dX9_bests_15 rfl rfl ?_
  refine aw_iload_n 1 dX9_bests_16 rfl rfl ?_
  refine aw_iload_n 2 dX9_bests_17 rfl rfl ?_
  refine aw_eV [.int a, .int b] [] lX9_187 vX9_joins mX9_joins dX9_bests_18 (X9_joins_o hM ha hb) hM.1 rfl rfl rfl (Nat.le_of_ble_eq_true rfl) (by decide) (by decide) rfl (fun h27 q28 => ?_)
  refine aw_istore_n [(3, .int 0), (0, .ref (G.1 + 88)), (1, .int a), (2, .int b)] dX9_bests_21 rfl (by decide) rfl ?_
  refine aw_aload_n 1 dX9_bests_22 rfl rfl ?_
  refine aw_get fX9_56 dX9_bests_23 ((q28.2 88 (by decide) (by decide)).trans hM.1) rfl ?_
  refine aw_iconst (0) dX9_bests_26 (by decide) ?_
  refine aw_iald 0 (rfl) (by decide) (by decide) dX9_bests_27 q28.1 ?_
  refine aw_toe 1 (rfl) ?_
  exact aw_iret rfl dX9_bests_28 (by decide) (by decide) ⟨rfl, trivial⟩
set_option maxHeartbeats 4000000 in
theorem B9f {l : Launch} {G : xG} {h : List va_E} {a b : Int32} (hM : xF9 G h) (hab : ¬ ((0 ≤ a.toInt ∧ a.toInt < 4) ∧ (0 ≤ b.toInt ∧ b.toInt < 4) ∧ a.toInt ≠ b.toInt)) : CE l G yX9_bests cX9_bests 4 (some .int) 3 0 0 [.ref (G.1 + 88), .int a, .int b] h (some (.int (-1))) (fun _ => True) := by
  refine cm_of rfl (Nat.le_of_ble_eq_true rfl) [(0, .ref (G.1 + 88)), (1, .int a), (2, .int b)] rfl ?_
  refine aw_aload_n 0 dX9_bests_0 rfl rfl ?_
  refine aw_iload_n 1 dX9_bests_1 rfl rfl ?_
  refine aw_iload_n 2 dX9_bests_2 rfl rfl ?_
  refine aw_dV [.int a, .int b] [] lX9_184 vX9_areBooks mX9_areBooks dX9_bests_3 (X9_areBooks_f (by omega)) hM.1 rfl rfl rfl (Nat.le_of_ble_eq_true rfl) (by decide) (by decide) rfl ?_
  refine aw_if_ne 15 dX9_bests_6 (by decide) (fun c6 => absurd (by decide) c6) (fun c6 => ?_)
  refine aw_aload_n 0 dX9_bests_9 rfl rfl ?_
  refine aw_iconst (-1) dX9_bests_10 (by decide) ?_
  refine aw_eV [.int (-1)] [] lX9_130 vX9_refuse mX9_refuse dX9_bests_11 (X9_refuse1 hM) hM.1 rfl rfl rfl (Nat.le_of_ble_eq_true rfl) (by decide) (by decide) rfl (fun h29 q30 => ?_)
  exact aw_iret rfl dX9_bests_14 (by decide) (by decide) ⟨rfl, trivial⟩
