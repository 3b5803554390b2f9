theorem up00 : upd (fun _ => 0) 0 0 = (fun _ => 0) := by funext j; simp [upd]
theorem up010 : upd (upd (fun _ => 0) 0 1) 0 0 = (fun _ => 0) := by
  funext j
  by_cases h : j = 0 <;> simp [upd, h]
def xJn (G : xG) (h : List va_E) : Prop := h[125]? = some (.inr (3, [.ref (G.1 + 126), .ref (G.1 + 127), .ref (G.1 + 128), .ref (G.1 + 129), .ref (G.1 + 130), .int 0, .int 0])) ∧ h[126]? = some (.inl (0, 100, .inl (fun _ => 0))) ∧ h[127]? = some (.inl (0, 11, .inl (fun _ => 0))) ∧ h[128]? = some (.inl (0, 11264, .inl (fun _ => 0))) ∧ h[129]? = some (.inl (0, 1024, .inl (fun _ => 0))) ∧ h[130]? = some (.inl (0, 1024, .inl (fun _ => 0)))
theorem J6_bitCount_0 {l : Launch} {G : xG} {h : List va_E} : CD l G yJ6_bitCount_0f7a4 cJ6_bitCount_0f7a4 1 (some .int) 0 0 0 [.int 0] h (some (.int 0)) h := by
  have q := J6_bitCount_n (l := l) (G := G) (h := h) (v := 0) (x := 0) rfl (by decide)
  rw [pop_0] at q
  exact q
set_option maxHeartbeats 4000000 in
theorem X3_readLikes_o {l : Launch} {G : xG} {h : List va_E} {a b : Int32} (hJ : xJn G h) : CE l G yX3_readLikes cX3_readLikes 8 none 0 0 0 [.ref (G.1 + 125), .ref (G.1 + 1), .int a, .int b] h none (fun h1 => xJn G h1 ∧ lo 125 h h1) := by
  refine cm_of rfl (Nat.le_of_ble_eq_true rfl) [(0, .ref (G.1 + 125)), (1, .ref (G.1 + 1)), (2, .int a), (3, .int b)] rfl ?_
  refine aw_aload_n 0 dX3_readLikes_0 rfl rfl ?_
  refine aw_get fX3_15 dX3_readLikes_1 hJ.1 rfl ?_
  refine aw_iconst (0) dX3_readLikes_4 (by decide) ?_
  refine aw_iconst (0) dX3_readLikes_5 (by decide) ?_
  refine aw_iast 0 (rfl) (by decide) (by decide) dX3_readLikes_6 hJ.2.2.1 ?_
  rw [up00]
  refine aw_iconst (0) dX3_readLikes_7 (by decide) ?_
  refine aw_istore [(4, .int 0), (0, .ref (G.1 + 125)), (1, .ref (G.1 + 1)), (2, .int a), (3, .int b)] dX3_readLikes_8 (by decide) rfl ?_
  refine aw_iload 0 dX3_readLikes_10 rfl ?_
  refine aw_aload_n 1 dX3_readLikes_12 rfl rfl ?_
  refine aw_get fX3_27 dX3_readLikes_13 (gn (by decide) (hJ.1)) rfl ?_
  refine aw_icmp_ge 114 dX3_readLikes_16 (by decide) (fun c16 => ?_) (fun c16 => absurd (by decide) c16)
  exact aw_vret rfl dX3_readLikes_114 (by decide) (by decide) ⟨rfl, ⟨(gn (by decide) (hJ.1)), (gn (by decide) (hJ.2.1)), (gs hJ.2.2.1), (gn (by decide) (hJ.2.2.2.1)), (gn (by decide) (hJ.2.2.2.2.1)), (gn (by decide) (hJ.2.2.2.2.2))⟩, lo_set (lo_rf 125 h) (by decide)⟩
set_option maxHeartbeats 4000000 in
theorem X3_weighStates_o {l : Launch} {G : xG} {h : List va_E} (hJ : xJn G h) : CE l G yX3_weighStates cX3_weighStates 4 none 1 0 0 [.ref (G.1 + 125)] h none (fun h1 => xJn G h1 ∧ lo 125 h h1) := by
  refine cm_of rfl (Nat.le_of_ble_eq_true rfl) [(0, .ref (G.1 + 125))] rfl ?_
  refine aw_aload_n 0 dX3_weighStates_0 rfl rfl ?_
  refine aw_get fX3_27 dX3_weighStates_1 hJ.1 rfl ?_
  refine aw_istore_n [(1, .int 0), (0, .ref (G.1 + 125))] dX3_weighStates_4 rfl (by decide) rfl ?_
  refine aw_iload_n 0 dX3_weighStates_5 rfl rfl ?_
  refine aw_if_lt 83 dX3_weighStates_6 (by decide) (fun c6 => absurd c6 (by decide)) (fun c6 => ?_)
  refine aw_aload_n 1 dX3_weighStates_9 rfl rfl ?_
  refine aw_get fX3_15 dX3_weighStates_10 hJ.1 rfl ?_
  refine aw_iload_n 0 dX3_weighStates_13 rfl rfl ?_
  refine aw_iald 0 (rfl) (by decide) (by decide) dX3_weighStates_14 hJ.2.2.1 ?_
  refine aw_toe 0 (rfl) ?_
  refine aw_istore_n [(2, .int 0), (1, .int 0), (0, .ref (G.1 + 125))] dX3_weighStates_15 rfl (by decide) rfl ?_
  refine aw_iload_n 0 dX3_weighStates_16 rfl rfl ?_
  refine aw_istore_n [(3, .int 0), (2, .int 0), (1, .int 0), (0, .ref (G.1 + 125))] dX3_weighStates_17 rfl (by decide) rfl ?_
  refine aw_iload_n 0 dX3_weighStates_18 rfl rfl ?_
  refine aw_if_lt 77 dX3_weighStates_19 (by decide) (fun c19 => absurd c19 (by decide)) (fun c19 => ?_)
  refine aw_iload_n 0 dX3_weighStates_22 rfl rfl ?_
  refine aw_dS [.int 0] [] lX3_62 sJ6_bitCount_0f7a4 mJ6_bitCount_0f7a4 dX3_weighStates_23 (J6_bitCount_0) rfl (Nat.le_of_ble_eq_true rfl) (by decide) (by decide) rfl ?_
  refine aw_iload_n 2 dX3_weighStates_26 rfl rfl ?_
  refine aw_icmp_gt 60 dX3_weighStates_27 (by decide) (fun c27 => absurd c27 (by decide)) (fun c27 => ?_)
  refine aw_aload_n 3 dX3_weighStates_30 rfl rfl ?_
  refine aw_get fX3_18 dX3_weighStates_31 hJ.1 rfl ?_
  refine aw_iload_n 2 dX3_weighStates_34 rfl rfl ?_
  refine aw_sipush (1024) dX3_weighStates_35 (by decide) ?_
  refine aw_imul dX3_weighStates_38 ?_
  refine aw_toe 0 (by decide) ?_
  refine aw_iload_n 0 dX3_weighStates_39 rfl rfl ?_
  refine aw_iadd dX3_weighStates_40 ?_
  refine aw_toe 0 (by decide) ?_
  refine aw_iload_n 2 dX3_weighStates_41 rfl rfl ?_
  refine aw_aload_n 3 dX3_weighStates_42 rfl rfl ?_
  refine aw_get fX3_27 dX3_weighStates_43 hJ.1 rfl ?_
  refine aw_icmp_ne 53 dX3_weighStates_46 (by decide) (fun c46 => absurd (by decide) c46) (fun c46 => ?_)
  refine aw_iconst (0) dX3_weighStates_49 (by decide) ?_
  refine aw_goto 59 dX3_weighStates_50 (by decide) ?_
  refine aw_iast 0 (rfl) (by decide) (by decide) dX3_weighStates_59 hJ.2.2.2.1 ?_
  rw [up00]
  refine aw_iload_n 0 dX3_weighStates_60 rfl rfl ?_
  refine aw_if_ne 68 dX3_weighStates_61 (by decide) (fun c61 => absurd (by decide) c61) (fun c61 => ?_)
  refine aw_iconst (-1) dX3_weighStates_64 (by decide) ?_
  refine aw_goto 73 dX3_weighStates_65 (by decide) ?_
  refine aw_istore_n [(3, .int (-1)), (2, .int 0), (1, .int 0), (0, .ref (G.1 + 125))] dX3_weighStates_73 rfl (by decide) rfl ?_
  refine aw_goto 18 dX3_weighStates_74 (by decide) ?_
  refine aw_iload_n 0 dX3_weighStates_18 rfl rfl ?_
  refine aw_if_lt 77 dX3_weighStates_19 (by decide) (fun c19 => ?_) (fun c19 => absurd (by decide) c19)
  refine aw_iinc (j := 2) (-1) [(1, .int (-1)), (3, .int (-1)), (2, .int 0), (0, .ref (G.1 + 125))] dX3_weighStates_77 rfl (by decide) (by decide) rfl ?_
  refine aw_goto 5 dX3_weighStates_80 (by decide) ?_
  refine aw_iload_n 0 dX3_weighStates_5 rfl rfl ?_
  refine aw_if_lt 83 dX3_weighStates_6 (by decide) (fun c6 => ?_) (fun c6 => absurd (by decide) c6)
  exact aw_vret rfl dX3_weighStates_83 (by decide) (by decide) ⟨rfl, ⟨(gn (by decide) (hJ.1)), (gn (by decide) (hJ.2.1)), (gn (by decide) (hJ.2.2.1)), (gs hJ.2.2.2.1), (gn (by decide) (hJ.2.2.2.2.1)), (gn (by decide) (hJ.2.2.2.2.2))⟩, lo_set (lo_rf 125 h) (by decide)⟩
set_option maxHeartbeats 4000000 in
theorem X3_tellFirst_o {l : Launch} {G : xG} {h : List va_E} {T : Nat} (hJ : xJn G h) : CD l G yX3_tellFirst cX3_tellFirst 6 none 0 0 0 [.ref (G.1 + 125), .ref (G.1 + T)] h none h := by
  refine cm_of rfl (Nat.le_of_ble_eq_true rfl) [(0, .ref (G.1 + 125)), (1, .ref (G.1 + T))] rfl ?_
  refine aw_iconst (0) dX3_tellFirst_0 (by decide) ?_
  refine aw_istore_n [(2, .int 0), (0, .ref (G.1 + 125)), (1, .ref (G.1 + T))] dX3_tellFirst_1 rfl (by decide) rfl ?_
  refine aw_iconst (0) dX3_tellFirst_2 (by decide) ?_
  refine aw_istore_n [(3, .int 0), (2, .int 0), (0, .ref (G.1 + 125)), (1, .ref (G.1 + T))] dX3_tellFirst_3 rfl (by decide) rfl ?_
  refine aw_iload_n 0 dX3_tellFirst_4 rfl rfl ?_
  refine aw_aload_n 2 dX3_tellFirst_5 rfl rfl ?_
  refine aw_get fX3_27 dX3_tellFirst_6 hJ.1 rfl ?_
  refine aw_icmp_ge 96 dX3_tellFirst_9 (by decide) (fun c9 => ?_) (fun c9 => absurd (by decide) c9)
  exact aw_vret rfl dX3_tellFirst_96 (by decide) (by decide) ⟨rfl, rfl⟩
def xJw (G : xG) (h : List va_E) : Prop := h[125]? = some (.inr (3, [.ref (G.1 + 126), .ref (G.1 + 127), .ref (G.1 + 128), .ref (G.1 + 129), .ref (G.1 + 130), .int 0, .int 0])) ∧ h[126]? = some (.inl (0, 100, .inl (fun _ => 0))) ∧ h[127]? = some (.inl (0, 11, .inl (fun _ => 0))) ∧ h[128]? = some (.inl (0, 11264, .inl (fun _ => 0))) ∧ h[129]? = some (.inl (0, 1024, .inl (upd (fun _ => 0) 0 1))) ∧ h[130]? = some (.inl (0, 1024, .inl (fun _ => 0)))
set_option maxHeartbeats 4000000 in
theorem X3_sumWays_o {l : Launch} {G : xG} {h : List va_E} (hJ : xJw G h) : CE l G yX3_sumWays cX3_sumWays 4 (some .int) 1 0 0 [.ref (G.1 + 125), .int 0] h (some (.int 1)) (fun h1 => xJn G h1 ∧ lo 125 h h1) := by
  refine cm_of rfl (Nat.le_of_ble_eq_true rfl) [(0, .ref (G.1 + 125)), (1, .int 0)] rfl ?_
  refine aw_iconst (0) dX3_sumWays_0 (by decide) ?_
  refine aw_istore_n [(2, .int 0), (0, .ref (G.1 + 125)), (1, .int 0)] dX3_sumWays_1 rfl (by decide) rfl ?_
  refine aw_iload_n 2 dX3_sumWays_2 rfl rfl ?_
  refine aw_istore_n [(3, .int 0), (2, .int 0), (0, .ref (G.1 + 125)), (1, .int 0)] dX3_sumWays_3 rfl (by decide) rfl ?_
  refine aw_iload_n 0 dX3_sumWays_4 rfl rfl ?_
  refine aw_if_lt 46 dX3_sumWays_5 (by decide) (fun c5 => absurd c5 (by decide)) (fun c5 => ?_)
  refine aw_ldc (1000000) kX3_99 dX3_sumWays_8 ?_
  refine aw_iload_n 1 dX3_sumWays_10 rfl rfl ?_
  refine aw_aload_n 2 dX3_sumWays_11 rfl rfl ?_
  refine aw_get fX3_21 dX3_sumWays_12 hJ.1 rfl ?_
  refine aw_iload_n 0 dX3_sumWays_15 rfl rfl ?_
  refine aw_iald 0 (rfl) (by decide) (by decide) dX3_sumWays_16 hJ.2.2.2.2.1 ?_
  refine aw_toe 1 (rfl) ?_
  refine aw_iadd dX3_sumWays_17 ?_
  refine aw_toe 1 (by decide) ?_
  refine aw_mmin lX3_100 dX3_sumWays_18 (Nat.le_of_ble_eq_true rfl) (by decide) (by decide) ?_
  refine aw_toe 1 (by decide) ?_
  refine aw_istore_n [(2, .int 1), (3, .int 0), (0, .ref (G.1 + 125)), (1, .int 0)] dX3_sumWays_21 rfl (by decide) rfl ?_
  refine aw_aload_n 2 dX3_sumWays_22 rfl rfl ?_
  refine aw_get fX3_21 dX3_sumWays_23 hJ.1 rfl ?_
  refine aw_iload_n 1 dX3_sumWays_26 rfl rfl ?_
  refine aw_iconst (0) dX3_sumWays_27 (by decide) ?_
  refine aw_iast 0 (rfl) (by decide) (by decide) dX3_sumWays_28 hJ.2.2.2.2.1 ?_
  rw [up010]
  refine aw_iload_n 1 dX3_sumWays_29 rfl rfl ?_
  refine aw_if_ne 37 dX3_sumWays_30 (by decide) (fun c30 => absurd (by decide) c30) (fun c30 => ?_)
  refine aw_iconst (-1) dX3_sumWays_33 (by decide) ?_
  refine aw_goto 42 dX3_sumWays_34 (by decide) ?_
  refine aw_istore_n [(3, .int (-1)), (2, .int 1), (0, .ref (G.1 + 125)), (1, .int 0)] dX3_sumWays_42 rfl (by decide) rfl ?_
  refine aw_goto 4 dX3_sumWays_43 (by decide) ?_
  refine aw_iload_n 0 dX3_sumWays_4 rfl rfl ?_
  refine aw_if_lt 46 dX3_sumWays_5 (by decide) (fun c5 => ?_) (fun c5 => absurd (by decide) c5)
  refine aw_iload_n 1 dX3_sumWays_46 rfl rfl ?_
  exact aw_iret rfl dX3_sumWays_47 (by decide) (by decide) ⟨rfl, ⟨(gn (by decide) (hJ.1)), (gn (by decide) (hJ.2.1)), (gn (by decide) (hJ.2.2.1)), (gn (by decide) (hJ.2.2.2.1)), (gs hJ.2.2.2.2.1), (gn (by decide) (hJ.2.2.2.2.2))⟩, lo_set (lo_rf 125 h) (by decide)⟩
set_option maxHeartbeats 4000000 in
theorem X3_tellWays_o {l : Launch} {G : xG} {h : List va_E} {T T1 T2 : Nat} (hJ : xJn G h) (hT : h[T]? = some (.inr (4, [.ref (G.1 + T1), .ref (G.1 + T2), .int 0, .int 0, .int 0]))) (bT : T < 125) : CE l G yX3_tellWays cX3_tellWays 6 none 2 0 0 [.ref (G.1 + 125), .ref (G.1 + T)] h none (fun h1 => xJn G h1 ∧ h1[T]? = some (.inr (4, [.ref (G.1 + T1), .ref (G.1 + T2), .int 0, .int 1, .int 0])) ∧ ∀ j, j < 125 → j ≠ T → h1[j]? = h[j]?) := by
  refine cm_of rfl (Nat.le_of_ble_eq_true rfl) [(0, .ref (G.1 + 125)), (1, .ref (G.1 + T))] rfl ?_
  refine aw_aload_n 0 dX3_tellWays_0 rfl rfl ?_
  refine aw_get fX3_21 dX3_tellWays_1 hJ.1 rfl ?_
  refine aw_iconst (0) dX3_tellWays_4 (by decide) ?_
  refine aw_iconst (1) dX3_tellWays_5 (by decide) ?_
  refine aw_iast 0 (rfl) (by decide) (by decide) dX3_tellWays_6 hJ.2.2.2.2.1 ?_
  refine aw_iconst (0) dX3_tellWays_7 (by decide) ?_
  refine aw_istore_n [(2, .int 0), (0, .ref (G.1 + 125)), (1, .ref (G.1 + T))] dX3_tellWays_8 rfl (by decide) rfl ?_
  refine aw_iload_n 0 dX3_tellWays_9 rfl rfl ?_
  refine aw_aload_n 1 dX3_tellWays_10 rfl rfl ?_
  refine aw_get fX3_27 dX3_tellWays_11 (gn (by decide) (hJ.1)) rfl ?_
  refine aw_icmp_ge 137 dX3_tellWays_14 (by decide) (fun c14 => ?_) (fun c14 => absurd (by decide) c14)
  refine aw_aload_n 2 dX3_tellWays_137 rfl rfl ?_
  refine aw_aload_n 1 dX3_tellWays_138 rfl rfl ?_
  refine aw_aload_n 1 dX3_tellWays_139 rfl rfl ?_
  refine aw_get fX3_15 dX3_tellWays_140 (gn (by decide) (hJ.1)) rfl ?_
  refine aw_aload_n 1 dX3_tellWays_143 rfl rfl ?_
  refine aw_get fX3_27 dX3_tellWays_144 (gn (by decide) (hJ.1)) rfl ?_
  refine aw_iald 0 (rfl) (by decide) (by decide) dX3_tellWays_147 (gn (by decide) (hJ.2.2.1)) ?_
  refine aw_toe 0 (rfl) ?_
  refine aw_eV [.int 0] [.ref (G.1 + T)] lX3_90 vX3_sumWays mX3_sumWays dX3_tellWays_148 (X3_sumWays_o ⟨(gn (by decide) (hJ.1)), (gn (by decide) (hJ.2.1)), (gn (by decide) (hJ.2.2.1)), (gn (by decide) (hJ.2.2.2.1)), (gs hJ.2.2.2.2.1), (gn (by decide) (hJ.2.2.2.2.2))⟩) (gn (by decide) (hJ.1)) rfl rfl rfl (Nat.le_of_ble_eq_true rfl) (by decide) (by decide) rfl (fun h1 q2 => ?_)
  refine aw_putQ fX3_93 dX3_tellWays_151 [.ref (G.1 + T1), .ref (G.1 + T2), .int 0, .int 1, .int 0] (lo_at q2.2 (by omega) (gn (by omega) (hT))) rfl rfl rfl (Nat.le_of_ble_eq_true rfl) rfl ?_
  refine aw_vret rfl dX3_tellWays_154 (by decide) (by decide) ⟨rfl, ⟨(gn (by omega) (q2.1.1)), (gn (by omega) (q2.1.2.1)), (gn (by omega) (q2.1.2.2.1)), (gn (by omega) (q2.1.2.2.2.1)), (gn (by omega) (q2.1.2.2.2.2.1)), (gn (by omega) (q2.1.2.2.2.2.2))⟩, (gs (lo_at q2.2 (by omega) (gn (by omega) (hT)))), fun j j1 j2 => ?_⟩
  rw [List.getElem?_set_ne (Ne.symm j2)]; exact (lo_tr (lo_set (lo_rf 125 h) (by decide)) q2.2 (by decide)) j j1
set_option maxHeartbeats 4000000 in
theorem X3_solve_o {l : Launch} {G : xG} {h : List va_E} {T T1 T2 a0 b0 : Nat} {a b : Int32} (hJ : xJn G h) (hT : h[T]? = some (.inr (4, [.ref (G.1 + T1), .ref (G.1 + T2), .int 0, .int 0, .int 0]))) (bT : T < 125) (h1 : h[1]? = some (.inr (1, [.ref (G.1 + 2), .ref (G.1 + 3), .ref (G.1 + 4), .ref (G.1 + 5), .ref (G.1 + 6), .ref (G.1 + 7), .ref (G.1 + 8), .ref (G.1 + 9), .ref (G.1 + 10), .ref (G.1 + 11), .int 0, .int 5, .int 1, .int 1]))) (h5 : h[5]? = some (.inl (0, 4, .inl (fun _ => 0)))) (ea : a = nI a0) (ba : a0 < 4) (eb : b = nI b0) (bb : b0 < 4) (n1 : T ≠ 1) (n5 : T ≠ 5) : CE l G yX3_solve cX3_solve 5 none 3 0 0 [.ref (G.1 + 125), .ref (G.1 + 1), .int a, .int b, .ref (G.1 + T)] h none (fun h1 => xJn G h1 ∧ h1[T]? = some (.inr (4, [.ref (G.1 + T1), .ref (G.1 + T2), .int 0, .int 1, .int 0])) ∧ ∀ j, j < 125 → j ≠ T → h1[j]? = h[j]?) := by
  refine cm_of rfl (Nat.le_of_ble_eq_true rfl) [(0, .ref (G.1 + 125)), (1, .ref (G.1 + 1)), (2, .int a), (3, .int b), (4, .ref (G.1 + T))] rfl ?_
  refine aw_aload_n 0 dX3_solve_0 rfl rfl ?_
  refine aw_aload_n 1 dX3_solve_1 rfl rfl ?_
  refine aw_get fX3_34 dX3_solve_2 h1 rfl ?_
  refine aw_iload_n 2 dX3_solve_5 rfl rfl ?_
  refine aw_iald a0 (ea) (by omega) (by decide) dX3_solve_6 h5 ?_
  refine aw_toe 0 (rfl) ?_
  refine aw_putQ fX3_27 dX3_solve_7 [.ref (G.1 + 126), .ref (G.1 + 127), .ref (G.1 + 128), .ref (G.1 + 129), .ref (G.1 + 130), .int 0, .int 0] hJ.1 rfl rfl rfl (Nat.le_of_ble_eq_true rfl) rfl ?_
  refine aw_aload_n 0 dX3_solve_10 rfl rfl ?_
  refine aw_aload_n 1 dX3_solve_11 rfl rfl ?_
  refine aw_get fX3_34 dX3_solve_12 (gn (by decide) (h1)) rfl ?_
  refine aw_iload_n 3 dX3_solve_15 rfl rfl ?_
  refine aw_iald b0 (eb) (by omega) (by decide) dX3_solve_16 (gn (by decide) (h5)) ?_
  refine aw_toe 0 (rfl) ?_
  refine aw_putQ fX3_31 dX3_solve_17 [.ref (G.1 + 126), .ref (G.1 + 127), .ref (G.1 + 128), .ref (G.1 + 129), .ref (G.1 + 130), .int 0, .int 0] (gs hJ.1) rfl rfl rfl (Nat.le_of_ble_eq_true rfl) rfl ?_
  refine aw_aload_n 0 dX3_solve_20 rfl rfl ?_
  refine aw_aload_n 1 dX3_solve_21 rfl rfl ?_
  refine aw_iload_n 2 dX3_solve_22 rfl rfl ?_
  refine aw_iload_n 3 dX3_solve_23 rfl rfl ?_
  refine aw_eW [.ref (G.1 + 1), .int a, .int b] [] lX3_39 vX3_readLikes mX3_readLikes dX3_solve_24 (X3_readLikes_o ⟨(gs (gs hJ.1)), (gn (by decide) (gn (by decide) (hJ.2.1))), (gn (by decide) (gn (by decide) (hJ.2.2.1))), (gn (by decide) (gn (by decide) (hJ.2.2.2.1))), (gn (by decide) (gn (by decide) (hJ.2.2.2.2.1))), (gn (by decide) (gn (by decide) (hJ.2.2.2.2.2)))⟩) (gs (gs hJ.1)) rfl rfl rfl (Nat.le_of_ble_eq_true rfl) (by decide) (by decide) rfl (fun h3 q4 => ?_)
  refine aw_aload_n 0 dX3_solve_27 rfl rfl ?_
  refine aw_eW [] [] lX3_43 vX3_weighStates mX3_weighStates dX3_solve_28 (X3_weighStates_o ⟨q4.1.1, q4.1.2.1, q4.1.2.2.1, q4.1.2.2.2.1, q4.1.2.2.2.2.1, q4.1.2.2.2.2.2⟩) q4.1.1 rfl rfl rfl (Nat.le_of_ble_eq_true rfl) (by decide) (by decide) rfl (fun h5 q6 => ?_)
  refine aw_aload 4 dX3_solve_31 rfl ?_
  refine aw_aload_n 0 dX3_solve_33 rfl rfl ?_
  refine aw_get fX3_18 dX3_solve_34 q6.1.1 rfl ?_
  refine aw_iconst (0) dX3_solve_37 (by decide) ?_
  refine aw_iald 0 (rfl) (by decide) (by decide) dX3_solve_38 q6.1.2.2.2.1 ?_
  refine aw_toe 0 (rfl) ?_
  refine aw_putQ fX3_46 dX3_solve_39 [.ref (G.1 + T1), .ref (G.1 + T2), .int 0, .int 0, .int 0] (lo_at q6.2 (by omega) (lo_at q4.2 (by omega) (gn (by omega) (gn (by omega) (hT))))) rfl rfl rfl (Nat.le_of_ble_eq_true rfl) rfl ?_
  refine aw_aload_n 0 dX3_solve_42 rfl rfl ?_
  refine aw_aload 4 dX3_solve_43 rfl ?_
  refine aw_dW [.ref (G.1 + T)] [] lX3_51 vX3_tellFirst mX3_tellFirst dX3_solve_45 (X3_tellFirst_o ⟨(gn (by omega) (q6.1.1)), (gn (by omega) (q6.1.2.1)), (gn (by omega) (q6.1.2.2.1)), (gn (by omega) (q6.1.2.2.2.1)), (gn (by omega) (q6.1.2.2.2.2.1)), (gn (by omega) (q6.1.2.2.2.2.2))⟩) (gn (by omega) (q6.1.1)) rfl rfl rfl (Nat.le_of_ble_eq_true rfl) (by decide) (by decide) rfl ?_
  refine aw_aload_n 0 dX3_solve_48 rfl rfl ?_
  refine aw_aload 4 dX3_solve_49 rfl ?_
  refine aw_eW [.ref (G.1 + T)] [] lX3_55 vX3_tellWays mX3_tellWays dX3_solve_51 (X3_tellWays_o ⟨(gn (by omega) (q6.1.1)), (gn (by omega) (q6.1.2.1)), (gn (by omega) (q6.1.2.2.1)), (gn (by omega) (q6.1.2.2.2.1)), (gn (by omega) (q6.1.2.2.2.2.1)), (gn (by omega) (q6.1.2.2.2.2.2))⟩ (gs (lo_at q6.2 (by omega) (lo_at q4.2 (by omega) (gn (by omega) (gn (by omega) (hT)))))) bT) (gn (by omega) (q6.1.1)) rfl rfl rfl (Nat.le_of_ble_eq_true rfl) (by decide) (by decide) rfl (fun h7 q8 => ?_)
  refine aw_vret rfl dX3_solve_54 (by decide) (by decide) ⟨rfl, q8.1, q8.2.1, fun j j1 j2 => ?_⟩
  rw [q8.2.2 j j1 j2, List.getElem?_set_ne (Ne.symm j2)]; exact (lo_tr ((lo_tr (lo_set (lo_set (lo_rf 125 h) (by decide)) (by decide)) q4.2 (by decide))) q6.2 (by decide)) j j1
