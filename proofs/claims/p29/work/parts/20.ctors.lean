set_option maxHeartbeats 4000000 in
theorem KX4_init {l : Launch} {G : xG} {h : List va_E} {a : Nat} (hl : h.length = a + 1) (ha : h[a]? = some (.inr (4, [.null, .null, .int 0, .int 0, .int 0]))) : CE l G yX4_init cX4_init 1 none 1 2 20 [.ref (G.1 + a)] h none (fun h1 => h1.length = a + 3 ∧ h1[a]? = some (.inr (4, [.ref (G.1 + (a + 1)), .ref (G.1 + (a + 2)), .int 0, .int 0, .int 0])) ∧ h1[a + 1]? = some (.inl (0, 10, .inl (fun _ => 0))) ∧ h1[a + 2]? = some (.inl (2, 10, .inl (fun _ => 0))) ∧ lo a h h1) := by
  refine cm_of rfl (Nat.le_of_ble_eq_true rfl) [(0, .ref (G.1 + a))] rfl ?_
  refine aw_aload_n 0 dX4_init_0 rfl rfl ?_
  refine aw_objInit lX4_3 oi_i oi_c dX4_init_1 (by decide) (by decide) (by decide) ?_
  refine aw_aload_n 0 dX4_init_4 rfl rfl ?_
  refine aw_bipush (10) dX4_init_5 (by decide) ?_
  refine aw_newaQ (ki := 0) (a + 1) 10 (10, .inl (fun _ => 0)) ac_i dX4_init_7 rfl rfl (fun _ => rfl) (rfl) (by decide) (by decide) (by decide) (by decide) (by simp [hl] <;> omega) ?_
  refine aw_putFQ fX4_9 dX4_init_9 [.ref (G.1 + (a + 1)), .null, .int 0, .int 0, .int 0] (ga (ha)) rfl rfl rfl rfl rfl (Nat.le_of_ble_eq_true rfl) rfl ?_
  refine aw_aload_n 0 dX4_init_12 rfl rfl ?_
  refine aw_bipush (10) dX4_init_13 (by decide) ?_
  refine aw_newaQ (ki := 2) (a + 2) 10 (10, .inl (fun _ => 0)) ac_z dX4_init_15 rfl rfl (fun _ => rfl) (rfl) (by decide) (by decide) (by decide) (by decide) (by simp [hl] <;> omega) ?_
  refine aw_putFQ fX4_15 dX4_init_17 [.ref (G.1 + (a + 1)), .ref (G.1 + (a + 2)), .int 0, .int 0, .int 0] (ga (gs (ga (ha)))) rfl rfl rfl rfl rfl (Nat.le_of_ble_eq_true rfl) rfl ?_
  refine aw_aload_n 0 dX4_init_20 rfl rfl ?_
  refine aw_iconst (0) dX4_init_21 (by decide) ?_
  refine aw_putQ fX4_19 dX4_init_22 [.ref (G.1 + (a + 1)), .ref (G.1 + (a + 2)), .int 0, .int 0, .int 0] (gs (ga (gs (ga (ha))))) rfl rfl rfl (Nat.le_of_ble_eq_true rfl) rfl ?_
  refine aw_aload_n 0 dX4_init_25 rfl rfl ?_
  refine aw_iconst (0) dX4_init_26 (by decide) ?_
  refine aw_putQ fX4_23 dX4_init_27 [.ref (G.1 + (a + 1)), .ref (G.1 + (a + 2)), .int 0, .int 0, .int 0] (gs (gs (ga (gs (ga (ha)))))) rfl rfl rfl (Nat.le_of_ble_eq_true rfl) rfl ?_
  refine aw_aload_n 0 dX4_init_30 rfl rfl ?_
  refine aw_iconst (0) dX4_init_31 (by decide) ?_
  refine aw_putQ fX4_26 dX4_init_32 [.ref (G.1 + (a + 1)), .ref (G.1 + (a + 2)), .int 0, .int 0, .int 0] (gs (gs (gs (ga (gs (ga (ha))))))) rfl rfl rfl (Nat.le_of_ble_eq_true rfl) rfl ?_
  exact aw_vret rfl dX4_init_35 (by decide) (by decide) ⟨rfl, by simp [hl], (gs (gs (gs (gs (ga (gs (ga (ha)))))))), (gn (by omega) (gn (by omega) (gn (by omega) (gn (by omega) (ga (gn (by omega) (gp (by simp [hl] <;> omega)))))))), (gn (by omega) (gn (by omega) (gn (by omega) (gn (by omega) (gp (by simp [hl] <;> omega)))))), lo_set (lo_set (lo_set (lo_set (lo_app (lo_set (lo_app (lo_rf a h) (by simp [hl] <;> omega)) (by omega)) (by simp [hl] <;> omega)) (by omega)) (by omega)) (by omega)) (by omega)⟩
set_option maxHeartbeats 4000000 in
theorem KX5_init {l : Launch} {G : xG} {h : List va_E} {a : Nat} (hl : h.length = a + 1) (ha : h[a]? = some (.inr (5, [.null, .null, .null, .null, .null, .null, .null, .int 0, .int 0]))) : CE l G yX5_init cX5_init 1 none 1 7 420 [.ref (G.1 + a)] h none (fun h1 => h1.length = a + 8 ∧ h1[a]? = some (.inr (5, [.ref (G.1 + (a + 1)), .ref (G.1 + (a + 2)), .ref (G.1 + (a + 3)), .ref (G.1 + (a + 4)), .ref (G.1 + (a + 5)), .ref (G.1 + (a + 6)), .ref (G.1 + (a + 7)), .int 0, .int 0])) ∧ h1[a + 1]? = some (.inl (0, 60, .inl (fun _ => 0))) ∧ h1[a + 2]? = some (.inl (0, 60, .inl (fun _ => 0))) ∧ h1[a + 3]? = some (.inl (0, 60, .inl (fun _ => 0))) ∧ h1[a + 4]? = some (.inl (0, 60, .inl (fun _ => 0))) ∧ h1[a + 5]? = some (.inl (0, 60, .inl (fun _ => 0))) ∧ h1[a + 6]? = some (.inl (0, 60, .inl (fun _ => 0))) ∧ h1[a + 7]? = some (.inl (0, 60, .inl (fun _ => 0))) ∧ lo a h h1) := by
  refine cm_of rfl (Nat.le_of_ble_eq_true rfl) [(0, .ref (G.1 + a))] rfl ?_
  refine aw_aload_n 0 dX5_init_0 rfl rfl ?_
  refine aw_objInit lX5_3 oi_i oi_c dX5_init_1 (by decide) (by decide) (by decide) ?_
  refine aw_aload_n 0 dX5_init_4 rfl rfl ?_
  refine aw_bipush (60) dX5_init_5 (by decide) ?_
  refine aw_newaQ (ki := 0) (a + 1) 60 (60, .inl (fun _ => 0)) ac_i dX5_init_7 rfl rfl (fun _ => rfl) (rfl) (by decide) (by decide) (by decide) (by decide) (by simp [hl] <;> omega) ?_
  refine aw_putFQ fX5_9 dX5_init_9 [.ref (G.1 + (a + 1)), .null, .null, .null, .null, .null, .null, .int 0, .int 0] (ga (ha)) rfl rfl rfl rfl rfl (Nat.le_of_ble_eq_true rfl) rfl ?_
  refine aw_aload_n 0 dX5_init_12 rfl rfl ?_
  refine aw_bipush (60) dX5_init_13 (by decide) ?_
  refine aw_newaQ (ki := 0) (a + 2) 60 (60, .inl (fun _ => 0)) ac_i dX5_init_15 rfl rfl (fun _ => rfl) (rfl) (by decide) (by decide) (by decide) (by decide) (by simp [hl] <;> omega) ?_
  refine aw_putFQ fX5_15 dX5_init_17 [.ref (G.1 + (a + 1)), .ref (G.1 + (a + 2)), .null, .null, .null, .null, .null, .int 0, .int 0] (ga (gs (ga (ha)))) rfl rfl rfl rfl rfl (Nat.le_of_ble_eq_true rfl) rfl ?_
  refine aw_aload_n 0 dX5_init_20 rfl rfl ?_
  refine aw_bipush (60) dX5_init_21 (by decide) ?_
  refine aw_newaQ (ki := 0) (a + 3) 60 (60, .inl (fun _ => 0)) ac_i dX5_init_23 rfl rfl (fun _ => rfl) (rfl) (by decide) (by decide) (by decide) (by decide) (by simp [hl] <;> omega) ?_
  refine aw_putFQ fX5_18 dX5_init_25 [.ref (G.1 + (a + 1)), .ref (G.1 + (a + 2)), .ref (G.1 + (a + 3)), .null, .null, .null, .null, .int 0, .int 0] (ga (gs (ga (gs (ga (ha)))))) rfl rfl rfl rfl rfl (Nat.le_of_ble_eq_true rfl) rfl ?_
  refine aw_aload_n 0 dX5_init_28 rfl rfl ?_
  refine aw_bipush (60) dX5_init_29 (by decide) ?_
  refine aw_newaQ (ki := 0) (a + 4) 60 (60, .inl (fun _ => 0)) ac_i dX5_init_31 rfl rfl (fun _ => rfl) (rfl) (by decide) (by decide) (by decide) (by decide) (by simp [hl] <;> omega) ?_
  refine aw_putFQ fX5_21 dX5_init_33 [.ref (G.1 + (a + 1)), .ref (G.1 + (a + 2)), .ref (G.1 + (a + 3)), .ref (G.1 + (a + 4)), .null, .null, .null, .int 0, .int 0] (ga (gs (ga (gs (ga (gs (ga (ha)))))))) rfl rfl rfl rfl rfl (Nat.le_of_ble_eq_true rfl) rfl ?_
  refine aw_aload_n 0 dX5_init_36 rfl rfl ?_
  refine aw_bipush (60) dX5_init_37 (by decide) ?_
  refine aw_newaQ (ki := 0) (a + 5) 60 (60, .inl (fun _ => 0)) ac_i dX5_init_39 rfl rfl (fun _ => rfl) (rfl) (by decide) (by decide) (by decide) (by decide) (by simp [hl] <;> omega) ?_
  refine aw_putFQ fX5_24 dX5_init_41 [.ref (G.1 + (a + 1)), .ref (G.1 + (a + 2)), .ref (G.1 + (a + 3)), .ref (G.1 + (a + 4)), .ref (G.1 + (a + 5)), .null, .null, .int 0, .int 0] (ga (gs (ga (gs (ga (gs (ga (gs (ga (ha)))))))))) rfl rfl rfl rfl rfl (Nat.le_of_ble_eq_true rfl) rfl ?_
  refine aw_aload_n 0 dX5_init_44 rfl rfl ?_
  refine aw_bipush (60) dX5_init_45 (by decide) ?_
  refine aw_newaQ (ki := 0) (a + 6) 60 (60, .inl (fun _ => 0)) ac_i dX5_init_47 rfl rfl (fun _ => rfl) (rfl) (by decide) (by decide) (by decide) (by decide) (by simp [hl] <;> omega) ?_
  refine aw_putFQ fX5_27 dX5_init_49 [.ref (G.1 + (a + 1)), .ref (G.1 + (a + 2)), .ref (G.1 + (a + 3)), .ref (G.1 + (a + 4)), .ref (G.1 + (a + 5)), .ref (G.1 + (a + 6)), .null, .int 0, .int 0] (ga (gs (ga (gs (ga (gs (ga (gs (ga (gs (ga (ha)))))))))))) rfl rfl rfl rfl rfl (Nat.le_of_ble_eq_true rfl) rfl ?_
  refine aw_aload_n 0 dX5_init_52 rfl rfl ?_
  refine aw_bipush (60) dX5_init_53 (by decide) ?_
  refine aw_newaQ (ki := 0) (a + 7) 60 (60, .inl (fun _ => 0)) ac_i dX5_init_55 rfl rfl (fun _ => rfl) (rfl) (by decide) (by decide) (by decide) (by decide) (by simp [hl] <;> omega) ?_
  refine aw_putFQ fX5_30 dX5_init_57 [.ref (G.1 + (a + 1)), .ref (G.1 + (a + 2)), .ref (G.1 + (a + 3)), .ref (G.1 + (a + 4)), .ref (G.1 + (a + 5)), .ref (G.1 + (a + 6)), .ref (G.1 + (a + 7)), .int 0, .int 0] (ga (gs (ga (gs (ga (gs (ga (gs (ga (gs (ga (gs (ga (ha)))))))))))))) rfl rfl rfl rfl rfl (Nat.le_of_ble_eq_true rfl) rfl ?_
  refine aw_aload_n 0 dX5_init_60 rfl rfl ?_
  refine aw_iconst (0) dX5_init_61 (by decide) ?_
  refine aw_putQ fX5_33 dX5_init_62 [.ref (G.1 + (a + 1)), .ref (G.1 + (a + 2)), .ref (G.1 + (a + 3)), .ref (G.1 + (a + 4)), .ref (G.1 + (a + 5)), .ref (G.1 + (a + 6)), .ref (G.1 + (a + 7)), .int 0, .int 0] (gs (ga (gs (ga (gs (ga (gs (ga (gs (ga (gs (ga (gs (ga (ha))))))))))))))) rfl rfl rfl (Nat.le_of_ble_eq_true rfl) rfl ?_
  refine aw_aload_n 0 dX5_init_65 rfl rfl ?_
  refine aw_iconst (0) dX5_init_66 (by decide) ?_
  refine aw_putQ fX5_37 dX5_init_67 [.ref (G.1 + (a + 1)), .ref (G.1 + (a + 2)), .ref (G.1 + (a + 3)), .ref (G.1 + (a + 4)), .ref (G.1 + (a + 5)), .ref (G.1 + (a + 6)), .ref (G.1 + (a + 7)), .int 0, .int 0] (gs (gs (ga (gs (ga (gs (ga (gs (ga (gs (ga (gs (ga (gs (ga (ha)))))))))))))))) rfl rfl rfl (Nat.le_of_ble_eq_true rfl) rfl ?_
  exact aw_vret rfl dX5_init_70 (by decide) (by decide) ⟨rfl, by simp [hl], (gs (gs (gs (ga (gs (ga (gs (ga (gs (ga (gs (ga (gs (ga (gs (ga (ha))))))))))))))))), (gn (by omega) (gn (by omega) (gn (by omega) (ga (gn (by omega) (ga (gn (by omega) (ga (gn (by omega) (ga (gn (by omega) (ga (gn (by omega) (ga (gn (by omega) (gp (by simp [hl] <;> omega))))))))))))))))), (gn (by omega) (gn (by omega) (gn (by omega) (ga (gn (by omega) (ga (gn (by omega) (ga (gn (by omega) (ga (gn (by omega) (ga (gn (by omega) (gp (by simp [hl] <;> omega))))))))))))))), (gn (by omega) (gn (by omega) (gn (by omega) (ga (gn (by omega) (ga (gn (by omega) (ga (gn (by omega) (ga (gn (by omega) (gp (by simp [hl] <;> omega))))))))))))), (gn (by omega) (gn (by omega) (gn (by omega) (ga (gn (by omega) (ga (gn (by omega) (ga (gn (by omega) (gp (by simp [hl] <;> omega))))))))))), (gn (by omega) (gn (by omega) (gn (by omega) (ga (gn (by omega) (ga (gn (by omega) (gp (by simp [hl] <;> omega))))))))), (gn (by omega) (gn (by omega) (gn (by omega) (ga (gn (by omega) (gp (by simp [hl] <;> omega))))))), (gn (by omega) (gn (by omega) (gn (by omega) (gp (by simp [hl] <;> omega))))), lo_set (lo_set (lo_set (lo_app (lo_set (lo_app (lo_set (lo_app (lo_set (lo_app (lo_set (lo_app (lo_set (lo_app (lo_set (lo_app (lo_rf a h) (by simp [hl] <;> omega)) (by omega)) (by simp [hl] <;> omega)) (by omega)) (by simp [hl] <;> omega)) (by omega)) (by simp [hl] <;> omega)) (by omega)) (by simp [hl] <;> omega)) (by omega)) (by simp [hl] <;> omega)) (by omega)) (by simp [hl] <;> omega)) (by omega)) (by omega)) (by omega)⟩
set_option maxHeartbeats 4000000 in
theorem KX0_init {l : Launch} {G : xG} {h : List va_E} {a : Nat} (hl : h.length = a + 1) (ha : h[a]? = some (.inr (0, [.null, .null, .int 0]))) : CE l G yX0_init cX0_init 1 none 1 2 16 [.ref (G.1 + a)] h none (fun h1 => h1.length = a + 3 ∧ h1[a]? = some (.inr (0, [.ref (G.1 + (a + 1)), .ref (G.1 + (a + 2)), .int 0])) ∧ h1[a + 1]? = some (.inl (0, 10, .inl (fun _ => 0))) ∧ h1[a + 2]? = some (.inl (0, 6, .inl (fun _ => 0))) ∧ lo a h h1) := by
  refine cm_of rfl (Nat.le_of_ble_eq_true rfl) [(0, .ref (G.1 + a))] rfl ?_
  refine aw_aload_n 0 dX0_init_0 rfl rfl ?_
  refine aw_objInit lX0_3 oi_i oi_c dX0_init_1 (by decide) (by decide) (by decide) ?_
  refine aw_aload_n 0 dX0_init_4 rfl rfl ?_
  refine aw_bipush (10) dX0_init_5 (by decide) ?_
  refine aw_newaQ (ki := 0) (a + 1) 10 (10, .inl (fun _ => 0)) ac_i dX0_init_7 rfl rfl (fun _ => rfl) (rfl) (by decide) (by decide) (by decide) (by decide) (by simp [hl] <;> omega) ?_
  refine aw_putFQ fX0_9 dX0_init_9 [.ref (G.1 + (a + 1)), .null, .int 0] (ga (ha)) rfl rfl rfl rfl rfl (Nat.le_of_ble_eq_true rfl) rfl ?_
  refine aw_aload_n 0 dX0_init_12 rfl rfl ?_
  refine aw_bipush (6) dX0_init_13 (by decide) ?_
  refine aw_newaQ (ki := 0) (a + 2) 6 (6, .inl (fun _ => 0)) ac_i dX0_init_15 rfl rfl (fun _ => rfl) (rfl) (by decide) (by decide) (by decide) (by decide) (by simp [hl] <;> omega) ?_
  refine aw_putFQ fX0_15 dX0_init_17 [.ref (G.1 + (a + 1)), .ref (G.1 + (a + 2)), .int 0] (ga (gs (ga (ha)))) rfl rfl rfl rfl rfl (Nat.le_of_ble_eq_true rfl) rfl ?_
  refine aw_aload_n 0 dX0_init_20 rfl rfl ?_
  refine aw_iconst (0) dX0_init_21 (by decide) ?_
  refine aw_putQ fX0_18 dX0_init_22 [.ref (G.1 + (a + 1)), .ref (G.1 + (a + 2)), .int 0] (gs (ga (gs (ga (ha))))) rfl rfl rfl (Nat.le_of_ble_eq_true rfl) rfl ?_
  exact aw_vret rfl dX0_init_25 (by decide) (by decide) ⟨rfl, by simp [hl], (gs (gs (ga (gs (ga (ha)))))), (gn (by omega) (gn (by omega) (ga (gn (by omega) (gp (by simp [hl] <;> omega)))))), (gn (by omega) (gn (by omega) (gp (by simp [hl] <;> omega)))), lo_set (lo_set (lo_app (lo_set (lo_app (lo_rf a h) (by simp [hl] <;> omega)) (by omega)) (by simp [hl] <;> omega)) (by omega)) (by omega)⟩
set_option maxHeartbeats 4000000 in
theorem KX6_init {l : Launch} {G : xG} {h : List va_E} {a : Nat} (hl : h.length = a + 1) (ha : h[a]? = some (.inr (6, [.null, .null, .null, .null, .int 0]))) : CE l G yX6_init cX6_init 1 none 1 4 160 [.ref (G.1 + a)] h none (fun h1 => h1.length = a + 5 ∧ h1[a]? = some (.inr (6, [.ref (G.1 + (a + 1)), .ref (G.1 + (a + 2)), .ref (G.1 + (a + 3)), .ref (G.1 + (a + 4)), .int 0])) ∧ h1[a + 1]? = some (.inl (0, 40, .inl (fun _ => 0))) ∧ h1[a + 2]? = some (.inl (0, 40, .inl (fun _ => 0))) ∧ h1[a + 3]? = some (.inl (0, 40, .inl (fun _ => 0))) ∧ h1[a + 4]? = some (.inl (0, 40, .inl (fun _ => 0))) ∧ lo a h h1) := by
  refine cm_of rfl (Nat.le_of_ble_eq_true rfl) [(0, .ref (G.1 + a))] rfl ?_
  refine aw_aload_n 0 dX6_init_0 rfl rfl ?_
  refine aw_objInit lX6_3 oi_i oi_c dX6_init_1 (by decide) (by decide) (by decide) ?_
  refine aw_aload_n 0 dX6_init_4 rfl rfl ?_
  refine aw_bipush (40) dX6_init_5 (by decide) ?_
  refine aw_newaQ (ki := 0) (a + 1) 40 (40, .inl (fun _ => 0)) ac_i dX6_init_7 rfl rfl (fun _ => rfl) (rfl) (by decide) (by decide) (by decide) (by decide) (by simp [hl] <;> omega) ?_
  refine aw_putFQ fX6_9 dX6_init_9 [.ref (G.1 + (a + 1)), .null, .null, .null, .int 0] (ga (ha)) rfl rfl rfl rfl rfl (Nat.le_of_ble_eq_true rfl) rfl ?_
  refine aw_aload_n 0 dX6_init_12 rfl rfl ?_
  refine aw_bipush (40) dX6_init_13 (by decide) ?_
  refine aw_newaQ (ki := 0) (a + 2) 40 (40, .inl (fun _ => 0)) ac_i dX6_init_15 rfl rfl (fun _ => rfl) (rfl) (by decide) (by decide) (by decide) (by decide) (by simp [hl] <;> omega) ?_
  refine aw_putFQ fX6_15 dX6_init_17 [.ref (G.1 + (a + 1)), .ref (G.1 + (a + 2)), .null, .null, .int 0] (ga (gs (ga (ha)))) rfl rfl rfl rfl rfl (Nat.le_of_ble_eq_true rfl) rfl ?_
  refine aw_aload_n 0 dX6_init_20 rfl rfl ?_
  refine aw_bipush (40) dX6_init_21 (by decide) ?_
  refine aw_newaQ (ki := 0) (a + 3) 40 (40, .inl (fun _ => 0)) ac_i dX6_init_23 rfl rfl (fun _ => rfl) (rfl) (by decide) (by decide) (by decide) (by decide) (by simp [hl] <;> omega) ?_
  refine aw_putFQ fX6_18 dX6_init_25 [.ref (G.1 + (a + 1)), .ref (G.1 + (a + 2)), .ref (G.1 + (a + 3)), .null, .int 0] (ga (gs (ga (gs (ga (ha)))))) rfl rfl rfl rfl rfl (Nat.le_of_ble_eq_true rfl) rfl ?_
  refine aw_aload_n 0 dX6_init_28 rfl rfl ?_
  refine aw_bipush (40) dX6_init_29 (by decide) ?_
  refine aw_newaQ (ki := 0) (a + 4) 40 (40, .inl (fun _ => 0)) ac_i dX6_init_31 rfl rfl (fun _ => rfl) (rfl) (by decide) (by decide) (by decide) (by decide) (by simp [hl] <;> omega) ?_
  refine aw_putFQ fX6_21 dX6_init_33 [.ref (G.1 + (a + 1)), .ref (G.1 + (a + 2)), .ref (G.1 + (a + 3)), .ref (G.1 + (a + 4)), .int 0] (ga (gs (ga (gs (ga (gs (ga (ha)))))))) rfl rfl rfl rfl rfl (Nat.le_of_ble_eq_true rfl) rfl ?_
  refine aw_aload_n 0 dX6_init_36 rfl rfl ?_
  refine aw_iconst (0) dX6_init_37 (by decide) ?_
  refine aw_putQ fX6_24 dX6_init_38 [.ref (G.1 + (a + 1)), .ref (G.1 + (a + 2)), .ref (G.1 + (a + 3)), .ref (G.1 + (a + 4)), .int 0] (gs (ga (gs (ga (gs (ga (gs (ga (ha))))))))) rfl rfl rfl (Nat.le_of_ble_eq_true rfl) rfl ?_
  exact aw_vret rfl dX6_init_41 (by decide) (by decide) ⟨rfl, by simp [hl], (gs (gs (ga (gs (ga (gs (ga (gs (ga (ha)))))))))), (gn (by omega) (gn (by omega) (ga (gn (by omega) (ga (gn (by omega) (ga (gn (by omega) (gp (by simp [hl] <;> omega)))))))))), (gn (by omega) (gn (by omega) (ga (gn (by omega) (ga (gn (by omega) (gp (by simp [hl] <;> omega)))))))), (gn (by omega) (gn (by omega) (ga (gn (by omega) (gp (by simp [hl] <;> omega)))))), (gn (by omega) (gn (by omega) (gp (by simp [hl] <;> omega)))), lo_set (lo_set (lo_app (lo_set (lo_app (lo_set (lo_app (lo_set (lo_app (lo_rf a h) (by simp [hl] <;> omega)) (by omega)) (by simp [hl] <;> omega)) (by omega)) (by simp [hl] <;> omega)) (by omega)) (by simp [hl] <;> omega)) (by omega)) (by omega)⟩
set_option maxHeartbeats 4000000 in
theorem KX2_init {l : Launch} {G : xG} {h : List va_E} {a : Nat} (hl : h.length = a + 1) (ha : h[a]? = some (.inr (2, [.null, .int 0, .int 0, .int 0, .int 0]))) : CE l G yX2_init cX2_init 1 none 1 1 60 [.ref (G.1 + a)] h none (fun h1 => h1.length = a + 2 ∧ h1[a]? = some (.inr (2, [.ref (G.1 + (a + 1)), .int 0, .int (-9), .int (-9), .int 0])) ∧ h1[a + 1]? = some (.inl (0, 60, .inl (fun _ => 0))) ∧ lo a h h1) := by
  refine cm_of rfl (Nat.le_of_ble_eq_true rfl) [(0, .ref (G.1 + a))] rfl ?_
  refine aw_aload_n 0 dX2_init_0 rfl rfl ?_
  refine aw_objInit lX2_3 oi_i oi_c dX2_init_1 (by decide) (by decide) (by decide) ?_
  refine aw_aload_n 0 dX2_init_4 rfl rfl ?_
  refine aw_bipush (60) dX2_init_5 (by decide) ?_
  refine aw_newaQ (ki := 0) (a + 1) 60 (60, .inl (fun _ => 0)) ac_i dX2_init_7 rfl rfl (fun _ => rfl) (rfl) (by decide) (by decide) (by decide) (by decide) (by simp [hl] <;> omega) ?_
  refine aw_putFQ fX2_9 dX2_init_9 [.ref (G.1 + (a + 1)), .int 0, .int 0, .int 0, .int 0] (ga (ha)) rfl rfl rfl rfl rfl (Nat.le_of_ble_eq_true rfl) rfl ?_
  refine aw_aload_n 0 dX2_init_12 rfl rfl ?_
  refine aw_iconst (0) dX2_init_13 (by decide) ?_
  refine aw_putQ fX2_15 dX2_init_14 [.ref (G.1 + (a + 1)), .int 0, .int 0, .int 0, .int 0] (gs (ga (ha))) rfl rfl rfl (Nat.le_of_ble_eq_true rfl) rfl ?_
  refine aw_aload_n 0 dX2_init_17 rfl rfl ?_
  refine aw_bipush (-9) dX2_init_18 (by decide) ?_
  refine aw_putQ fX2_19 dX2_init_20 [.ref (G.1 + (a + 1)), .int 0, .int (-9), .int 0, .int 0] (gs (gs (ga (ha)))) rfl rfl rfl (Nat.le_of_ble_eq_true rfl) rfl ?_
  refine aw_aload_n 0 dX2_init_23 rfl rfl ?_
  refine aw_bipush (-9) dX2_init_24 (by decide) ?_
  refine aw_putQ fX2_22 dX2_init_26 [.ref (G.1 + (a + 1)), .int 0, .int (-9), .int (-9), .int 0] (gs (gs (gs (ga (ha))))) rfl rfl rfl (Nat.le_of_ble_eq_true rfl) rfl ?_
  refine aw_aload_n 0 dX2_init_29 rfl rfl ?_
  refine aw_iconst (0) dX2_init_30 (by decide) ?_
  refine aw_putQ fX2_25 dX2_init_31 [.ref (G.1 + (a + 1)), .int 0, .int (-9), .int (-9), .int 0] (gs (gs (gs (gs (ga (ha)))))) rfl rfl rfl (Nat.le_of_ble_eq_true rfl) rfl ?_
  exact aw_vret rfl dX2_init_34 (by decide) (by decide) ⟨rfl, by simp [hl], (gs (gs (gs (gs (gs (ga (ha))))))), (gn (by omega) (gn (by omega) (gn (by omega) (gn (by omega) (gn (by omega) (gp (by simp [hl] <;> omega))))))), lo_set (lo_set (lo_set (lo_set (lo_set (lo_app (lo_rf a h) (by simp [hl] <;> omega)) (by omega)) (by omega)) (by omega)) (by omega)) (by omega)⟩
set_option maxHeartbeats 4000000 in
theorem KX3_init {l : Launch} {G : xG} {h : List va_E} {a : Nat} (hl : h.length = a + 1) (ha : h[a]? = some (.inr (3, [.null, .null, .null, .null, .null, .int 0, .int 0]))) : CE l G yX3_init cX3_init 1 none 1 5 13423 [.ref (G.1 + a)] h none (fun h1 => h1.length = a + 6 ∧ h1[a]? = some (.inr (3, [.ref (G.1 + (a + 1)), .ref (G.1 + (a + 2)), .ref (G.1 + (a + 3)), .ref (G.1 + (a + 4)), .ref (G.1 + (a + 5)), .int 0, .int 0])) ∧ h1[a + 1]? = some (.inl (0, 100, .inl (fun _ => 0))) ∧ h1[a + 2]? = some (.inl (0, 11, .inl (fun _ => 0))) ∧ h1[a + 3]? = some (.inl (0, 11264, .inl (fun _ => 0))) ∧ h1[a + 4]? = some (.inl (0, 1024, .inl (fun _ => 0))) ∧ h1[a + 5]? = some (.inl (0, 1024, .inl (fun _ => 0))) ∧ lo a h h1) := by
  refine cm_of rfl (Nat.le_of_ble_eq_true rfl) [(0, .ref (G.1 + a))] rfl ?_
  refine aw_aload_n 0 dX3_init_0 rfl rfl ?_
  refine aw_objInit lX3_3 oi_i oi_c dX3_init_1 (by decide) (by decide) (by decide) ?_
  refine aw_aload_n 0 dX3_init_4 rfl rfl ?_
  refine aw_bipush (100) dX3_init_5 (by decide) ?_
  refine aw_newaQ (ki := 0) (a + 1) 100 (100, .inl (fun _ => 0)) ac_i dX3_init_7 rfl rfl (fun _ => rfl) (rfl) (by decide) (by decide) (by decide) (by decide) (by simp [hl] <;> omega) ?_
  refine aw_putFQ fX3_9 dX3_init_9 [.ref (G.1 + (a + 1)), .null, .null, .null, .null, .int 0, .int 0] (ga (ha)) rfl rfl rfl rfl rfl (Nat.le_of_ble_eq_true rfl) rfl ?_
  refine aw_aload_n 0 dX3_init_12 rfl rfl ?_
  refine aw_bipush (11) dX3_init_13 (by decide) ?_
  refine aw_newaQ (ki := 0) (a + 2) 11 (11, .inl (fun _ => 0)) ac_i dX3_init_15 rfl rfl (fun _ => rfl) (rfl) (by decide) (by decide) (by decide) (by decide) (by simp [hl] <;> omega) ?_
  refine aw_putFQ fX3_15 dX3_init_17 [.ref (G.1 + (a + 1)), .ref (G.1 + (a + 2)), .null, .null, .null, .int 0, .int 0] (ga (gs (ga (ha)))) rfl rfl rfl rfl rfl (Nat.le_of_ble_eq_true rfl) rfl ?_
  refine aw_aload_n 0 dX3_init_20 rfl rfl ?_
  refine aw_sipush (11264) dX3_init_21 (by decide) ?_
  refine aw_newaQ (ki := 0) (a + 3) 11264 (11264, .inl (fun _ => 0)) ac_i dX3_init_24 rfl rfl (fun _ => rfl) (rfl) (by decide) (by decide) (by decide) (by decide) (by simp [hl] <;> omega) ?_
  refine aw_putFQ fX3_18 dX3_init_26 [.ref (G.1 + (a + 1)), .ref (G.1 + (a + 2)), .ref (G.1 + (a + 3)), .null, .null, .int 0, .int 0] (ga (gs (ga (gs (ga (ha)))))) rfl rfl rfl rfl rfl (Nat.le_of_ble_eq_true rfl) rfl ?_
  refine aw_aload_n 0 dX3_init_29 rfl rfl ?_
  refine aw_sipush (1024) dX3_init_30 (by decide) ?_
  refine aw_newaQ (ki := 0) (a + 4) 1024 (1024, .inl (fun _ => 0)) ac_i dX3_init_33 rfl rfl (fun _ => rfl) (rfl) (by decide) (by decide) (by decide) (by decide) (by simp [hl] <;> omega) ?_
  refine aw_putQ fX3_21 dX3_init_35 [.ref (G.1 + (a + 1)), .ref (G.1 + (a + 2)), .ref (G.1 + (a + 3)), .ref (G.1 + (a + 4)), .null, .int 0, .int 0] (ga (gs (ga (gs (ga (gs (ga (ha)))))))) rfl rfl rfl (Nat.le_of_ble_eq_true rfl) rfl ?_
  refine aw_aload_n 0 dX3_init_38 rfl rfl ?_
  refine aw_sipush (1024) dX3_init_39 (by decide) ?_
  refine aw_newaQ (ki := 0) (a + 5) 1024 (1024, .inl (fun _ => 0)) ac_i dX3_init_42 rfl rfl (fun _ => rfl) (rfl) (by decide) (by decide) (by decide) (by decide) (by simp [hl] <;> omega) ?_
  refine aw_putQ fX3_24 dX3_init_44 [.ref (G.1 + (a + 1)), .ref (G.1 + (a + 2)), .ref (G.1 + (a + 3)), .ref (G.1 + (a + 4)), .ref (G.1 + (a + 5)), .int 0, .int 0] (ga (gs (ga (gs (ga (gs (ga (gs (ga (ha)))))))))) rfl rfl rfl (Nat.le_of_ble_eq_true rfl) rfl ?_
  refine aw_aload_n 0 dX3_init_47 rfl rfl ?_
  refine aw_iconst (0) dX3_init_48 (by decide) ?_
  refine aw_putQ fX3_27 dX3_init_49 [.ref (G.1 + (a + 1)), .ref (G.1 + (a + 2)), .ref (G.1 + (a + 3)), .ref (G.1 + (a + 4)), .ref (G.1 + (a + 5)), .int 0, .int 0] (gs (ga (gs (ga (gs (ga (gs (ga (gs (ga (ha))))))))))) rfl rfl rfl (Nat.le_of_ble_eq_true rfl) rfl ?_
  refine aw_aload_n 0 dX3_init_52 rfl rfl ?_
  refine aw_iconst (0) dX3_init_53 (by decide) ?_
  refine aw_putQ fX3_31 dX3_init_54 [.ref (G.1 + (a + 1)), .ref (G.1 + (a + 2)), .ref (G.1 + (a + 3)), .ref (G.1 + (a + 4)), .ref (G.1 + (a + 5)), .int 0, .int 0] (gs (gs (ga (gs (ga (gs (ga (gs (ga (gs (ga (ha)))))))))))) rfl rfl rfl (Nat.le_of_ble_eq_true rfl) rfl ?_
  exact aw_vret rfl dX3_init_57 (by decide) (by decide) ⟨rfl, by simp [hl], (gs (gs (gs (ga (gs (ga (gs (ga (gs (ga (gs (ga (ha))))))))))))), (gn (by omega) (gn (by omega) (gn (by omega) (ga (gn (by omega) (ga (gn (by omega) (ga (gn (by omega) (ga (gn (by omega) (gp (by simp [hl] <;> omega))))))))))))), (gn (by omega) (gn (by omega) (gn (by omega) (ga (gn (by omega) (ga (gn (by omega) (ga (gn (by omega) (gp (by simp [hl] <;> omega))))))))))), (gn (by omega) (gn (by omega) (gn (by omega) (ga (gn (by omega) (ga (gn (by omega) (gp (by simp [hl] <;> omega))))))))), (gn (by omega) (gn (by omega) (gn (by omega) (ga (gn (by omega) (gp (by simp [hl] <;> omega))))))), (gn (by omega) (gn (by omega) (gn (by omega) (gp (by simp [hl] <;> omega))))), lo_set (lo_set (lo_set (lo_app (lo_set (lo_app (lo_set (lo_app (lo_set (lo_app (lo_set (lo_app (lo_rf a h) (by simp [hl] <;> omega)) (by omega)) (by simp [hl] <;> omega)) (by omega)) (by simp [hl] <;> omega)) (by omega)) (by simp [hl] <;> omega)) (by omega)) (by simp [hl] <;> omega)) (by omega)) (by omega)) (by omega)⟩
set_option maxHeartbeats 4000000 in
theorem KX7_init {l : Launch} {G : xG} {h : List va_E} {a : Nat} (hl : h.length = a + 1) (ha : h[a]? = some (.inr (7, [.null, .null, .null, .null, .null, .null, .null, .null, .null, .int 0, .int 0, .int 0, .int 0, .int 0]))) : CE l G yX7_init cX7_init 1 none 1 9 2228 [.ref (G.1 + a)] h none (fun h1 => h1.length = a + 10 ∧ h1[a]? = some (.inr (7, [.ref (G.1 + (a + 1)), .ref (G.1 + (a + 2)), .ref (G.1 + (a + 3)), .ref (G.1 + (a + 4)), .ref (G.1 + (a + 5)), .ref (G.1 + (a + 6)), .ref (G.1 + (a + 7)), .ref (G.1 + (a + 8)), .ref (G.1 + (a + 9)), .int 0, .int 0, .int 0, .int 0, .int 0])) ∧ h1[a + 1]? = some (.inl (0, 8, .inl (fun _ => 0))) ∧ h1[a + 2]? = some (.inl (0, 12, .inl (fun _ => 0))) ∧ h1[a + 3]? = some (.inl (0, 64, .inl (fun _ => 0))) ∧ h1[a + 4]? = some (.inl (0, 64, .inl (fun _ => 0))) ∧ h1[a + 5]? = some (.inl (0, 8, .inl (fun _ => 0))) ∧ h1[a + 6]? = some (.inl (0, 8, .inl (fun _ => 0))) ∧ h1[a + 7]? = some (.inl (0, 8, .inl (fun _ => 0))) ∧ h1[a + 8]? = some (.inl (0, 2048, .inl (fun _ => 0))) ∧ h1[a + 9]? = some (.inl (0, 8, .inl (fun _ => 0))) ∧ lo a h h1) := by
  refine cm_of rfl (Nat.le_of_ble_eq_true rfl) [(0, .ref (G.1 + a))] rfl ?_
  refine aw_aload_n 0 dX7_init_0 rfl rfl ?_
  refine aw_objInit lX7_3 oi_i oi_c dX7_init_1 (by decide) (by decide) (by decide) ?_
  refine aw_aload_n 0 dX7_init_4 rfl rfl ?_
  refine aw_bipush (8) dX7_init_5 (by decide) ?_
  refine aw_newaQ (ki := 0) (a + 1) 8 (8, .inl (fun _ => 0)) ac_i dX7_init_7 rfl rfl (fun _ => rfl) (rfl) (by decide) (by decide) (by decide) (by decide) (by simp [hl] <;> omega) ?_
  refine aw_putFQ fX7_9 dX7_init_9 [.ref (G.1 + (a + 1)), .null, .null, .null, .null, .null, .null, .null, .null, .int 0, .int 0, .int 0, .int 0, .int 0] (ga (ha)) rfl rfl rfl rfl rfl (Nat.le_of_ble_eq_true rfl) rfl ?_
  refine aw_aload_n 0 dX7_init_12 rfl rfl ?_
  refine aw_bipush (12) dX7_init_13 (by decide) ?_
  refine aw_newaQ (ki := 0) (a + 2) 12 (12, .inl (fun _ => 0)) ac_i dX7_init_15 rfl rfl (fun _ => rfl) (rfl) (by decide) (by decide) (by decide) (by decide) (by simp [hl] <;> omega) ?_
  refine aw_putFQ fX7_15 dX7_init_17 [.ref (G.1 + (a + 1)), .ref (G.1 + (a + 2)), .null, .null, .null, .null, .null, .null, .null, .int 0, .int 0, .int 0, .int 0, .int 0] (ga (gs (ga (ha)))) rfl rfl rfl rfl rfl (Nat.le_of_ble_eq_true rfl) rfl ?_
  refine aw_aload_n 0 dX7_init_20 rfl rfl ?_
  refine aw_bipush (64) dX7_init_21 (by decide) ?_
  refine aw_newaQ (ki := 0) (a + 3) 64 (64, .inl (fun _ => 0)) ac_i dX7_init_23 rfl rfl (fun _ => rfl) (rfl) (by decide) (by decide) (by decide) (by decide) (by simp [hl] <;> omega) ?_
  refine aw_putFQ fX7_18 dX7_init_25 [.ref (G.1 + (a + 1)), .ref (G.1 + (a + 2)), .ref (G.1 + (a + 3)), .null, .null, .null, .null, .null, .null, .int 0, .int 0, .int 0, .int 0, .int 0] (ga (gs (ga (gs (ga (ha)))))) rfl rfl rfl rfl rfl (Nat.le_of_ble_eq_true rfl) rfl ?_
  refine aw_aload_n 0 dX7_init_28 rfl rfl ?_
  refine aw_bipush (64) dX7_init_29 (by decide) ?_
  refine aw_newaQ (ki := 0) (a + 4) 64 (64, .inl (fun _ => 0)) ac_i dX7_init_31 rfl rfl (fun _ => rfl) (rfl) (by decide) (by decide) (by decide) (by decide) (by simp [hl] <;> omega) ?_
  refine aw_putFQ fX7_21 dX7_init_33 [.ref (G.1 + (a + 1)), .ref (G.1 + (a + 2)), .ref (G.1 + (a + 3)), .ref (G.1 + (a + 4)), .null, .null, .null, .null, .null, .int 0, .int 0, .int 0, .int 0, .int 0] (ga (gs (ga (gs (ga (gs (ga (ha)))))))) rfl rfl rfl rfl rfl (Nat.le_of_ble_eq_true rfl) rfl ?_
  refine aw_aload_n 0 dX7_init_36 rfl rfl ?_
  refine aw_bipush (8) dX7_init_37 (by decide) ?_
  refine aw_newaQ (ki := 0) (a + 5) 8 (8, .inl (fun _ => 0)) ac_i dX7_init_39 rfl rfl (fun _ => rfl) (rfl) (by decide) (by decide) (by decide) (by decide) (by simp [hl] <;> omega) ?_
  refine aw_putFQ fX7_24 dX7_init_41 [.ref (G.1 + (a + 1)), .ref (G.1 + (a + 2)), .ref (G.1 + (a + 3)), .ref (G.1 + (a + 4)), .ref (G.1 + (a + 5)), .null, .null, .null, .null, .int 0, .int 0, .int 0, .int 0, .int 0] (ga (gs (ga (gs (ga (gs (ga (gs (ga (ha)))))))))) rfl rfl rfl rfl rfl (Nat.le_of_ble_eq_true rfl) rfl ?_
  refine aw_aload_n 0 dX7_init_44 rfl rfl ?_
  refine aw_bipush (8) dX7_init_45 (by decide) ?_
  refine aw_newaQ (ki := 0) (a + 6) 8 (8, .inl (fun _ => 0)) ac_i dX7_init_47 rfl rfl (fun _ => rfl) (rfl) (by decide) (by decide) (by decide) (by decide) (by simp [hl] <;> omega) ?_
  refine aw_putFQ fX7_27 dX7_init_49 [.ref (G.1 + (a + 1)), .ref (G.1 + (a + 2)), .ref (G.1 + (a + 3)), .ref (G.1 + (a + 4)), .ref (G.1 + (a + 5)), .ref (G.1 + (a + 6)), .null, .null, .null, .int 0, .int 0, .int 0, .int 0, .int 0] (ga (gs (ga (gs (ga (gs (ga (gs (ga (gs (ga (ha)))))))))))) rfl rfl rfl rfl rfl (Nat.le_of_ble_eq_true rfl) rfl ?_
  refine aw_aload_n 0 dX7_init_52 rfl rfl ?_
  refine aw_bipush (8) dX7_init_53 (by decide) ?_
  refine aw_newaQ (ki := 0) (a + 7) 8 (8, .inl (fun _ => 0)) ac_i dX7_init_55 rfl rfl (fun _ => rfl) (rfl) (by decide) (by decide) (by decide) (by decide) (by simp [hl] <;> omega) ?_
  refine aw_putFQ fX7_30 dX7_init_57 [.ref (G.1 + (a + 1)), .ref (G.1 + (a + 2)), .ref (G.1 + (a + 3)), .ref (G.1 + (a + 4)), .ref (G.1 + (a + 5)), .ref (G.1 + (a + 6)), .ref (G.1 + (a + 7)), .null, .null, .int 0, .int 0, .int 0, .int 0, .int 0] (ga (gs (ga (gs (ga (gs (ga (gs (ga (gs (ga (gs (ga (ha)))))))))))))) rfl rfl rfl rfl rfl (Nat.le_of_ble_eq_true rfl) rfl ?_
  refine aw_aload_n 0 dX7_init_60 rfl rfl ?_
  refine aw_sipush (2048) dX7_init_61 (by decide) ?_
  refine aw_newaQ (ki := 0) (a + 8) 2048 (2048, .inl (fun _ => 0)) ac_i dX7_init_64 rfl rfl (fun _ => rfl) (rfl) (by decide) (by decide) (by decide) (by decide) (by simp [hl] <;> omega) ?_
  refine aw_putFQ fX7_33 dX7_init_66 [.ref (G.1 + (a + 1)), .ref (G.1 + (a + 2)), .ref (G.1 + (a + 3)), .ref (G.1 + (a + 4)), .ref (G.1 + (a + 5)), .ref (G.1 + (a + 6)), .ref (G.1 + (a + 7)), .ref (G.1 + (a + 8)), .null, .int 0, .int 0, .int 0, .int 0, .int 0] (ga (gs (ga (gs (ga (gs (ga (gs (ga (gs (ga (gs (ga (gs (ga (ha)))))))))))))))) rfl rfl rfl rfl rfl (Nat.le_of_ble_eq_true rfl) rfl ?_
  refine aw_aload_n 0 dX7_init_69 rfl rfl ?_
  refine aw_bipush (8) dX7_init_70 (by decide) ?_
  refine aw_newaQ (ki := 0) (a + 9) 8 (8, .inl (fun _ => 0)) ac_i dX7_init_72 rfl rfl (fun _ => rfl) (rfl) (by decide) (by decide) (by decide) (by decide) (by simp [hl] <;> omega) ?_
  refine aw_putFQ fX7_36 dX7_init_74 [.ref (G.1 + (a + 1)), .ref (G.1 + (a + 2)), .ref (G.1 + (a + 3)), .ref (G.1 + (a + 4)), .ref (G.1 + (a + 5)), .ref (G.1 + (a + 6)), .ref (G.1 + (a + 7)), .ref (G.1 + (a + 8)), .ref (G.1 + (a + 9)), .int 0, .int 0, .int 0, .int 0, .int 0] (ga (gs (ga (gs (ga (gs (ga (gs (ga (gs (ga (gs (ga (gs (ga (gs (ga (ha)))))))))))))))))) rfl rfl rfl rfl rfl (Nat.le_of_ble_eq_true rfl) rfl ?_
  refine aw_aload_n 0 dX7_init_77 rfl rfl ?_
  refine aw_iconst (0) dX7_init_78 (by decide) ?_
  refine aw_putQ fX7_39 dX7_init_79 [.ref (G.1 + (a + 1)), .ref (G.1 + (a + 2)), .ref (G.1 + (a + 3)), .ref (G.1 + (a + 4)), .ref (G.1 + (a + 5)), .ref (G.1 + (a + 6)), .ref (G.1 + (a + 7)), .ref (G.1 + (a + 8)), .ref (G.1 + (a + 9)), .int 0, .int 0, .int 0, .int 0, .int 0] (gs (ga (gs (ga (gs (ga (gs (ga (gs (ga (gs (ga (gs (ga (gs (ga (gs (ga (ha))))))))))))))))))) rfl rfl rfl (Nat.le_of_ble_eq_true rfl) rfl ?_
  refine aw_aload_n 0 dX7_init_82 rfl rfl ?_
  refine aw_iconst (0) dX7_init_83 (by decide) ?_
  refine aw_putQ fX7_43 dX7_init_84 [.ref (G.1 + (a + 1)), .ref (G.1 + (a + 2)), .ref (G.1 + (a + 3)), .ref (G.1 + (a + 4)), .ref (G.1 + (a + 5)), .ref (G.1 + (a + 6)), .ref (G.1 + (a + 7)), .ref (G.1 + (a + 8)), .ref (G.1 + (a + 9)), .int 0, .int 0, .int 0, .int 0, .int 0] (gs (gs (ga (gs (ga (gs (ga (gs (ga (gs (ga (gs (ga (gs (ga (gs (ga (gs (ga (ha)))))))))))))))))))) rfl rfl rfl (Nat.le_of_ble_eq_true rfl) rfl ?_
  refine aw_aload_n 0 dX7_init_87 rfl rfl ?_
  refine aw_iconst (0) dX7_init_88 (by decide) ?_
  refine aw_putQ fX7_46 dX7_init_89 [.ref (G.1 + (a + 1)), .ref (G.1 + (a + 2)), .ref (G.1 + (a + 3)), .ref (G.1 + (a + 4)), .ref (G.1 + (a + 5)), .ref (G.1 + (a + 6)), .ref (G.1 + (a + 7)), .ref (G.1 + (a + 8)), .ref (G.1 + (a + 9)), .int 0, .int 0, .int 0, .int 0, .int 0] (gs (gs (gs (ga (gs (ga (gs (ga (gs (ga (gs (ga (gs (ga (gs (ga (gs (ga (gs (ga (ha))))))))))))))))))))) rfl rfl rfl (Nat.le_of_ble_eq_true rfl) rfl ?_
  refine aw_aload_n 0 dX7_init_92 rfl rfl ?_
  refine aw_iconst (0) dX7_init_93 (by decide) ?_
  refine aw_putQ fX7_49 dX7_init_94 [.ref (G.1 + (a + 1)), .ref (G.1 + (a + 2)), .ref (G.1 + (a + 3)), .ref (G.1 + (a + 4)), .ref (G.1 + (a + 5)), .ref (G.1 + (a + 6)), .ref (G.1 + (a + 7)), .ref (G.1 + (a + 8)), .ref (G.1 + (a + 9)), .int 0, .int 0, .int 0, .int 0, .int 0] (gs (gs (gs (gs (ga (gs (ga (gs (ga (gs (ga (gs (ga (gs (ga (gs (ga (gs (ga (gs (ga (ha)))))))))))))))))))))) rfl rfl rfl (Nat.le_of_ble_eq_true rfl) rfl ?_
  refine aw_aload_n 0 dX7_init_97 rfl rfl ?_
  refine aw_iconst (0) dX7_init_98 (by decide) ?_
  refine aw_putQ fX7_52 dX7_init_99 [.ref (G.1 + (a + 1)), .ref (G.1 + (a + 2)), .ref (G.1 + (a + 3)), .ref (G.1 + (a + 4)), .ref (G.1 + (a + 5)), .ref (G.1 + (a + 6)), .ref (G.1 + (a + 7)), .ref (G.1 + (a + 8)), .ref (G.1 + (a + 9)), .int 0, .int 0, .int 0, .int 0, .int 0] (gs (gs (gs (gs (gs (ga (gs (ga (gs (ga (gs (ga (gs (ga (gs (ga (gs (ga (gs (ga (gs (ga (ha))))))))))))))))))))))) rfl rfl rfl (Nat.le_of_ble_eq_true rfl) rfl ?_
  exact aw_vret rfl dX7_init_102 (by decide) (by decide) ⟨rfl, by simp [hl], (gs (gs (gs (gs (gs (gs (ga (gs (ga (gs (ga (gs (ga (gs (ga (gs (ga (gs (ga (gs (ga (gs (ga (ha)))))))))))))))))))))))), (gn (by omega) (gn (by omega) (gn (by omega) (gn (by omega) (gn (by omega) (gn (by omega) (ga (gn (by omega) (ga (gn (by omega) (ga (gn (by omega) (ga (gn (by omega) (ga (gn (by omega) (ga (gn (by omega) (ga (gn (by omega) (ga (gn (by omega) (gp (by simp [hl] <;> omega)))))))))))))))))))))))), (gn (by omega) (gn (by omega) (gn (by omega) (gn (by omega) (gn (by omega) (gn (by omega) (ga (gn (by omega) (ga (gn (by omega) (ga (gn (by omega) (ga (gn (by omega) (ga (gn (by omega) (ga (gn (by omega) (ga (gn (by omega) (gp (by simp [hl] <;> omega)))))))))))))))))))))), (gn (by omega) (gn (by omega) (gn (by omega) (gn (by omega) (gn (by omega) (gn (by omega) (ga (gn (by omega) (ga (gn (by omega) (ga (gn (by omega) (ga (gn (by omega) (ga (gn (by omega) (ga (gn (by omega) (gp (by simp [hl] <;> omega)))))))))))))))))))), (gn (by omega) (gn (by omega) (gn (by omega) (gn (by omega) (gn (by omega) (gn (by omega) (ga (gn (by omega) (ga (gn (by omega) (ga (gn (by omega) (ga (gn (by omega) (ga (gn (by omega) (gp (by simp [hl] <;> omega)))))))))))))))))), (gn (by omega) (gn (by omega) (gn (by omega) (gn (by omega) (gn (by omega) (gn (by omega) (ga (gn (by omega) (ga (gn (by omega) (ga (gn (by omega) (ga (gn (by omega) (gp (by simp [hl] <;> omega)))))))))))))))), (gn (by omega) (gn (by omega) (gn (by omega) (gn (by omega) (gn (by omega) (gn (by omega) (ga (gn (by omega) (ga (gn (by omega) (ga (gn (by omega) (gp (by simp [hl] <;> omega)))))))))))))), (gn (by omega) (gn (by omega) (gn (by omega) (gn (by omega) (gn (by omega) (gn (by omega) (ga (gn (by omega) (ga (gn (by omega) (gp (by simp [hl] <;> omega)))))))))))), (gn (by omega) (gn (by omega) (gn (by omega) (gn (by omega) (gn (by omega) (gn (by omega) (ga (gn (by omega) (gp (by simp [hl] <;> omega)))))))))), (gn (by omega) (gn (by omega) (gn (by omega) (gn (by omega) (gn (by omega) (gn (by omega) (gp (by simp [hl] <;> omega)))))))), lo_set (lo_set (lo_set (lo_set (lo_set (lo_set (lo_app (lo_set (lo_app (lo_set (lo_app (lo_set (lo_app (lo_set (lo_app (lo_set (lo_app (lo_set (lo_app (lo_set (lo_app (lo_set (lo_app (lo_rf a h) (by simp [hl] <;> omega)) (by omega)) (by simp [hl] <;> omega)) (by omega)) (by simp [hl] <;> omega)) (by omega)) (by simp [hl] <;> omega)) (by omega)) (by simp [hl] <;> omega)) (by omega)) (by simp [hl] <;> omega)) (by omega)) (by simp [hl] <;> omega)) (by omega)) (by simp [hl] <;> omega)) (by omega)) (by simp [hl] <;> omega)) (by omega)) (by omega)) (by omega)) (by omega)) (by omega)) (by omega)⟩
set_option maxHeartbeats 4000000 in
theorem KX1_init {l : Launch} {G : xG} {h : List va_E} {a : Nat} (hl : h.length = a + 1) (ha : h[a]? = some (.inr (1, [.null, .null, .null, .null, .null, .null, .null, .null, .null, .null, .int 0, .int 0, .int 0, .int 0]))) : CE l G yX1_init cX1_init 2 none 1 10 288 [.ref (G.1 + a)] h none (fun h1 => h1.length = a + 11 ∧ h1[a]? = some (.inr (1, [.ref (G.1 + (a + 1)), .ref (G.1 + (a + 2)), .ref (G.1 + (a + 3)), .ref (G.1 + (a + 4)), .ref (G.1 + (a + 5)), .ref (G.1 + (a + 6)), .ref (G.1 + (a + 7)), .ref (G.1 + (a + 8)), .ref (G.1 + (a + 9)), .ref (G.1 + (a + 10)), .int 0, .int 5, .int 1, .int 1])) ∧ h1[a + 1]? = some (.inl (0, 20, .inl (xid 20))) ∧ h1[a + 2]? = some (.inl (0, 20, .inl (xid 20))) ∧ h1[a + 3]? = some (.inl (0, 4, .inl (xcs 1500 4))) ∧ h1[a + 4]? = some (.inl (0, 4, .inl (fun _ => 0))) ∧ h1[a + 5]? = some (.inl (0, 40, .inl (fun _ => 0))) ∧ h1[a + 6]? = some (.inl (0, 40, .inl (fun _ => 0))) ∧ h1[a + 7]? = some (.inl (0, 40, .inl (fun _ => 0))) ∧ h1[a + 8]? = some (.inl (0, 40, .inl (fun _ => 0))) ∧ h1[a + 9]? = some (.inl (0, 40, .inl (fun _ => 0))) ∧ h1[a + 10]? = some (.inl (1, 40, .inr (.inl (fun _ => 0)))) ∧ lo a h h1) := by
  refine cm_of rfl (Nat.le_of_ble_eq_true rfl) [(0, .ref (G.1 + a))] rfl ?_
  refine aw_aload_n 0 dX1_init_0 rfl rfl ?_
  refine aw_objInit lX1_3 oi_i oi_c dX1_init_1 (by decide) (by decide) (by decide) ?_
  refine aw_aload_n 0 dX1_init_4 rfl rfl ?_
  refine aw_bipush (20) dX1_init_5 (by decide) ?_
  refine aw_newaQ (ki := 0) (a + 1) 20 (20, .inl (fun _ => 0)) ac_i dX1_init_7 rfl rfl (fun _ => rfl) (rfl) (by decide) (by decide) (by decide) (by decide) (by simp [hl] <;> omega) ?_
  refine aw_putFQ fX1_9 dX1_init_9 [.ref (G.1 + (a + 1)), .null, .null, .null, .null, .null, .null, .null, .null, .null, .int 0, .int 0, .int 0, .int 0] (ga (ha)) rfl rfl rfl rfl rfl (Nat.le_of_ble_eq_true rfl) rfl ?_
  refine aw_aload_n 0 dX1_init_12 rfl rfl ?_
  refine aw_bipush (20) dX1_init_13 (by decide) ?_
  refine aw_newaQ (ki := 0) (a + 2) 20 (20, .inl (fun _ => 0)) ac_i dX1_init_15 rfl rfl (fun _ => rfl) (rfl) (by decide) (by decide) (by decide) (by decide) (by simp [hl] <;> omega) ?_
  refine aw_putFQ fX1_15 dX1_init_17 [.ref (G.1 + (a + 1)), .ref (G.1 + (a + 2)), .null, .null, .null, .null, .null, .null, .null, .null, .int 0, .int 0, .int 0, .int 0] (ga (gs (ga (ha)))) rfl rfl rfl rfl rfl (Nat.le_of_ble_eq_true rfl) rfl ?_
  refine aw_aload_n 0 dX1_init_20 rfl rfl ?_
  refine aw_iconst (4) dX1_init_21 (by decide) ?_
  refine aw_newaQ (ki := 0) (a + 3) 4 (4, .inl (fun _ => 0)) ac_i dX1_init_22 rfl rfl (fun _ => rfl) (rfl) (by decide) (by decide) (by decide) (by decide) (by simp [hl] <;> omega) ?_
  refine aw_putFQ fX1_18 dX1_init_24 [.ref (G.1 + (a + 1)), .ref (G.1 + (a + 2)), .ref (G.1 + (a + 3)), .null, .null, .null, .null, .null, .null, .null, .int 0, .int 0, .int 0, .int 0] (ga (gs (ga (gs (ga (ha)))))) rfl rfl rfl rfl rfl (Nat.le_of_ble_eq_true rfl) rfl ?_
  refine aw_aload_n 0 dX1_init_27 rfl rfl ?_
  refine aw_iconst (4) dX1_init_28 (by decide) ?_
  refine aw_newaQ (ki := 0) (a + 4) 4 (4, .inl (fun _ => 0)) ac_i dX1_init_29 rfl rfl (fun _ => rfl) (rfl) (by decide) (by decide) (by decide) (by decide) (by simp [hl] <;> omega) ?_
  refine aw_putFQ fX1_21 dX1_init_31 [.ref (G.1 + (a + 1)), .ref (G.1 + (a + 2)), .ref (G.1 + (a + 3)), .ref (G.1 + (a + 4)), .null, .null, .null, .null, .null, .null, .int 0, .int 0, .int 0, .int 0] (ga (gs (ga (gs (ga (gs (ga (ha)))))))) rfl rfl rfl rfl rfl (Nat.le_of_ble_eq_true rfl) rfl ?_
  refine aw_aload_n 0 dX1_init_34 rfl rfl ?_
  refine aw_bipush (40) dX1_init_35 (by decide) ?_
  refine aw_newaQ (ki := 0) (a + 5) 40 (40, .inl (fun _ => 0)) ac_i dX1_init_37 rfl rfl (fun _ => rfl) (rfl) (by decide) (by decide) (by decide) (by decide) (by simp [hl] <;> omega) ?_
  refine aw_putFQ fX1_24 dX1_init_39 [.ref (G.1 + (a + 1)), .ref (G.1 + (a + 2)), .ref (G.1 + (a + 3)), .ref (G.1 + (a + 4)), .ref (G.1 + (a + 5)), .null, .null, .null, .null, .null, .int 0, .int 0, .int 0, .int 0] (ga (gs (ga (gs (ga (gs (ga (gs (ga (ha)))))))))) rfl rfl rfl rfl rfl (Nat.le_of_ble_eq_true rfl) rfl ?_
  refine aw_aload_n 0 dX1_init_42 rfl rfl ?_
  refine aw_bipush (40) dX1_init_43 (by decide) ?_
  refine aw_newaQ (ki := 0) (a + 6) 40 (40, .inl (fun _ => 0)) ac_i dX1_init_45 rfl rfl (fun _ => rfl) (rfl) (by decide) (by decide) (by decide) (by decide) (by simp [hl] <;> omega) ?_
  refine aw_putFQ fX1_27 dX1_init_47 [.ref (G.1 + (a + 1)), .ref (G.1 + (a + 2)), .ref (G.1 + (a + 3)), .ref (G.1 + (a + 4)), .ref (G.1 + (a + 5)), .ref (G.1 + (a + 6)), .null, .null, .null, .null, .int 0, .int 0, .int 0, .int 0] (ga (gs (ga (gs (ga (gs (ga (gs (ga (gs (ga (ha)))))))))))) rfl rfl rfl rfl rfl (Nat.le_of_ble_eq_true rfl) rfl ?_
  refine aw_aload_n 0 dX1_init_50 rfl rfl ?_
  refine aw_bipush (40) dX1_init_51 (by decide) ?_
  refine aw_newaQ (ki := 0) (a + 7) 40 (40, .inl (fun _ => 0)) ac_i dX1_init_53 rfl rfl (fun _ => rfl) (rfl) (by decide) (by decide) (by decide) (by decide) (by simp [hl] <;> omega) ?_
  refine aw_putFQ fX1_30 dX1_init_55 [.ref (G.1 + (a + 1)), .ref (G.1 + (a + 2)), .ref (G.1 + (a + 3)), .ref (G.1 + (a + 4)), .ref (G.1 + (a + 5)), .ref (G.1 + (a + 6)), .ref (G.1 + (a + 7)), .null, .null, .null, .int 0, .int 0, .int 0, .int 0] (ga (gs (ga (gs (ga (gs (ga (gs (ga (gs (ga (gs (ga (ha)))))))))))))) rfl rfl rfl rfl rfl (Nat.le_of_ble_eq_true rfl) rfl ?_
  refine aw_aload_n 0 dX1_init_58 rfl rfl ?_
  refine aw_bipush (40) dX1_init_59 (by decide) ?_
  refine aw_newaQ (ki := 0) (a + 8) 40 (40, .inl (fun _ => 0)) ac_i dX1_init_61 rfl rfl (fun _ => rfl) (rfl) (by decide) (by decide) (by decide) (by decide) (by simp [hl] <;> omega) ?_
  refine aw_putFQ fX1_33 dX1_init_63 [.ref (G.1 + (a + 1)), .ref (G.1 + (a + 2)), .ref (G.1 + (a + 3)), .ref (G.1 + (a + 4)), .ref (G.1 + (a + 5)), .ref (G.1 + (a + 6)), .ref (G.1 + (a + 7)), .ref (G.1 + (a + 8)), .null, .null, .int 0, .int 0, .int 0, .int 0] (ga (gs (ga (gs (ga (gs (ga (gs (ga (gs (ga (gs (ga (gs (ga (ha)))))))))))))))) rfl rfl rfl rfl rfl (Nat.le_of_ble_eq_true rfl) rfl ?_
  refine aw_aload_n 0 dX1_init_66 rfl rfl ?_
  refine aw_bipush (40) dX1_init_67 (by decide) ?_
  refine aw_newaQ (ki := 0) (a + 9) 40 (40, .inl (fun _ => 0)) ac_i dX1_init_69 rfl rfl (fun _ => rfl) (rfl) (by decide) (by decide) (by decide) (by decide) (by simp [hl] <;> omega) ?_
  refine aw_putFQ fX1_36 dX1_init_71 [.ref (G.1 + (a + 1)), .ref (G.1 + (a + 2)), .ref (G.1 + (a + 3)), .ref (G.1 + (a + 4)), .ref (G.1 + (a + 5)), .ref (G.1 + (a + 6)), .ref (G.1 + (a + 7)), .ref (G.1 + (a + 8)), .ref (G.1 + (a + 9)), .null, .int 0, .int 0, .int 0, .int 0] (ga (gs (ga (gs (ga (gs (ga (gs (ga (gs (ga (gs (ga (gs (ga (gs (ga (ha)))))))))))))))))) rfl rfl rfl rfl rfl (Nat.le_of_ble_eq_true rfl) rfl ?_
  refine aw_aload_n 0 dX1_init_74 rfl rfl ?_
  refine aw_bipush (40) dX1_init_75 (by decide) ?_
  refine aw_newaQ (ki := 1) (a + 10) 40 (40, .inr (.inl (fun _ => 0))) ac_l dX1_init_77 rfl rfl (fun _ => rfl) (rfl) (by decide) (by decide) (by decide) (by decide) (by simp [hl] <;> omega) ?_
  refine aw_putFQ fX1_39 dX1_init_79 [.ref (G.1 + (a + 1)), .ref (G.1 + (a + 2)), .ref (G.1 + (a + 3)), .ref (G.1 + (a + 4)), .ref (G.1 + (a + 5)), .ref (G.1 + (a + 6)), .ref (G.1 + (a + 7)), .ref (G.1 + (a + 8)), .ref (G.1 + (a + 9)), .ref (G.1 + (a + 10)), .int 0, .int 0, .int 0, .int 0] (ga (gs (ga (gs (ga (gs (ga (gs (ga (gs (ga (gs (ga (gs (ga (gs (ga (gs (ga (ha)))))))))))))))))))) rfl rfl rfl rfl rfl (Nat.le_of_ble_eq_true rfl) rfl ?_
  refine aw_aload_n 0 dX1_init_82 rfl rfl ?_
  refine aw_iconst (0) dX1_init_83 (by decide) ?_
  refine aw_putQ fX1_43 dX1_init_84 [.ref (G.1 + (a + 1)), .ref (G.1 + (a + 2)), .ref (G.1 + (a + 3)), .ref (G.1 + (a + 4)), .ref (G.1 + (a + 5)), .ref (G.1 + (a + 6)), .ref (G.1 + (a + 7)), .ref (G.1 + (a + 8)), .ref (G.1 + (a + 9)), .ref (G.1 + (a + 10)), .int 0, .int 0, .int 0, .int 0] (gs (ga (gs (ga (gs (ga (gs (ga (gs (ga (gs (ga (gs (ga (gs (ga (gs (ga (gs (ga (ha))))))))))))))))))))) rfl rfl rfl (Nat.le_of_ble_eq_true rfl) rfl ?_
  refine aw_aload_n 0 dX1_init_87 rfl rfl ?_
  refine aw_iconst (5) dX1_init_88 (by decide) ?_
  refine aw_putQ fX1_47 dX1_init_89 [.ref (G.1 + (a + 1)), .ref (G.1 + (a + 2)), .ref (G.1 + (a + 3)), .ref (G.1 + (a + 4)), .ref (G.1 + (a + 5)), .ref (G.1 + (a + 6)), .ref (G.1 + (a + 7)), .ref (G.1 + (a + 8)), .ref (G.1 + (a + 9)), .ref (G.1 + (a + 10)), .int 0, .int 5, .int 0, .int 0] (gs (gs (ga (gs (ga (gs (ga (gs (ga (gs (ga (gs (ga (gs (ga (gs (ga (gs (ga (gs (ga (ha)))))))))))))))))))))) rfl rfl rfl (Nat.le_of_ble_eq_true rfl) rfl ?_
  refine aw_aload_n 0 dX1_init_92 rfl rfl ?_
  refine aw_iconst (1) dX1_init_93 (by decide) ?_
  refine aw_putQ fX1_50 dX1_init_94 [.ref (G.1 + (a + 1)), .ref (G.1 + (a + 2)), .ref (G.1 + (a + 3)), .ref (G.1 + (a + 4)), .ref (G.1 + (a + 5)), .ref (G.1 + (a + 6)), .ref (G.1 + (a + 7)), .ref (G.1 + (a + 8)), .ref (G.1 + (a + 9)), .ref (G.1 + (a + 10)), .int 0, .int 5, .int 1, .int 0] (gs (gs (gs (ga (gs (ga (gs (ga (gs (ga (gs (ga (gs (ga (gs (ga (gs (ga (gs (ga (gs (ga (ha))))))))))))))))))))))) rfl rfl rfl (Nat.le_of_ble_eq_true rfl) rfl ?_
  refine aw_aload_n 0 dX1_init_97 rfl rfl ?_
  refine aw_iconst (1) dX1_init_98 (by decide) ?_
  refine aw_putQ fX1_53 dX1_init_99 [.ref (G.1 + (a + 1)), .ref (G.1 + (a + 2)), .ref (G.1 + (a + 3)), .ref (G.1 + (a + 4)), .ref (G.1 + (a + 5)), .ref (G.1 + (a + 6)), .ref (G.1 + (a + 7)), .ref (G.1 + (a + 8)), .ref (G.1 + (a + 9)), .ref (G.1 + (a + 10)), .int 0, .int 5, .int 1, .int 1] (gs (gs (gs (gs (ga (gs (ga (gs (ga (gs (ga (gs (ga (gs (ga (gs (ga (gs (ga (gs (ga (gs (ga (ha)))))))))))))))))))))))) rfl rfl rfl (Nat.le_of_ble_eq_true rfl) rfl ?_
  refine aw_iconst (0) dX1_init_102 (by decide) ?_
  refine aw_istore_n [(1, .int 0), (0, .ref (G.1 + a))] dX1_init_103 rfl (by decide) rfl ?_
  refine aw_fg (fun h1 => h1[a]? = some (.inr (1, [.ref (G.1 + (a + 1)), .ref (G.1 + (a + 2)), .ref (G.1 + (a + 3)), .ref (G.1 + (a + 4)), .ref (G.1 + (a + 5)), .ref (G.1 + (a + 6)), .ref (G.1 + (a + 7)), .ref (G.1 + (a + 8)), .ref (G.1 + (a + 9)), .ref (G.1 + (a + 10)), .int 0, .int 5, .int 1, .int 1])) ∧ h1[a + 1]? = some (.inl (0, 20, .inl (fun _ => 0))) ∧ h1[a + 2]? = some (.inl (0, 20, .inl (fun _ => 0))) ∧ h1[a + 3]? = some (.inl (0, 4, .inl (fun _ => 0))) ∧ h1[a + 4]? = some (.inl (0, 4, .inl (fun _ => 0))) ∧ h1[a + 5]? = some (.inl (0, 40, .inl (fun _ => 0))) ∧ h1[a + 6]? = some (.inl (0, 40, .inl (fun _ => 0))) ∧ h1[a + 7]? = some (.inl (0, 40, .inl (fun _ => 0))) ∧ h1[a + 8]? = some (.inl (0, 40, .inl (fun _ => 0))) ∧ h1[a + 9]? = some (.inl (0, 40, .inl (fun _ => 0))) ∧ h1[a + 10]? = some (.inl (1, 40, .inr (.inl (fun _ => 0)))) ∧ h1.length = a + 11 ∧ lo a h h1) ⟨(gs (gs (gs (gs (gs (ga (gs (ga (gs (ga (gs (ga (gs (ga (gs (ga (gs (ga (gs (ga (gs (ga (gs (ga (ha))))))))))))))))))))))))), (gn (by omega) (gn (by omega) (gn (by omega) (gn (by omega) (gn (by omega) (ga (gn (by omega) (ga (gn (by omega) (ga (gn (by omega) (ga (gn (by omega) (ga (gn (by omega) (ga (gn (by omega) (ga (gn (by omega) (ga (gn (by omega) (ga (gn (by omega) (gp (by simp [hl] <;> omega))))))))))))))))))))))))), (gn (by omega) (gn (by omega) (gn (by omega) (gn (by omega) (gn (by omega) (ga (gn (by omega) (ga (gn (by omega) (ga (gn (by omega) (ga (gn (by omega) (ga (gn (by omega) (ga (gn (by omega) (ga (gn (by omega) (ga (gn (by omega) (gp (by simp [hl] <;> omega))))))))))))))))))))))), (gn (by omega) (gn (by omega) (gn (by omega) (gn (by omega) (gn (by omega) (ga (gn (by omega) (ga (gn (by omega) (ga (gn (by omega) (ga (gn (by omega) (ga (gn (by omega) (ga (gn (by omega) (ga (gn (by omega) (gp (by simp [hl] <;> omega))))))))))))))))))))), (gn (by omega) (gn (by omega) (gn (by omega) (gn (by omega) (gn (by omega) (ga (gn (by omega) (ga (gn (by omega) (ga (gn (by omega) (ga (gn (by omega) (ga (gn (by omega) (ga (gn (by omega) (gp (by simp [hl] <;> omega))))))))))))))))))), (gn (by omega) (gn (by omega) (gn (by omega) (gn (by omega) (gn (by omega) (ga (gn (by omega) (ga (gn (by omega) (ga (gn (by omega) (ga (gn (by omega) (ga (gn (by omega) (gp (by simp [hl] <;> omega))))))))))))))))), (gn (by omega) (gn (by omega) (gn (by omega) (gn (by omega) (gn (by omega) (ga (gn (by omega) (ga (gn (by omega) (ga (gn (by omega) (ga (gn (by omega) (gp (by simp [hl] <;> omega))))))))))))))), (gn (by omega) (gn (by omega) (gn (by omega) (gn (by omega) (gn (by omega) (ga (gn (by omega) (ga (gn (by omega) (ga (gn (by omega) (gp (by simp [hl] <;> omega))))))))))))), (gn (by omega) (gn (by omega) (gn (by omega) (gn (by omega) (gn (by omega) (ga (gn (by omega) (ga (gn (by omega) (gp (by simp [hl] <;> omega))))))))))), (gn (by omega) (gn (by omega) (gn (by omega) (gn (by omega) (gn (by omega) (ga (gn (by omega) (gp (by simp [hl] <;> omega))))))))), (gn (by omega) (gn (by omega) (gn (by omega) (gn (by omega) (gn (by omega) (gp (by simp [hl] <;> omega))))))), (by simp [hl] <;> omega), lo_set (lo_set (lo_set (lo_set (lo_set (lo_app (lo_set (lo_app (lo_set (lo_app (lo_set (lo_app (lo_set (lo_app (lo_set (lo_app (lo_set (lo_app (lo_set (lo_app (lo_set (lo_app (lo_set (lo_app (lo_rf a h) (by simp [hl] <;> omega)) (by omega)) (by simp [hl] <;> omega)) (by omega)) (by simp [hl] <;> omega)) (by omega)) (by simp [hl] <;> omega)) (by omega)) (by simp [hl] <;> omega)) (by omega)) (by simp [hl] <;> omega)) (by omega)) (by simp [hl] <;> omega)) (by omega)) (by simp [hl] <;> omega)) (by omega)) (by simp [hl] <;> omega)) (by omega)) (by simp [hl] <;> omega)) (by omega)) (by omega)) (by omega)) (by omega)) (by omega)⟩ ?_
  rintro h1 ⟨f2, f3, f4, f5, f6, f7, f8, f9, f10, f11, f12, l13, k14⟩
  refine aw_iload_n 0 dX1_init_104 rfl rfl ?_
  refine aw_bipush (20) dX1_init_105 (by decide) ?_
  refine aw_icmp_ge 130 dX1_init_107 (by decide) (fun c107 => absurd c107 (by decide)) (fun c107 => ?_)
  refine aw_aload_n 1 dX1_init_110 rfl rfl ?_
  refine aw_get fX1_9 dX1_init_111 f2 rfl ?_
  refine aw_iload_n 0 dX1_init_114 rfl rfl ?_
  refine aw_iload_n 0 dX1_init_115 rfl rfl ?_
  refine aw_iast 0 (rfl) (by decide) (by decide) dX1_init_116 f3 ?_
  rw [xid_f]
  refine aw_aload_n 1 dX1_init_117 rfl rfl ?_
  refine aw_get fX1_15 dX1_init_118 (gn (by omega) (f2)) rfl ?_
  refine aw_iload_n 0 dX1_init_121 rfl rfl ?_
  refine aw_iload_n 0 dX1_init_122 rfl rfl ?_
  refine aw_iast 0 (rfl) (by decide) (by decide) dX1_init_123 (gn (by omega) (f4)) ?_
  rw [xid_f]
  refine aw_iinc (j := 0) 1 [(1, .int 1), (0, .ref (G.1 + a))] dX1_init_124 rfl (by decide) (by decide) rfl ?_
  refine aw_goto 104 dX1_init_127 (by decide) ?_
  refine aw_fg (fun h15 => h15[a]? = some (.inr (1, [.ref (G.1 + (a + 1)), .ref (G.1 + (a + 2)), .ref (G.1 + (a + 3)), .ref (G.1 + (a + 4)), .ref (G.1 + (a + 5)), .ref (G.1 + (a + 6)), .ref (G.1 + (a + 7)), .ref (G.1 + (a + 8)), .ref (G.1 + (a + 9)), .ref (G.1 + (a + 10)), .int 0, .int 5, .int 1, .int 1])) ∧ h15[a + 1]? = some (.inl (0, 20, .inl (xid 1))) ∧ h15[a + 2]? = some (.inl (0, 20, .inl (xid 1))) ∧ h15[a + 3]? = some (.inl (0, 4, .inl (fun _ => 0))) ∧ h15[a + 4]? = some (.inl (0, 4, .inl (fun _ => 0))) ∧ h15[a + 5]? = some (.inl (0, 40, .inl (fun _ => 0))) ∧ h15[a + 6]? = some (.inl (0, 40, .inl (fun _ => 0))) ∧ h15[a + 7]? = some (.inl (0, 40, .inl (fun _ => 0))) ∧ h15[a + 8]? = some (.inl (0, 40, .inl (fun _ => 0))) ∧ h15[a + 9]? = some (.inl (0, 40, .inl (fun _ => 0))) ∧ h15[a + 10]? = some (.inl (1, 40, .inr (.inl (fun _ => 0)))) ∧ h15.length = a + 11 ∧ lo a h h15) ⟨(gn (by omega) (gn (by omega) (f2))), (gn (by omega) (gs f3)), (gs (gn (by omega) (f4))), (gn (by omega) (gn (by omega) (f5))), (gn (by omega) (gn (by omega) (f6))), (gn (by omega) (gn (by omega) (f7))), (gn (by omega) (gn (by omega) (f8))), (gn (by omega) (gn (by omega) (f9))), (gn (by omega) (gn (by omega) (f10))), (gn (by omega) (gn (by omega) (f11))), (gn (by omega) (gn (by omega) (f12))), (by simp [l13] <;> omega), lo_set (lo_set (k14) (by omega)) (by omega)⟩ ?_
  rintro h15 ⟨f16, f17, f18, f19, f20, f21, f22, f23, f24, f25, f26, l27, k28⟩
  refine aw_iload_n 0 dX1_init_104 rfl rfl ?_
  refine aw_bipush (20) dX1_init_105 (by decide) ?_
  refine aw_icmp_ge 130 dX1_init_107 (by decide) (fun c107 => absurd c107 (by decide)) (fun c107 => ?_)
  refine aw_aload_n 1 dX1_init_110 rfl rfl ?_
  refine aw_get fX1_9 dX1_init_111 f16 rfl ?_
  refine aw_iload_n 0 dX1_init_114 rfl rfl ?_
  refine aw_iload_n 0 dX1_init_115 rfl rfl ?_
  refine aw_iast 1 (rfl) (by decide) (by decide) dX1_init_116 f17 ?_
  rw [xid_q 1 2 1 rfl rfl]
  refine aw_aload_n 1 dX1_init_117 rfl rfl ?_
  refine aw_get fX1_15 dX1_init_118 (gn (by omega) (f16)) rfl ?_
  refine aw_iload_n 0 dX1_init_121 rfl rfl ?_
  refine aw_iload_n 0 dX1_init_122 rfl rfl ?_
  refine aw_iast 1 (rfl) (by decide) (by decide) dX1_init_123 (gn (by omega) (f18)) ?_
  rw [xid_q 1 2 1 rfl rfl]
  refine aw_iinc (j := 0) 2 [(1, .int 2), (0, .ref (G.1 + a))] dX1_init_124 rfl (by decide) (by decide) rfl ?_
  refine aw_goto 104 dX1_init_127 (by decide) ?_
  refine aw_fg (fun h29 => h29[a]? = some (.inr (1, [.ref (G.1 + (a + 1)), .ref (G.1 + (a + 2)), .ref (G.1 + (a + 3)), .ref (G.1 + (a + 4)), .ref (G.1 + (a + 5)), .ref (G.1 + (a + 6)), .ref (G.1 + (a + 7)), .ref (G.1 + (a + 8)), .ref (G.1 + (a + 9)), .ref (G.1 + (a + 10)), .int 0, .int 5, .int 1, .int 1])) ∧ h29[a + 1]? = some (.inl (0, 20, .inl (xid 2))) ∧ h29[a + 2]? = some (.inl (0, 20, .inl (xid 2))) ∧ h29[a + 3]? = some (.inl (0, 4, .inl (fun _ => 0))) ∧ h29[a + 4]? = some (.inl (0, 4, .inl (fun _ => 0))) ∧ h29[a + 5]? = some (.inl (0, 40, .inl (fun _ => 0))) ∧ h29[a + 6]? = some (.inl (0, 40, .inl (fun _ => 0))) ∧ h29[a + 7]? = some (.inl (0, 40, .inl (fun _ => 0))) ∧ h29[a + 8]? = some (.inl (0, 40, .inl (fun _ => 0))) ∧ h29[a + 9]? = some (.inl (0, 40, .inl (fun _ => 0))) ∧ h29[a + 10]? = some (.inl (1, 40, .inr (.inl (fun _ => 0)))) ∧ h29.length = a + 11 ∧ lo a h h29) ⟨(gn (by omega) (gn (by omega) (f16))), (gn (by omega) (gs f17)), (gs (gn (by omega) (f18))), (gn (by omega) (gn (by omega) (f19))), (gn (by omega) (gn (by omega) (f20))), (gn (by omega) (gn (by omega) (f21))), (gn (by omega) (gn (by omega) (f22))), (gn (by omega) (gn (by omega) (f23))), (gn (by omega) (gn (by omega) (f24))), (gn (by omega) (gn (by omega) (f25))), (gn (by omega) (gn (by omega) (f26))), (by simp [l27] <;> omega), lo_set (lo_set (k28) (by omega)) (by omega)⟩ ?_
  rintro h29 ⟨f30, f31, f32, f33, f34, f35, f36, f37, f38, f39, f40, l41, k42⟩
  refine aw_iload_n 0 dX1_init_104 rfl rfl ?_
  refine aw_bipush (20) dX1_init_105 (by decide) ?_
  refine aw_icmp_ge 130 dX1_init_107 (by decide) (fun c107 => absurd c107 (by decide)) (fun c107 => ?_)
  refine aw_aload_n 1 dX1_init_110 rfl rfl ?_
  refine aw_get fX1_9 dX1_init_111 f30 rfl ?_
  refine aw_iload_n 0 dX1_init_114 rfl rfl ?_
  refine aw_iload_n 0 dX1_init_115 rfl rfl ?_
  refine aw_iast 2 (rfl) (by decide) (by decide) dX1_init_116 f31 ?_
  rw [xid_q 2 3 2 rfl rfl]
  refine aw_aload_n 1 dX1_init_117 rfl rfl ?_
  refine aw_get fX1_15 dX1_init_118 (gn (by omega) (f30)) rfl ?_
  refine aw_iload_n 0 dX1_init_121 rfl rfl ?_
  refine aw_iload_n 0 dX1_init_122 rfl rfl ?_
  refine aw_iast 2 (rfl) (by decide) (by decide) dX1_init_123 (gn (by omega) (f32)) ?_
  rw [xid_q 2 3 2 rfl rfl]
  refine aw_iinc (j := 0) 3 [(1, .int 3), (0, .ref (G.1 + a))] dX1_init_124 rfl (by decide) (by decide) rfl ?_
  refine aw_goto 104 dX1_init_127 (by decide) ?_
  refine aw_fg (fun h43 => h43[a]? = some (.inr (1, [.ref (G.1 + (a + 1)), .ref (G.1 + (a + 2)), .ref (G.1 + (a + 3)), .ref (G.1 + (a + 4)), .ref (G.1 + (a + 5)), .ref (G.1 + (a + 6)), .ref (G.1 + (a + 7)), .ref (G.1 + (a + 8)), .ref (G.1 + (a + 9)), .ref (G.1 + (a + 10)), .int 0, .int 5, .int 1, .int 1])) ∧ h43[a + 1]? = some (.inl (0, 20, .inl (xid 3))) ∧ h43[a + 2]? = some (.inl (0, 20, .inl (xid 3))) ∧ h43[a + 3]? = some (.inl (0, 4, .inl (fun _ => 0))) ∧ h43[a + 4]? = some (.inl (0, 4, .inl (fun _ => 0))) ∧ h43[a + 5]? = some (.inl (0, 40, .inl (fun _ => 0))) ∧ h43[a + 6]? = some (.inl (0, 40, .inl (fun _ => 0))) ∧ h43[a + 7]? = some (.inl (0, 40, .inl (fun _ => 0))) ∧ h43[a + 8]? = some (.inl (0, 40, .inl (fun _ => 0))) ∧ h43[a + 9]? = some (.inl (0, 40, .inl (fun _ => 0))) ∧ h43[a + 10]? = some (.inl (1, 40, .inr (.inl (fun _ => 0)))) ∧ h43.length = a + 11 ∧ lo a h h43) ⟨(gn (by omega) (gn (by omega) (f30))), (gn (by omega) (gs f31)), (gs (gn (by omega) (f32))), (gn (by omega) (gn (by omega) (f33))), (gn (by omega) (gn (by omega) (f34))), (gn (by omega) (gn (by omega) (f35))), (gn (by omega) (gn (by omega) (f36))), (gn (by omega) (gn (by omega) (f37))), (gn (by omega) (gn (by omega) (f38))), (gn (by omega) (gn (by omega) (f39))), (gn (by omega) (gn (by omega) (f40))), (by simp [l41] <;> omega), lo_set (lo_set (k42) (by omega)) (by omega)⟩ ?_
  rintro h43 ⟨f44, f45, f46, f47, f48, f49, f50, f51, f52, f53, f54, l55, k56⟩
  refine aw_iload_n 0 dX1_init_104 rfl rfl ?_
  refine aw_bipush (20) dX1_init_105 (by decide) ?_
  refine aw_icmp_ge 130 dX1_init_107 (by decide) (fun c107 => absurd c107 (by decide)) (fun c107 => ?_)
  refine aw_aload_n 1 dX1_init_110 rfl rfl ?_
  refine aw_get fX1_9 dX1_init_111 f44 rfl ?_
  refine aw_iload_n 0 dX1_init_114 rfl rfl ?_
  refine aw_iload_n 0 dX1_init_115 rfl rfl ?_
  refine aw_iast 3 (rfl) (by decide) (by decide) dX1_init_116 f45 ?_
  rw [xid_q 3 4 3 rfl rfl]
  refine aw_aload_n 1 dX1_init_117 rfl rfl ?_
  refine aw_get fX1_15 dX1_init_118 (gn (by omega) (f44)) rfl ?_
  refine aw_iload_n 0 dX1_init_121 rfl rfl ?_
  refine aw_iload_n 0 dX1_init_122 rfl rfl ?_
  refine aw_iast 3 (rfl) (by decide) (by decide) dX1_init_123 (gn (by omega) (f46)) ?_
  rw [xid_q 3 4 3 rfl rfl]
  refine aw_iinc (j := 0) 4 [(1, .int 4), (0, .ref (G.1 + a))] dX1_init_124 rfl (by decide) (by decide) rfl ?_
  refine aw_goto 104 dX1_init_127 (by decide) ?_
  refine aw_fg (fun h57 => h57[a]? = some (.inr (1, [.ref (G.1 + (a + 1)), .ref (G.1 + (a + 2)), .ref (G.1 + (a + 3)), .ref (G.1 + (a + 4)), .ref (G.1 + (a + 5)), .ref (G.1 + (a + 6)), .ref (G.1 + (a + 7)), .ref (G.1 + (a + 8)), .ref (G.1 + (a + 9)), .ref (G.1 + (a + 10)), .int 0, .int 5, .int 1, .int 1])) ∧ h57[a + 1]? = some (.inl (0, 20, .inl (xid 4))) ∧ h57[a + 2]? = some (.inl (0, 20, .inl (xid 4))) ∧ h57[a + 3]? = some (.inl (0, 4, .inl (fun _ => 0))) ∧ h57[a + 4]? = some (.inl (0, 4, .inl (fun _ => 0))) ∧ h57[a + 5]? = some (.inl (0, 40, .inl (fun _ => 0))) ∧ h57[a + 6]? = some (.inl (0, 40, .inl (fun _ => 0))) ∧ h57[a + 7]? = some (.inl (0, 40, .inl (fun _ => 0))) ∧ h57[a + 8]? = some (.inl (0, 40, .inl (fun _ => 0))) ∧ h57[a + 9]? = some (.inl (0, 40, .inl (fun _ => 0))) ∧ h57[a + 10]? = some (.inl (1, 40, .inr (.inl (fun _ => 0)))) ∧ h57.length = a + 11 ∧ lo a h h57) ⟨(gn (by omega) (gn (by omega) (f44))), (gn (by omega) (gs f45)), (gs (gn (by omega) (f46))), (gn (by omega) (gn (by omega) (f47))), (gn (by omega) (gn (by omega) (f48))), (gn (by omega) (gn (by omega) (f49))), (gn (by omega) (gn (by omega) (f50))), (gn (by omega) (gn (by omega) (f51))), (gn (by omega) (gn (by omega) (f52))), (gn (by omega) (gn (by omega) (f53))), (gn (by omega) (gn (by omega) (f54))), (by simp [l55] <;> omega), lo_set (lo_set (k56) (by omega)) (by omega)⟩ ?_
  rintro h57 ⟨f58, f59, f60, f61, f62, f63, f64, f65, f66, f67, f68, l69, k70⟩
  refine aw_iload_n 0 dX1_init_104 rfl rfl ?_
  refine aw_bipush (20) dX1_init_105 (by decide) ?_
  refine aw_icmp_ge 130 dX1_init_107 (by decide) (fun c107 => absurd c107 (by decide)) (fun c107 => ?_)
  refine aw_aload_n 1 dX1_init_110 rfl rfl ?_
  refine aw_get fX1_9 dX1_init_111 f58 rfl ?_
  refine aw_iload_n 0 dX1_init_114 rfl rfl ?_
  refine aw_iload_n 0 dX1_init_115 rfl rfl ?_
  refine aw_iast 4 (rfl) (by decide) (by decide) dX1_init_116 f59 ?_
  rw [xid_q 4 5 4 rfl rfl]
  refine aw_aload_n 1 dX1_init_117 rfl rfl ?_
  refine aw_get fX1_15 dX1_init_118 (gn (by omega) (f58)) rfl ?_
  refine aw_iload_n 0 dX1_init_121 rfl rfl ?_
  refine aw_iload_n 0 dX1_init_122 rfl rfl ?_
  refine aw_iast 4 (rfl) (by decide) (by decide) dX1_init_123 (gn (by omega) (f60)) ?_
  rw [xid_q 4 5 4 rfl rfl]
  refine aw_iinc (j := 0) 5 [(1, .int 5), (0, .ref (G.1 + a))] dX1_init_124 rfl (by decide) (by decide) rfl ?_
  refine aw_goto 104 dX1_init_127 (by decide) ?_
  refine aw_fg (fun h71 => h71[a]? = some (.inr (1, [.ref (G.1 + (a + 1)), .ref (G.1 + (a + 2)), .ref (G.1 + (a + 3)), .ref (G.1 + (a + 4)), .ref (G.1 + (a + 5)), .ref (G.1 + (a + 6)), .ref (G.1 + (a + 7)), .ref (G.1 + (a + 8)), .ref (G.1 + (a + 9)), .ref (G.1 + (a + 10)), .int 0, .int 5, .int 1, .int 1])) ∧ h71[a + 1]? = some (.inl (0, 20, .inl (xid 5))) ∧ h71[a + 2]? = some (.inl (0, 20, .inl (xid 5))) ∧ h71[a + 3]? = some (.inl (0, 4, .inl (fun _ => 0))) ∧ h71[a + 4]? = some (.inl (0, 4, .inl (fun _ => 0))) ∧ h71[a + 5]? = some (.inl (0, 40, .inl (fun _ => 0))) ∧ h71[a + 6]? = some (.inl (0, 40, .inl (fun _ => 0))) ∧ h71[a + 7]? = some (.inl (0, 40, .inl (fun _ => 0))) ∧ h71[a + 8]? = some (.inl (0, 40, .inl (fun _ => 0))) ∧ h71[a + 9]? = some (.inl (0, 40, .inl (fun _ => 0))) ∧ h71[a + 10]? = some (.inl (1, 40, .inr (.inl (fun _ => 0)))) ∧ h71.length = a + 11 ∧ lo a h h71) ⟨(gn (by omega) (gn (by omega) (f58))), (gn (by omega) (gs f59)), (gs (gn (by omega) (f60))), (gn (by omega) (gn (by omega) (f61))), (gn (by omega) (gn (by omega) (f62))), (gn (by omega) (gn (by omega) (f63))), (gn (by omega) (gn (by omega) (f64))), (gn (by omega) (gn (by omega) (f65))), (gn (by omega) (gn (by omega) (f66))), (gn (by omega) (gn (by omega) (f67))), (gn (by omega) (gn (by omega) (f68))), (by simp [l69] <;> omega), lo_set (lo_set (k70) (by omega)) (by omega)⟩ ?_
  rintro h71 ⟨f72, f73, f74, f75, f76, f77, f78, f79, f80, f81, f82, l83, k84⟩
  refine aw_iload_n 0 dX1_init_104 rfl rfl ?_
  refine aw_bipush (20) dX1_init_105 (by decide) ?_
  refine aw_icmp_ge 130 dX1_init_107 (by decide) (fun c107 => absurd c107 (by decide)) (fun c107 => ?_)
  refine aw_aload_n 1 dX1_init_110 rfl rfl ?_
  refine aw_get fX1_9 dX1_init_111 f72 rfl ?_
  refine aw_iload_n 0 dX1_init_114 rfl rfl ?_
  refine aw_iload_n 0 dX1_init_115 rfl rfl ?_
  refine aw_iast 5 (rfl) (by decide) (by decide) dX1_init_116 f73 ?_
  rw [xid_q 5 6 5 rfl rfl]
  refine aw_aload_n 1 dX1_init_117 rfl rfl ?_
  refine aw_get fX1_15 dX1_init_118 (gn (by omega) (f72)) rfl ?_
  refine aw_iload_n 0 dX1_init_121 rfl rfl ?_
  refine aw_iload_n 0 dX1_init_122 rfl rfl ?_
  refine aw_iast 5 (rfl) (by decide) (by decide) dX1_init_123 (gn (by omega) (f74)) ?_
  rw [xid_q 5 6 5 rfl rfl]
  refine aw_iinc (j := 0) 6 [(1, .int 6), (0, .ref (G.1 + a))] dX1_init_124 rfl (by decide) (by decide) rfl ?_
  refine aw_goto 104 dX1_init_127 (by decide) ?_
  refine aw_fg (fun h85 => h85[a]? = some (.inr (1, [.ref (G.1 + (a + 1)), .ref (G.1 + (a + 2)), .ref (G.1 + (a + 3)), .ref (G.1 + (a + 4)), .ref (G.1 + (a + 5)), .ref (G.1 + (a + 6)), .ref (G.1 + (a + 7)), .ref (G.1 + (a + 8)), .ref (G.1 + (a + 9)), .ref (G.1 + (a + 10)), .int 0, .int 5, .int 1, .int 1])) ∧ h85[a + 1]? = some (.inl (0, 20, .inl (xid 6))) ∧ h85[a + 2]? = some (.inl (0, 20, .inl (xid 6))) ∧ h85[a + 3]? = some (.inl (0, 4, .inl (fun _ => 0))) ∧ h85[a + 4]? = some (.inl (0, 4, .inl (fun _ => 0))) ∧ h85[a + 5]? = some (.inl (0, 40, .inl (fun _ => 0))) ∧ h85[a + 6]? = some (.inl (0, 40, .inl (fun _ => 0))) ∧ h85[a + 7]? = some (.inl (0, 40, .inl (fun _ => 0))) ∧ h85[a + 8]? = some (.inl (0, 40, .inl (fun _ => 0))) ∧ h85[a + 9]? = some (.inl (0, 40, .inl (fun _ => 0))) ∧ h85[a + 10]? = some (.inl (1, 40, .inr (.inl (fun _ => 0)))) ∧ h85.length = a + 11 ∧ lo a h h85) ⟨(gn (by omega) (gn (by omega) (f72))), (gn (by omega) (gs f73)), (gs (gn (by omega) (f74))), (gn (by omega) (gn (by omega) (f75))), (gn (by omega) (gn (by omega) (f76))), (gn (by omega) (gn (by omega) (f77))), (gn (by omega) (gn (by omega) (f78))), (gn (by omega) (gn (by omega) (f79))), (gn (by omega) (gn (by omega) (f80))), (gn (by omega) (gn (by omega) (f81))), (gn (by omega) (gn (by omega) (f82))), (by simp [l83] <;> omega), lo_set (lo_set (k84) (by omega)) (by omega)⟩ ?_
  rintro h85 ⟨f86, f87, f88, f89, f90, f91, f92, f93, f94, f95, f96, l97, k98⟩
  refine aw_iload_n 0 dX1_init_104 rfl rfl ?_
  refine aw_bipush (20) dX1_init_105 (by decide) ?_
  refine aw_icmp_ge 130 dX1_init_107 (by decide) (fun c107 => absurd c107 (by decide)) (fun c107 => ?_)
  refine aw_aload_n 1 dX1_init_110 rfl rfl ?_
  refine aw_get fX1_9 dX1_init_111 f86 rfl ?_
  refine aw_iload_n 0 dX1_init_114 rfl rfl ?_
  refine aw_iload_n 0 dX1_init_115 rfl rfl ?_
  refine aw_iast 6 (rfl) (by decide) (by decide) dX1_init_116 f87 ?_
  rw [xid_q 6 7 6 rfl rfl]
  refine aw_aload_n 1 dX1_init_117 rfl rfl ?_
  refine aw_get fX1_15 dX1_init_118 (gn (by omega) (f86)) rfl ?_
  refine aw_iload_n 0 dX1_init_121 rfl rfl ?_
  refine aw_iload_n 0 dX1_init_122 rfl rfl ?_
  refine aw_iast 6 (rfl) (by decide) (by decide) dX1_init_123 (gn (by omega) (f88)) ?_
  rw [xid_q 6 7 6 rfl rfl]
  refine aw_iinc (j := 0) 7 [(1, .int 7), (0, .ref (G.1 + a))] dX1_init_124 rfl (by decide) (by decide) rfl ?_
  refine aw_goto 104 dX1_init_127 (by decide) ?_
  refine aw_fg (fun h99 => h99[a]? = some (.inr (1, [.ref (G.1 + (a + 1)), .ref (G.1 + (a + 2)), .ref (G.1 + (a + 3)), .ref (G.1 + (a + 4)), .ref (G.1 + (a + 5)), .ref (G.1 + (a + 6)), .ref (G.1 + (a + 7)), .ref (G.1 + (a + 8)), .ref (G.1 + (a + 9)), .ref (G.1 + (a + 10)), .int 0, .int 5, .int 1, .int 1])) ∧ h99[a + 1]? = some (.inl (0, 20, .inl (xid 7))) ∧ h99[a + 2]? = some (.inl (0, 20, .inl (xid 7))) ∧ h99[a + 3]? = some (.inl (0, 4, .inl (fun _ => 0))) ∧ h99[a + 4]? = some (.inl (0, 4, .inl (fun _ => 0))) ∧ h99[a + 5]? = some (.inl (0, 40, .inl (fun _ => 0))) ∧ h99[a + 6]? = some (.inl (0, 40, .inl (fun _ => 0))) ∧ h99[a + 7]? = some (.inl (0, 40, .inl (fun _ => 0))) ∧ h99[a + 8]? = some (.inl (0, 40, .inl (fun _ => 0))) ∧ h99[a + 9]? = some (.inl (0, 40, .inl (fun _ => 0))) ∧ h99[a + 10]? = some (.inl (1, 40, .inr (.inl (fun _ => 0)))) ∧ h99.length = a + 11 ∧ lo a h h99) ⟨(gn (by omega) (gn (by omega) (f86))), (gn (by omega) (gs f87)), (gs (gn (by omega) (f88))), (gn (by omega) (gn (by omega) (f89))), (gn (by omega) (gn (by omega) (f90))), (gn (by omega) (gn (by omega) (f91))), (gn (by omega) (gn (by omega) (f92))), (gn (by omega) (gn (by omega) (f93))), (gn (by omega) (gn (by omega) (f94))), (gn (by omega) (gn (by omega) (f95))), (gn (by omega) (gn (by omega) (f96))), (by simp [l97] <;> omega), lo_set (lo_set (k98) (by omega)) (by omega)⟩ ?_
  rintro h99 ⟨f100, f101, f102, f103, f104, f105, f106, f107, f108, f109, f110, l111, k112⟩
  refine aw_iload_n 0 dX1_init_104 rfl rfl ?_
  refine aw_bipush (20) dX1_init_105 (by decide) ?_
  refine aw_icmp_ge 130 dX1_init_107 (by decide) (fun c107 => absurd c107 (by decide)) (fun c107 => ?_)
  refine aw_aload_n 1 dX1_init_110 rfl rfl ?_
  refine aw_get fX1_9 dX1_init_111 f100 rfl ?_
  refine aw_iload_n 0 dX1_init_114 rfl rfl ?_
  refine aw_iload_n 0 dX1_init_115 rfl rfl ?_
  refine aw_iast 7 (rfl) (by decide) (by decide) dX1_init_116 f101 ?_
  rw [xid_q 7 8 7 rfl rfl]
  refine aw_aload_n 1 dX1_init_117 rfl rfl ?_
  refine aw_get fX1_15 dX1_init_118 (gn (by omega) (f100)) rfl ?_
  refine aw_iload_n 0 dX1_init_121 rfl rfl ?_
  refine aw_iload_n 0 dX1_init_122 rfl rfl ?_
  refine aw_iast 7 (rfl) (by decide) (by decide) dX1_init_123 (gn (by omega) (f102)) ?_
  rw [xid_q 7 8 7 rfl rfl]
  refine aw_iinc (j := 0) 8 [(1, .int 8), (0, .ref (G.1 + a))] dX1_init_124 rfl (by decide) (by decide) rfl ?_
  refine aw_goto 104 dX1_init_127 (by decide) ?_
  refine aw_fg (fun h113 => h113[a]? = some (.inr (1, [.ref (G.1 + (a + 1)), .ref (G.1 + (a + 2)), .ref (G.1 + (a + 3)), .ref (G.1 + (a + 4)), .ref (G.1 + (a + 5)), .ref (G.1 + (a + 6)), .ref (G.1 + (a + 7)), .ref (G.1 + (a + 8)), .ref (G.1 + (a + 9)), .ref (G.1 + (a + 10)), .int 0, .int 5, .int 1, .int 1])) ∧ h113[a + 1]? = some (.inl (0, 20, .inl (xid 8))) ∧ h113[a + 2]? = some (.inl (0, 20, .inl (xid 8))) ∧ h113[a + 3]? = some (.inl (0, 4, .inl (fun _ => 0))) ∧ h113[a + 4]? = some (.inl (0, 4, .inl (fun _ => 0))) ∧ h113[a + 5]? = some (.inl (0, 40, .inl (fun _ => 0))) ∧ h113[a + 6]? = some (.inl (0, 40, .inl (fun _ => 0))) ∧ h113[a + 7]? = some (.inl (0, 40, .inl (fun _ => 0))) ∧ h113[a + 8]? = some (.inl (0, 40, .inl (fun _ => 0))) ∧ h113[a + 9]? = some (.inl (0, 40, .inl (fun _ => 0))) ∧ h113[a + 10]? = some (.inl (1, 40, .inr (.inl (fun _ => 0)))) ∧ h113.length = a + 11 ∧ lo a h h113) ⟨(gn (by omega) (gn (by omega) (f100))), (gn (by omega) (gs f101)), (gs (gn (by omega) (f102))), (gn (by omega) (gn (by omega) (f103))), (gn (by omega) (gn (by omega) (f104))), (gn (by omega) (gn (by omega) (f105))), (gn (by omega) (gn (by omega) (f106))), (gn (by omega) (gn (by omega) (f107))), (gn (by omega) (gn (by omega) (f108))), (gn (by omega) (gn (by omega) (f109))), (gn (by omega) (gn (by omega) (f110))), (by simp [l111] <;> omega), lo_set (lo_set (k112) (by omega)) (by omega)⟩ ?_
  rintro h113 ⟨f114, f115, f116, f117, f118, f119, f120, f121, f122, f123, f124, l125, k126⟩
  refine aw_iload_n 0 dX1_init_104 rfl rfl ?_
  refine aw_bipush (20) dX1_init_105 (by decide) ?_
  refine aw_icmp_ge 130 dX1_init_107 (by decide) (fun c107 => absurd c107 (by decide)) (fun c107 => ?_)
  refine aw_aload_n 1 dX1_init_110 rfl rfl ?_
  refine aw_get fX1_9 dX1_init_111 f114 rfl ?_
  refine aw_iload_n 0 dX1_init_114 rfl rfl ?_
  refine aw_iload_n 0 dX1_init_115 rfl rfl ?_
  refine aw_iast 8 (rfl) (by decide) (by decide) dX1_init_116 f115 ?_
  rw [xid_q 8 9 8 rfl rfl]
  refine aw_aload_n 1 dX1_init_117 rfl rfl ?_
  refine aw_get fX1_15 dX1_init_118 (gn (by omega) (f114)) rfl ?_
  refine aw_iload_n 0 dX1_init_121 rfl rfl ?_
  refine aw_iload_n 0 dX1_init_122 rfl rfl ?_
  refine aw_iast 8 (rfl) (by decide) (by decide) dX1_init_123 (gn (by omega) (f116)) ?_
  rw [xid_q 8 9 8 rfl rfl]
  refine aw_iinc (j := 0) 9 [(1, .int 9), (0, .ref (G.1 + a))] dX1_init_124 rfl (by decide) (by decide) rfl ?_
  refine aw_goto 104 dX1_init_127 (by decide) ?_
  refine aw_fg (fun h127 => h127[a]? = some (.inr (1, [.ref (G.1 + (a + 1)), .ref (G.1 + (a + 2)), .ref (G.1 + (a + 3)), .ref (G.1 + (a + 4)), .ref (G.1 + (a + 5)), .ref (G.1 + (a + 6)), .ref (G.1 + (a + 7)), .ref (G.1 + (a + 8)), .ref (G.1 + (a + 9)), .ref (G.1 + (a + 10)), .int 0, .int 5, .int 1, .int 1])) ∧ h127[a + 1]? = some (.inl (0, 20, .inl (xid 9))) ∧ h127[a + 2]? = some (.inl (0, 20, .inl (xid 9))) ∧ h127[a + 3]? = some (.inl (0, 4, .inl (fun _ => 0))) ∧ h127[a + 4]? = some (.inl (0, 4, .inl (fun _ => 0))) ∧ h127[a + 5]? = some (.inl (0, 40, .inl (fun _ => 0))) ∧ h127[a + 6]? = some (.inl (0, 40, .inl (fun _ => 0))) ∧ h127[a + 7]? = some (.inl (0, 40, .inl (fun _ => 0))) ∧ h127[a + 8]? = some (.inl (0, 40, .inl (fun _ => 0))) ∧ h127[a + 9]? = some (.inl (0, 40, .inl (fun _ => 0))) ∧ h127[a + 10]? = some (.inl (1, 40, .inr (.inl (fun _ => 0)))) ∧ h127.length = a + 11 ∧ lo a h h127) ⟨(gn (by omega) (gn (by omega) (f114))), (gn (by omega) (gs f115)), (gs (gn (by omega) (f116))), (gn (by omega) (gn (by omega) (f117))), (gn (by omega) (gn (by omega) (f118))), (gn (by omega) (gn (by omega) (f119))), (gn (by omega) (gn (by omega) (f120))), (gn (by omega) (gn (by omega) (f121))), (gn (by omega) (gn (by omega) (f122))), (gn (by omega) (gn (by omega) (f123))), (gn (by omega) (gn (by omega) (f124))), (by simp [l125] <;> omega), lo_set (lo_set (k126) (by omega)) (by omega)⟩ ?_
  rintro h127 ⟨f128, f129, f130, f131, f132, f133, f134, f135, f136, f137, f138, l139, k140⟩
  refine aw_iload_n 0 dX1_init_104 rfl rfl ?_
  refine aw_bipush (20) dX1_init_105 (by decide) ?_
  refine aw_icmp_ge 130 dX1_init_107 (by decide) (fun c107 => absurd c107 (by decide)) (fun c107 => ?_)
  refine aw_aload_n 1 dX1_init_110 rfl rfl ?_
  refine aw_get fX1_9 dX1_init_111 f128 rfl ?_
  refine aw_iload_n 0 dX1_init_114 rfl rfl ?_
  refine aw_iload_n 0 dX1_init_115 rfl rfl ?_
  refine aw_iast 9 (rfl) (by decide) (by decide) dX1_init_116 f129 ?_
  rw [xid_q 9 10 9 rfl rfl]
  refine aw_aload_n 1 dX1_init_117 rfl rfl ?_
  refine aw_get fX1_15 dX1_init_118 (gn (by omega) (f128)) rfl ?_
  refine aw_iload_n 0 dX1_init_121 rfl rfl ?_
  refine aw_iload_n 0 dX1_init_122 rfl rfl ?_
  refine aw_iast 9 (rfl) (by decide) (by decide) dX1_init_123 (gn (by omega) (f130)) ?_
  rw [xid_q 9 10 9 rfl rfl]
  refine aw_iinc (j := 0) 10 [(1, .int 10), (0, .ref (G.1 + a))] dX1_init_124 rfl (by decide) (by decide) rfl ?_
  refine aw_goto 104 dX1_init_127 (by decide) ?_
  refine aw_fg (fun h141 => h141[a]? = some (.inr (1, [.ref (G.1 + (a + 1)), .ref (G.1 + (a + 2)), .ref (G.1 + (a + 3)), .ref (G.1 + (a + 4)), .ref (G.1 + (a + 5)), .ref (G.1 + (a + 6)), .ref (G.1 + (a + 7)), .ref (G.1 + (a + 8)), .ref (G.1 + (a + 9)), .ref (G.1 + (a + 10)), .int 0, .int 5, .int 1, .int 1])) ∧ h141[a + 1]? = some (.inl (0, 20, .inl (xid 10))) ∧ h141[a + 2]? = some (.inl (0, 20, .inl (xid 10))) ∧ h141[a + 3]? = some (.inl (0, 4, .inl (fun _ => 0))) ∧ h141[a + 4]? = some (.inl (0, 4, .inl (fun _ => 0))) ∧ h141[a + 5]? = some (.inl (0, 40, .inl (fun _ => 0))) ∧ h141[a + 6]? = some (.inl (0, 40, .inl (fun _ => 0))) ∧ h141[a + 7]? = some (.inl (0, 40, .inl (fun _ => 0))) ∧ h141[a + 8]? = some (.inl (0, 40, .inl (fun _ => 0))) ∧ h141[a + 9]? = some (.inl (0, 40, .inl (fun _ => 0))) ∧ h141[a + 10]? = some (.inl (1, 40, .inr (.inl (fun _ => 0)))) ∧ h141.length = a + 11 ∧ lo a h h141) ⟨(gn (by omega) (gn (by omega) (f128))), (gn (by omega) (gs f129)), (gs (gn (by omega) (f130))), (gn (by omega) (gn (by omega) (f131))), (gn (by omega) (gn (by omega) (f132))), (gn (by omega) (gn (by omega) (f133))), (gn (by omega) (gn (by omega) (f134))), (gn (by omega) (gn (by omega) (f135))), (gn (by omega) (gn (by omega) (f136))), (gn (by omega) (gn (by omega) (f137))), (gn (by omega) (gn (by omega) (f138))), (by simp [l139] <;> omega), lo_set (lo_set (k140) (by omega)) (by omega)⟩ ?_
  rintro h141 ⟨f142, f143, f144, f145, f146, f147, f148, f149, f150, f151, f152, l153, k154⟩
  refine aw_iload_n 0 dX1_init_104 rfl rfl ?_
  refine aw_bipush (20) dX1_init_105 (by decide) ?_
  refine aw_icmp_ge 130 dX1_init_107 (by decide) (fun c107 => absurd c107 (by decide)) (fun c107 => ?_)
  refine aw_aload_n 1 dX1_init_110 rfl rfl ?_
  refine aw_get fX1_9 dX1_init_111 f142 rfl ?_
  refine aw_iload_n 0 dX1_init_114 rfl rfl ?_
  refine aw_iload_n 0 dX1_init_115 rfl rfl ?_
  refine aw_iast 10 (rfl) (by decide) (by decide) dX1_init_116 f143 ?_
  rw [xid_q 10 11 10 rfl rfl]
  refine aw_aload_n 1 dX1_init_117 rfl rfl ?_
  refine aw_get fX1_15 dX1_init_118 (gn (by omega) (f142)) rfl ?_
  refine aw_iload_n 0 dX1_init_121 rfl rfl ?_
  refine aw_iload_n 0 dX1_init_122 rfl rfl ?_
  refine aw_iast 10 (rfl) (by decide) (by decide) dX1_init_123 (gn (by omega) (f144)) ?_
  rw [xid_q 10 11 10 rfl rfl]
  refine aw_iinc (j := 0) 11 [(1, .int 11), (0, .ref (G.1 + a))] dX1_init_124 rfl (by decide) (by decide) rfl ?_
  refine aw_goto 104 dX1_init_127 (by decide) ?_
  refine aw_fg (fun h155 => h155[a]? = some (.inr (1, [.ref (G.1 + (a + 1)), .ref (G.1 + (a + 2)), .ref (G.1 + (a + 3)), .ref (G.1 + (a + 4)), .ref (G.1 + (a + 5)), .ref (G.1 + (a + 6)), .ref (G.1 + (a + 7)), .ref (G.1 + (a + 8)), .ref (G.1 + (a + 9)), .ref (G.1 + (a + 10)), .int 0, .int 5, .int 1, .int 1])) ∧ h155[a + 1]? = some (.inl (0, 20, .inl (xid 11))) ∧ h155[a + 2]? = some (.inl (0, 20, .inl (xid 11))) ∧ h155[a + 3]? = some (.inl (0, 4, .inl (fun _ => 0))) ∧ h155[a + 4]? = some (.inl (0, 4, .inl (fun _ => 0))) ∧ h155[a + 5]? = some (.inl (0, 40, .inl (fun _ => 0))) ∧ h155[a + 6]? = some (.inl (0, 40, .inl (fun _ => 0))) ∧ h155[a + 7]? = some (.inl (0, 40, .inl (fun _ => 0))) ∧ h155[a + 8]? = some (.inl (0, 40, .inl (fun _ => 0))) ∧ h155[a + 9]? = some (.inl (0, 40, .inl (fun _ => 0))) ∧ h155[a + 10]? = some (.inl (1, 40, .inr (.inl (fun _ => 0)))) ∧ h155.length = a + 11 ∧ lo a h h155) ⟨(gn (by omega) (gn (by omega) (f142))), (gn (by omega) (gs f143)), (gs (gn (by omega) (f144))), (gn (by omega) (gn (by omega) (f145))), (gn (by omega) (gn (by omega) (f146))), (gn (by omega) (gn (by omega) (f147))), (gn (by omega) (gn (by omega) (f148))), (gn (by omega) (gn (by omega) (f149))), (gn (by omega) (gn (by omega) (f150))), (gn (by omega) (gn (by omega) (f151))), (gn (by omega) (gn (by omega) (f152))), (by simp [l153] <;> omega), lo_set (lo_set (k154) (by omega)) (by omega)⟩ ?_
  rintro h155 ⟨f156, f157, f158, f159, f160, f161, f162, f163, f164, f165, f166, l167, k168⟩
  refine aw_iload_n 0 dX1_init_104 rfl rfl ?_
  refine aw_bipush (20) dX1_init_105 (by decide) ?_
  refine aw_icmp_ge 130 dX1_init_107 (by decide) (fun c107 => absurd c107 (by decide)) (fun c107 => ?_)
  refine aw_aload_n 1 dX1_init_110 rfl rfl ?_
  refine aw_get fX1_9 dX1_init_111 f156 rfl ?_
  refine aw_iload_n 0 dX1_init_114 rfl rfl ?_
  refine aw_iload_n 0 dX1_init_115 rfl rfl ?_
  refine aw_iast 11 (rfl) (by decide) (by decide) dX1_init_116 f157 ?_
  rw [xid_q 11 12 11 rfl rfl]
  refine aw_aload_n 1 dX1_init_117 rfl rfl ?_
  refine aw_get fX1_15 dX1_init_118 (gn (by omega) (f156)) rfl ?_
  refine aw_iload_n 0 dX1_init_121 rfl rfl ?_
  refine aw_iload_n 0 dX1_init_122 rfl rfl ?_
  refine aw_iast 11 (rfl) (by decide) (by decide) dX1_init_123 (gn (by omega) (f158)) ?_
  rw [xid_q 11 12 11 rfl rfl]
  refine aw_iinc (j := 0) 12 [(1, .int 12), (0, .ref (G.1 + a))] dX1_init_124 rfl (by decide) (by decide) rfl ?_
  refine aw_goto 104 dX1_init_127 (by decide) ?_
  refine aw_fg (fun h169 => h169[a]? = some (.inr (1, [.ref (G.1 + (a + 1)), .ref (G.1 + (a + 2)), .ref (G.1 + (a + 3)), .ref (G.1 + (a + 4)), .ref (G.1 + (a + 5)), .ref (G.1 + (a + 6)), .ref (G.1 + (a + 7)), .ref (G.1 + (a + 8)), .ref (G.1 + (a + 9)), .ref (G.1 + (a + 10)), .int 0, .int 5, .int 1, .int 1])) ∧ h169[a + 1]? = some (.inl (0, 20, .inl (xid 12))) ∧ h169[a + 2]? = some (.inl (0, 20, .inl (xid 12))) ∧ h169[a + 3]? = some (.inl (0, 4, .inl (fun _ => 0))) ∧ h169[a + 4]? = some (.inl (0, 4, .inl (fun _ => 0))) ∧ h169[a + 5]? = some (.inl (0, 40, .inl (fun _ => 0))) ∧ h169[a + 6]? = some (.inl (0, 40, .inl (fun _ => 0))) ∧ h169[a + 7]? = some (.inl (0, 40, .inl (fun _ => 0))) ∧ h169[a + 8]? = some (.inl (0, 40, .inl (fun _ => 0))) ∧ h169[a + 9]? = some (.inl (0, 40, .inl (fun _ => 0))) ∧ h169[a + 10]? = some (.inl (1, 40, .inr (.inl (fun _ => 0)))) ∧ h169.length = a + 11 ∧ lo a h h169) ⟨(gn (by omega) (gn (by omega) (f156))), (gn (by omega) (gs f157)), (gs (gn (by omega) (f158))), (gn (by omega) (gn (by omega) (f159))), (gn (by omega) (gn (by omega) (f160))), (gn (by omega) (gn (by omega) (f161))), (gn (by omega) (gn (by omega) (f162))), (gn (by omega) (gn (by omega) (f163))), (gn (by omega) (gn (by omega) (f164))), (gn (by omega) (gn (by omega) (f165))), (gn (by omega) (gn (by omega) (f166))), (by simp [l167] <;> omega), lo_set (lo_set (k168) (by omega)) (by omega)⟩ ?_
  rintro h169 ⟨f170, f171, f172, f173, f174, f175, f176, f177, f178, f179, f180, l181, k182⟩
  refine aw_iload_n 0 dX1_init_104 rfl rfl ?_
  refine aw_bipush (20) dX1_init_105 (by decide) ?_
  refine aw_icmp_ge 130 dX1_init_107 (by decide) (fun c107 => absurd c107 (by decide)) (fun c107 => ?_)
  refine aw_aload_n 1 dX1_init_110 rfl rfl ?_
  refine aw_get fX1_9 dX1_init_111 f170 rfl ?_
  refine aw_iload_n 0 dX1_init_114 rfl rfl ?_
  refine aw_iload_n 0 dX1_init_115 rfl rfl ?_
  refine aw_iast 12 (rfl) (by decide) (by decide) dX1_init_116 f171 ?_
  rw [xid_q 12 13 12 rfl rfl]
  refine aw_aload_n 1 dX1_init_117 rfl rfl ?_
  refine aw_get fX1_15 dX1_init_118 (gn (by omega) (f170)) rfl ?_
  refine aw_iload_n 0 dX1_init_121 rfl rfl ?_
  refine aw_iload_n 0 dX1_init_122 rfl rfl ?_
  refine aw_iast 12 (rfl) (by decide) (by decide) dX1_init_123 (gn (by omega) (f172)) ?_
  rw [xid_q 12 13 12 rfl rfl]
  refine aw_iinc (j := 0) 13 [(1, .int 13), (0, .ref (G.1 + a))] dX1_init_124 rfl (by decide) (by decide) rfl ?_
  refine aw_goto 104 dX1_init_127 (by decide) ?_
  refine aw_fg (fun h183 => h183[a]? = some (.inr (1, [.ref (G.1 + (a + 1)), .ref (G.1 + (a + 2)), .ref (G.1 + (a + 3)), .ref (G.1 + (a + 4)), .ref (G.1 + (a + 5)), .ref (G.1 + (a + 6)), .ref (G.1 + (a + 7)), .ref (G.1 + (a + 8)), .ref (G.1 + (a + 9)), .ref (G.1 + (a + 10)), .int 0, .int 5, .int 1, .int 1])) ∧ h183[a + 1]? = some (.inl (0, 20, .inl (xid 13))) ∧ h183[a + 2]? = some (.inl (0, 20, .inl (xid 13))) ∧ h183[a + 3]? = some (.inl (0, 4, .inl (fun _ => 0))) ∧ h183[a + 4]? = some (.inl (0, 4, .inl (fun _ => 0))) ∧ h183[a + 5]? = some (.inl (0, 40, .inl (fun _ => 0))) ∧ h183[a + 6]? = some (.inl (0, 40, .inl (fun _ => 0))) ∧ h183[a + 7]? = some (.inl (0, 40, .inl (fun _ => 0))) ∧ h183[a + 8]? = some (.inl (0, 40, .inl (fun _ => 0))) ∧ h183[a + 9]? = some (.inl (0, 40, .inl (fun _ => 0))) ∧ h183[a + 10]? = some (.inl (1, 40, .inr (.inl (fun _ => 0)))) ∧ h183.length = a + 11 ∧ lo a h h183) ⟨(gn (by omega) (gn (by omega) (f170))), (gn (by omega) (gs f171)), (gs (gn (by omega) (f172))), (gn (by omega) (gn (by omega) (f173))), (gn (by omega) (gn (by omega) (f174))), (gn (by omega) (gn (by omega) (f175))), (gn (by omega) (gn (by omega) (f176))), (gn (by omega) (gn (by omega) (f177))), (gn (by omega) (gn (by omega) (f178))), (gn (by omega) (gn (by omega) (f179))), (gn (by omega) (gn (by omega) (f180))), (by simp [l181] <;> omega), lo_set (lo_set (k182) (by omega)) (by omega)⟩ ?_
  rintro h183 ⟨f184, f185, f186, f187, f188, f189, f190, f191, f192, f193, f194, l195, k196⟩
  refine aw_iload_n 0 dX1_init_104 rfl rfl ?_
  refine aw_bipush (20) dX1_init_105 (by decide) ?_
  refine aw_icmp_ge 130 dX1_init_107 (by decide) (fun c107 => absurd c107 (by decide)) (fun c107 => ?_)
  refine aw_aload_n 1 dX1_init_110 rfl rfl ?_
  refine aw_get fX1_9 dX1_init_111 f184 rfl ?_
  refine aw_iload_n 0 dX1_init_114 rfl rfl ?_
  refine aw_iload_n 0 dX1_init_115 rfl rfl ?_
  refine aw_iast 13 (rfl) (by decide) (by decide) dX1_init_116 f185 ?_
  rw [xid_q 13 14 13 rfl rfl]
  refine aw_aload_n 1 dX1_init_117 rfl rfl ?_
  refine aw_get fX1_15 dX1_init_118 (gn (by omega) (f184)) rfl ?_
  refine aw_iload_n 0 dX1_init_121 rfl rfl ?_
  refine aw_iload_n 0 dX1_init_122 rfl rfl ?_
  refine aw_iast 13 (rfl) (by decide) (by decide) dX1_init_123 (gn (by omega) (f186)) ?_
  rw [xid_q 13 14 13 rfl rfl]
  refine aw_iinc (j := 0) 14 [(1, .int 14), (0, .ref (G.1 + a))] dX1_init_124 rfl (by decide) (by decide) rfl ?_
  refine aw_goto 104 dX1_init_127 (by decide) ?_
  refine aw_fg (fun h197 => h197[a]? = some (.inr (1, [.ref (G.1 + (a + 1)), .ref (G.1 + (a + 2)), .ref (G.1 + (a + 3)), .ref (G.1 + (a + 4)), .ref (G.1 + (a + 5)), .ref (G.1 + (a + 6)), .ref (G.1 + (a + 7)), .ref (G.1 + (a + 8)), .ref (G.1 + (a + 9)), .ref (G.1 + (a + 10)), .int 0, .int 5, .int 1, .int 1])) ∧ h197[a + 1]? = some (.inl (0, 20, .inl (xid 14))) ∧ h197[a + 2]? = some (.inl (0, 20, .inl (xid 14))) ∧ h197[a + 3]? = some (.inl (0, 4, .inl (fun _ => 0))) ∧ h197[a + 4]? = some (.inl (0, 4, .inl (fun _ => 0))) ∧ h197[a + 5]? = some (.inl (0, 40, .inl (fun _ => 0))) ∧ h197[a + 6]? = some (.inl (0, 40, .inl (fun _ => 0))) ∧ h197[a + 7]? = some (.inl (0, 40, .inl (fun _ => 0))) ∧ h197[a + 8]? = some (.inl (0, 40, .inl (fun _ => 0))) ∧ h197[a + 9]? = some (.inl (0, 40, .inl (fun _ => 0))) ∧ h197[a + 10]? = some (.inl (1, 40, .inr (.inl (fun _ => 0)))) ∧ h197.length = a + 11 ∧ lo a h h197) ⟨(gn (by omega) (gn (by omega) (f184))), (gn (by omega) (gs f185)), (gs (gn (by omega) (f186))), (gn (by omega) (gn (by omega) (f187))), (gn (by omega) (gn (by omega) (f188))), (gn (by omega) (gn (by omega) (f189))), (gn (by omega) (gn (by omega) (f190))), (gn (by omega) (gn (by omega) (f191))), (gn (by omega) (gn (by omega) (f192))), (gn (by omega) (gn (by omega) (f193))), (gn (by omega) (gn (by omega) (f194))), (by simp [l195] <;> omega), lo_set (lo_set (k196) (by omega)) (by omega)⟩ ?_
  rintro h197 ⟨f198, f199, f200, f201, f202, f203, f204, f205, f206, f207, f208, l209, k210⟩
  refine aw_iload_n 0 dX1_init_104 rfl rfl ?_
  refine aw_bipush (20) dX1_init_105 (by decide) ?_
  refine aw_icmp_ge 130 dX1_init_107 (by decide) (fun c107 => absurd c107 (by decide)) (fun c107 => ?_)
  refine aw_aload_n 1 dX1_init_110 rfl rfl ?_
  refine aw_get fX1_9 dX1_init_111 f198 rfl ?_
  refine aw_iload_n 0 dX1_init_114 rfl rfl ?_
  refine aw_iload_n 0 dX1_init_115 rfl rfl ?_
  refine aw_iast 14 (rfl) (by decide) (by decide) dX1_init_116 f199 ?_
  rw [xid_q 14 15 14 rfl rfl]
  refine aw_aload_n 1 dX1_init_117 rfl rfl ?_
  refine aw_get fX1_15 dX1_init_118 (gn (by omega) (f198)) rfl ?_
  refine aw_iload_n 0 dX1_init_121 rfl rfl ?_
  refine aw_iload_n 0 dX1_init_122 rfl rfl ?_
  refine aw_iast 14 (rfl) (by decide) (by decide) dX1_init_123 (gn (by omega) (f200)) ?_
  rw [xid_q 14 15 14 rfl rfl]
  refine aw_iinc (j := 0) 15 [(1, .int 15), (0, .ref (G.1 + a))] dX1_init_124 rfl (by decide) (by decide) rfl ?_
  refine aw_goto 104 dX1_init_127 (by decide) ?_
  refine aw_fg (fun h211 => h211[a]? = some (.inr (1, [.ref (G.1 + (a + 1)), .ref (G.1 + (a + 2)), .ref (G.1 + (a + 3)), .ref (G.1 + (a + 4)), .ref (G.1 + (a + 5)), .ref (G.1 + (a + 6)), .ref (G.1 + (a + 7)), .ref (G.1 + (a + 8)), .ref (G.1 + (a + 9)), .ref (G.1 + (a + 10)), .int 0, .int 5, .int 1, .int 1])) ∧ h211[a + 1]? = some (.inl (0, 20, .inl (xid 15))) ∧ h211[a + 2]? = some (.inl (0, 20, .inl (xid 15))) ∧ h211[a + 3]? = some (.inl (0, 4, .inl (fun _ => 0))) ∧ h211[a + 4]? = some (.inl (0, 4, .inl (fun _ => 0))) ∧ h211[a + 5]? = some (.inl (0, 40, .inl (fun _ => 0))) ∧ h211[a + 6]? = some (.inl (0, 40, .inl (fun _ => 0))) ∧ h211[a + 7]? = some (.inl (0, 40, .inl (fun _ => 0))) ∧ h211[a + 8]? = some (.inl (0, 40, .inl (fun _ => 0))) ∧ h211[a + 9]? = some (.inl (0, 40, .inl (fun _ => 0))) ∧ h211[a + 10]? = some (.inl (1, 40, .inr (.inl (fun _ => 0)))) ∧ h211.length = a + 11 ∧ lo a h h211) ⟨(gn (by omega) (gn (by omega) (f198))), (gn (by omega) (gs f199)), (gs (gn (by omega) (f200))), (gn (by omega) (gn (by omega) (f201))), (gn (by omega) (gn (by omega) (f202))), (gn (by omega) (gn (by omega) (f203))), (gn (by omega) (gn (by omega) (f204))), (gn (by omega) (gn (by omega) (f205))), (gn (by omega) (gn (by omega) (f206))), (gn (by omega) (gn (by omega) (f207))), (gn (by omega) (gn (by omega) (f208))), (by simp [l209] <;> omega), lo_set (lo_set (k210) (by omega)) (by omega)⟩ ?_
  rintro h211 ⟨f212, f213, f214, f215, f216, f217, f218, f219, f220, f221, f222, l223, k224⟩
  refine aw_iload_n 0 dX1_init_104 rfl rfl ?_
  refine aw_bipush (20) dX1_init_105 (by decide) ?_
  refine aw_icmp_ge 130 dX1_init_107 (by decide) (fun c107 => absurd c107 (by decide)) (fun c107 => ?_)
  refine aw_aload_n 1 dX1_init_110 rfl rfl ?_
  refine aw_get fX1_9 dX1_init_111 f212 rfl ?_
  refine aw_iload_n 0 dX1_init_114 rfl rfl ?_
  refine aw_iload_n 0 dX1_init_115 rfl rfl ?_
  refine aw_iast 15 (rfl) (by decide) (by decide) dX1_init_116 f213 ?_
  rw [xid_q 15 16 15 rfl rfl]
  refine aw_aload_n 1 dX1_init_117 rfl rfl ?_
  refine aw_get fX1_15 dX1_init_118 (gn (by omega) (f212)) rfl ?_
  refine aw_iload_n 0 dX1_init_121 rfl rfl ?_
  refine aw_iload_n 0 dX1_init_122 rfl rfl ?_
  refine aw_iast 15 (rfl) (by decide) (by decide) dX1_init_123 (gn (by omega) (f214)) ?_
  rw [xid_q 15 16 15 rfl rfl]
  refine aw_iinc (j := 0) 16 [(1, .int 16), (0, .ref (G.1 + a))] dX1_init_124 rfl (by decide) (by decide) rfl ?_
  refine aw_goto 104 dX1_init_127 (by decide) ?_
  refine aw_fg (fun h225 => h225[a]? = some (.inr (1, [.ref (G.1 + (a + 1)), .ref (G.1 + (a + 2)), .ref (G.1 + (a + 3)), .ref (G.1 + (a + 4)), .ref (G.1 + (a + 5)), .ref (G.1 + (a + 6)), .ref (G.1 + (a + 7)), .ref (G.1 + (a + 8)), .ref (G.1 + (a + 9)), .ref (G.1 + (a + 10)), .int 0, .int 5, .int 1, .int 1])) ∧ h225[a + 1]? = some (.inl (0, 20, .inl (xid 16))) ∧ h225[a + 2]? = some (.inl (0, 20, .inl (xid 16))) ∧ h225[a + 3]? = some (.inl (0, 4, .inl (fun _ => 0))) ∧ h225[a + 4]? = some (.inl (0, 4, .inl (fun _ => 0))) ∧ h225[a + 5]? = some (.inl (0, 40, .inl (fun _ => 0))) ∧ h225[a + 6]? = some (.inl (0, 40, .inl (fun _ => 0))) ∧ h225[a + 7]? = some (.inl (0, 40, .inl (fun _ => 0))) ∧ h225[a + 8]? = some (.inl (0, 40, .inl (fun _ => 0))) ∧ h225[a + 9]? = some (.inl (0, 40, .inl (fun _ => 0))) ∧ h225[a + 10]? = some (.inl (1, 40, .inr (.inl (fun _ => 0)))) ∧ h225.length = a + 11 ∧ lo a h h225) ⟨(gn (by omega) (gn (by omega) (f212))), (gn (by omega) (gs f213)), (gs (gn (by omega) (f214))), (gn (by omega) (gn (by omega) (f215))), (gn (by omega) (gn (by omega) (f216))), (gn (by omega) (gn (by omega) (f217))), (gn (by omega) (gn (by omega) (f218))), (gn (by omega) (gn (by omega) (f219))), (gn (by omega) (gn (by omega) (f220))), (gn (by omega) (gn (by omega) (f221))), (gn (by omega) (gn (by omega) (f222))), (by simp [l223] <;> omega), lo_set (lo_set (k224) (by omega)) (by omega)⟩ ?_
  rintro h225 ⟨f226, f227, f228, f229, f230, f231, f232, f233, f234, f235, f236, l237, k238⟩
  refine aw_iload_n 0 dX1_init_104 rfl rfl ?_
  refine aw_bipush (20) dX1_init_105 (by decide) ?_
  refine aw_icmp_ge 130 dX1_init_107 (by decide) (fun c107 => absurd c107 (by decide)) (fun c107 => ?_)
  refine aw_aload_n 1 dX1_init_110 rfl rfl ?_
  refine aw_get fX1_9 dX1_init_111 f226 rfl ?_
  refine aw_iload_n 0 dX1_init_114 rfl rfl ?_
  refine aw_iload_n 0 dX1_init_115 rfl rfl ?_
  refine aw_iast 16 (rfl) (by decide) (by decide) dX1_init_116 f227 ?_
  rw [xid_q 16 17 16 rfl rfl]
  refine aw_aload_n 1 dX1_init_117 rfl rfl ?_
  refine aw_get fX1_15 dX1_init_118 (gn (by omega) (f226)) rfl ?_
  refine aw_iload_n 0 dX1_init_121 rfl rfl ?_
  refine aw_iload_n 0 dX1_init_122 rfl rfl ?_
  refine aw_iast 16 (rfl) (by decide) (by decide) dX1_init_123 (gn (by omega) (f228)) ?_
  rw [xid_q 16 17 16 rfl rfl]
  refine aw_iinc (j := 0) 17 [(1, .int 17), (0, .ref (G.1 + a))] dX1_init_124 rfl (by decide) (by decide) rfl ?_
  refine aw_goto 104 dX1_init_127 (by decide) ?_
  refine aw_fg (fun h239 => h239[a]? = some (.inr (1, [.ref (G.1 + (a + 1)), .ref (G.1 + (a + 2)), .ref (G.1 + (a + 3)), .ref (G.1 + (a + 4)), .ref (G.1 + (a + 5)), .ref (G.1 + (a + 6)), .ref (G.1 + (a + 7)), .ref (G.1 + (a + 8)), .ref (G.1 + (a + 9)), .ref (G.1 + (a + 10)), .int 0, .int 5, .int 1, .int 1])) ∧ h239[a + 1]? = some (.inl (0, 20, .inl (xid 17))) ∧ h239[a + 2]? = some (.inl (0, 20, .inl (xid 17))) ∧ h239[a + 3]? = some (.inl (0, 4, .inl (fun _ => 0))) ∧ h239[a + 4]? = some (.inl (0, 4, .inl (fun _ => 0))) ∧ h239[a + 5]? = some (.inl (0, 40, .inl (fun _ => 0))) ∧ h239[a + 6]? = some (.inl (0, 40, .inl (fun _ => 0))) ∧ h239[a + 7]? = some (.inl (0, 40, .inl (fun _ => 0))) ∧ h239[a + 8]? = some (.inl (0, 40, .inl (fun _ => 0))) ∧ h239[a + 9]? = some (.inl (0, 40, .inl (fun _ => 0))) ∧ h239[a + 10]? = some (.inl (1, 40, .inr (.inl (fun _ => 0)))) ∧ h239.length = a + 11 ∧ lo a h h239) ⟨(gn (by omega) (gn (by omega) (f226))), (gn (by omega) (gs f227)), (gs (gn (by omega) (f228))), (gn (by omega) (gn (by omega) (f229))), (gn (by omega) (gn (by omega) (f230))), (gn (by omega) (gn (by omega) (f231))), (gn (by omega) (gn (by omega) (f232))), (gn (by omega) (gn (by omega) (f233))), (gn (by omega) (gn (by omega) (f234))), (gn (by omega) (gn (by omega) (f235))), (gn (by omega) (gn (by omega) (f236))), (by simp [l237] <;> omega), lo_set (lo_set (k238) (by omega)) (by omega)⟩ ?_
  rintro h239 ⟨f240, f241, f242, f243, f244, f245, f246, f247, f248, f249, f250, l251, k252⟩
  refine aw_iload_n 0 dX1_init_104 rfl rfl ?_
  refine aw_bipush (20) dX1_init_105 (by decide) ?_
  refine aw_icmp_ge 130 dX1_init_107 (by decide) (fun c107 => absurd c107 (by decide)) (fun c107 => ?_)
  refine aw_aload_n 1 dX1_init_110 rfl rfl ?_
  refine aw_get fX1_9 dX1_init_111 f240 rfl ?_
  refine aw_iload_n 0 dX1_init_114 rfl rfl ?_
  refine aw_iload_n 0 dX1_init_115 rfl rfl ?_
  refine aw_iast 17 (rfl) (by decide) (by decide) dX1_init_116 f241 ?_
  rw [xid_q 17 18 17 rfl rfl]
  refine aw_aload_n 1 dX1_init_117 rfl rfl ?_
  refine aw_get fX1_15 dX1_init_118 (gn (by omega) (f240)) rfl ?_
  refine aw_iload_n 0 dX1_init_121 rfl rfl ?_
  refine aw_iload_n 0 dX1_init_122 rfl rfl ?_
  refine aw_iast 17 (rfl) (by decide) (by decide) dX1_init_123 (gn (by omega) (f242)) ?_
  rw [xid_q 17 18 17 rfl rfl]
  refine aw_iinc (j := 0) 18 [(1, .int 18), (0, .ref (G.1 + a))] dX1_init_124 rfl (by decide) (by decide) rfl ?_
  refine aw_goto 104 dX1_init_127 (by decide) ?_
  refine aw_fg (fun h253 => h253[a]? = some (.inr (1, [.ref (G.1 + (a + 1)), .ref (G.1 + (a + 2)), .ref (G.1 + (a + 3)), .ref (G.1 + (a + 4)), .ref (G.1 + (a + 5)), .ref (G.1 + (a + 6)), .ref (G.1 + (a + 7)), .ref (G.1 + (a + 8)), .ref (G.1 + (a + 9)), .ref (G.1 + (a + 10)), .int 0, .int 5, .int 1, .int 1])) ∧ h253[a + 1]? = some (.inl (0, 20, .inl (xid 18))) ∧ h253[a + 2]? = some (.inl (0, 20, .inl (xid 18))) ∧ h253[a + 3]? = some (.inl (0, 4, .inl (fun _ => 0))) ∧ h253[a + 4]? = some (.inl (0, 4, .inl (fun _ => 0))) ∧ h253[a + 5]? = some (.inl (0, 40, .inl (fun _ => 0))) ∧ h253[a + 6]? = some (.inl (0, 40, .inl (fun _ => 0))) ∧ h253[a + 7]? = some (.inl (0, 40, .inl (fun _ => 0))) ∧ h253[a + 8]? = some (.inl (0, 40, .inl (fun _ => 0))) ∧ h253[a + 9]? = some (.inl (0, 40, .inl (fun _ => 0))) ∧ h253[a + 10]? = some (.inl (1, 40, .inr (.inl (fun _ => 0)))) ∧ h253.length = a + 11 ∧ lo a h h253) ⟨(gn (by omega) (gn (by omega) (f240))), (gn (by omega) (gs f241)), (gs (gn (by omega) (f242))), (gn (by omega) (gn (by omega) (f243))), (gn (by omega) (gn (by omega) (f244))), (gn (by omega) (gn (by omega) (f245))), (gn (by omega) (gn (by omega) (f246))), (gn (by omega) (gn (by omega) (f247))), (gn (by omega) (gn (by omega) (f248))), (gn (by omega) (gn (by omega) (f249))), (gn (by omega) (gn (by omega) (f250))), (by simp [l251] <;> omega), lo_set (lo_set (k252) (by omega)) (by omega)⟩ ?_
  rintro h253 ⟨f254, f255, f256, f257, f258, f259, f260, f261, f262, f263, f264, l265, k266⟩
  refine aw_iload_n 0 dX1_init_104 rfl rfl ?_
  refine aw_bipush (20) dX1_init_105 (by decide) ?_
  refine aw_icmp_ge 130 dX1_init_107 (by decide) (fun c107 => absurd c107 (by decide)) (fun c107 => ?_)
  refine aw_aload_n 1 dX1_init_110 rfl rfl ?_
  refine aw_get fX1_9 dX1_init_111 f254 rfl ?_
  refine aw_iload_n 0 dX1_init_114 rfl rfl ?_
  refine aw_iload_n 0 dX1_init_115 rfl rfl ?_
  refine aw_iast 18 (rfl) (by decide) (by decide) dX1_init_116 f255 ?_
  rw [xid_q 18 19 18 rfl rfl]
  refine aw_aload_n 1 dX1_init_117 rfl rfl ?_
  refine aw_get fX1_15 dX1_init_118 (gn (by omega) (f254)) rfl ?_
  refine aw_iload_n 0 dX1_init_121 rfl rfl ?_
  refine aw_iload_n 0 dX1_init_122 rfl rfl ?_
  refine aw_iast 18 (rfl) (by decide) (by decide) dX1_init_123 (gn (by omega) (f256)) ?_
  rw [xid_q 18 19 18 rfl rfl]
  refine aw_iinc (j := 0) 19 [(1, .int 19), (0, .ref (G.1 + a))] dX1_init_124 rfl (by decide) (by decide) rfl ?_
  refine aw_goto 104 dX1_init_127 (by decide) ?_
  refine aw_fg (fun h267 => h267[a]? = some (.inr (1, [.ref (G.1 + (a + 1)), .ref (G.1 + (a + 2)), .ref (G.1 + (a + 3)), .ref (G.1 + (a + 4)), .ref (G.1 + (a + 5)), .ref (G.1 + (a + 6)), .ref (G.1 + (a + 7)), .ref (G.1 + (a + 8)), .ref (G.1 + (a + 9)), .ref (G.1 + (a + 10)), .int 0, .int 5, .int 1, .int 1])) ∧ h267[a + 1]? = some (.inl (0, 20, .inl (xid 19))) ∧ h267[a + 2]? = some (.inl (0, 20, .inl (xid 19))) ∧ h267[a + 3]? = some (.inl (0, 4, .inl (fun _ => 0))) ∧ h267[a + 4]? = some (.inl (0, 4, .inl (fun _ => 0))) ∧ h267[a + 5]? = some (.inl (0, 40, .inl (fun _ => 0))) ∧ h267[a + 6]? = some (.inl (0, 40, .inl (fun _ => 0))) ∧ h267[a + 7]? = some (.inl (0, 40, .inl (fun _ => 0))) ∧ h267[a + 8]? = some (.inl (0, 40, .inl (fun _ => 0))) ∧ h267[a + 9]? = some (.inl (0, 40, .inl (fun _ => 0))) ∧ h267[a + 10]? = some (.inl (1, 40, .inr (.inl (fun _ => 0)))) ∧ h267.length = a + 11 ∧ lo a h h267) ⟨(gn (by omega) (gn (by omega) (f254))), (gn (by omega) (gs f255)), (gs (gn (by omega) (f256))), (gn (by omega) (gn (by omega) (f257))), (gn (by omega) (gn (by omega) (f258))), (gn (by omega) (gn (by omega) (f259))), (gn (by omega) (gn (by omega) (f260))), (gn (by omega) (gn (by omega) (f261))), (gn (by omega) (gn (by omega) (f262))), (gn (by omega) (gn (by omega) (f263))), (gn (by omega) (gn (by omega) (f264))), (by simp [l265] <;> omega), lo_set (lo_set (k266) (by omega)) (by omega)⟩ ?_
  rintro h267 ⟨f268, f269, f270, f271, f272, f273, f274, f275, f276, f277, f278, l279, k280⟩
  refine aw_iload_n 0 dX1_init_104 rfl rfl ?_
  refine aw_bipush (20) dX1_init_105 (by decide) ?_
  refine aw_icmp_ge 130 dX1_init_107 (by decide) (fun c107 => absurd c107 (by decide)) (fun c107 => ?_)
  refine aw_aload_n 1 dX1_init_110 rfl rfl ?_
  refine aw_get fX1_9 dX1_init_111 f268 rfl ?_
  refine aw_iload_n 0 dX1_init_114 rfl rfl ?_
  refine aw_iload_n 0 dX1_init_115 rfl rfl ?_
  refine aw_iast 19 (rfl) (by decide) (by decide) dX1_init_116 f269 ?_
  rw [xid_q 19 20 19 rfl rfl]
  refine aw_aload_n 1 dX1_init_117 rfl rfl ?_
  refine aw_get fX1_15 dX1_init_118 (gn (by omega) (f268)) rfl ?_
  refine aw_iload_n 0 dX1_init_121 rfl rfl ?_
  refine aw_iload_n 0 dX1_init_122 rfl rfl ?_
  refine aw_iast 19 (rfl) (by decide) (by decide) dX1_init_123 (gn (by omega) (f270)) ?_
  rw [xid_q 19 20 19 rfl rfl]
  refine aw_iinc (j := 0) 20 [(1, .int 20), (0, .ref (G.1 + a))] dX1_init_124 rfl (by decide) (by decide) rfl ?_
  refine aw_goto 104 dX1_init_127 (by decide) ?_
  refine aw_fg (fun h281 => h281[a]? = some (.inr (1, [.ref (G.1 + (a + 1)), .ref (G.1 + (a + 2)), .ref (G.1 + (a + 3)), .ref (G.1 + (a + 4)), .ref (G.1 + (a + 5)), .ref (G.1 + (a + 6)), .ref (G.1 + (a + 7)), .ref (G.1 + (a + 8)), .ref (G.1 + (a + 9)), .ref (G.1 + (a + 10)), .int 0, .int 5, .int 1, .int 1])) ∧ h281[a + 1]? = some (.inl (0, 20, .inl (xid 20))) ∧ h281[a + 2]? = some (.inl (0, 20, .inl (xid 20))) ∧ h281[a + 3]? = some (.inl (0, 4, .inl (fun _ => 0))) ∧ h281[a + 4]? = some (.inl (0, 4, .inl (fun _ => 0))) ∧ h281[a + 5]? = some (.inl (0, 40, .inl (fun _ => 0))) ∧ h281[a + 6]? = some (.inl (0, 40, .inl (fun _ => 0))) ∧ h281[a + 7]? = some (.inl (0, 40, .inl (fun _ => 0))) ∧ h281[a + 8]? = some (.inl (0, 40, .inl (fun _ => 0))) ∧ h281[a + 9]? = some (.inl (0, 40, .inl (fun _ => 0))) ∧ h281[a + 10]? = some (.inl (1, 40, .inr (.inl (fun _ => 0)))) ∧ h281.length = a + 11 ∧ lo a h h281) ⟨(gn (by omega) (gn (by omega) (f268))), (gn (by omega) (gs f269)), (gs (gn (by omega) (f270))), (gn (by omega) (gn (by omega) (f271))), (gn (by omega) (gn (by omega) (f272))), (gn (by omega) (gn (by omega) (f273))), (gn (by omega) (gn (by omega) (f274))), (gn (by omega) (gn (by omega) (f275))), (gn (by omega) (gn (by omega) (f276))), (gn (by omega) (gn (by omega) (f277))), (gn (by omega) (gn (by omega) (f278))), (by simp [l279] <;> omega), lo_set (lo_set (k280) (by omega)) (by omega)⟩ ?_
  rintro h281 ⟨f282, f283, f284, f285, f286, f287, f288, f289, f290, f291, f292, l293, k294⟩
  refine aw_iload_n 0 dX1_init_104 rfl rfl ?_
  refine aw_bipush (20) dX1_init_105 (by decide) ?_
  refine aw_icmp_ge 130 dX1_init_107 (by decide) (fun c107 => ?_) (fun c107 => absurd (by decide) c107)
  refine aw_iconst (0) dX1_init_130 (by decide) ?_
  refine aw_istore_n [(1, .int 0), (0, .ref (G.1 + a))] dX1_init_131 rfl (by decide) rfl ?_
  refine aw_fg (fun h295 => h295[a]? = some (.inr (1, [.ref (G.1 + (a + 1)), .ref (G.1 + (a + 2)), .ref (G.1 + (a + 3)), .ref (G.1 + (a + 4)), .ref (G.1 + (a + 5)), .ref (G.1 + (a + 6)), .ref (G.1 + (a + 7)), .ref (G.1 + (a + 8)), .ref (G.1 + (a + 9)), .ref (G.1 + (a + 10)), .int 0, .int 5, .int 1, .int 1])) ∧ h295[a + 1]? = some (.inl (0, 20, .inl (xid 20))) ∧ h295[a + 2]? = some (.inl (0, 20, .inl (xid 20))) ∧ h295[a + 3]? = some (.inl (0, 4, .inl (fun _ => 0))) ∧ h295[a + 4]? = some (.inl (0, 4, .inl (fun _ => 0))) ∧ h295[a + 5]? = some (.inl (0, 40, .inl (fun _ => 0))) ∧ h295[a + 6]? = some (.inl (0, 40, .inl (fun _ => 0))) ∧ h295[a + 7]? = some (.inl (0, 40, .inl (fun _ => 0))) ∧ h295[a + 8]? = some (.inl (0, 40, .inl (fun _ => 0))) ∧ h295[a + 9]? = some (.inl (0, 40, .inl (fun _ => 0))) ∧ h295[a + 10]? = some (.inl (1, 40, .inr (.inl (fun _ => 0)))) ∧ h295.length = a + 11 ∧ lo a h h295) ⟨f282, f283, f284, f285, f286, f287, f288, f289, f290, f291, f292, (by simp [l293] <;> omega), k294⟩ ?_
  rintro h295 ⟨f296, f297, f298, f299, f300, f301, f302, f303, f304, f305, f306, l307, k308⟩
  refine aw_iload_n 0 dX1_init_132 rfl rfl ?_
  refine aw_iconst (4) dX1_init_133 (by decide) ?_
  refine aw_icmp_ge 152 dX1_init_134 (by decide) (fun c134 => absurd c134 (by decide)) (fun c134 => ?_)
  refine aw_aload_n 1 dX1_init_137 rfl rfl ?_
  refine aw_get fX1_18 dX1_init_138 f296 rfl ?_
  refine aw_iload_n 0 dX1_init_141 rfl rfl ?_
  refine aw_sipush (1500) dX1_init_142 (by decide) ?_
  refine aw_iast 0 (rfl) (by decide) (by decide) dX1_init_145 f299 ?_
  rw [xcs_f 1500]
  refine aw_iinc (j := 0) 1 [(1, .int 1), (0, .ref (G.1 + a))] dX1_init_146 rfl (by decide) (by decide) rfl ?_
  refine aw_goto 132 dX1_init_149 (by decide) ?_
  refine aw_fg (fun h309 => h309[a]? = some (.inr (1, [.ref (G.1 + (a + 1)), .ref (G.1 + (a + 2)), .ref (G.1 + (a + 3)), .ref (G.1 + (a + 4)), .ref (G.1 + (a + 5)), .ref (G.1 + (a + 6)), .ref (G.1 + (a + 7)), .ref (G.1 + (a + 8)), .ref (G.1 + (a + 9)), .ref (G.1 + (a + 10)), .int 0, .int 5, .int 1, .int 1])) ∧ h309[a + 1]? = some (.inl (0, 20, .inl (xid 20))) ∧ h309[a + 2]? = some (.inl (0, 20, .inl (xid 20))) ∧ h309[a + 3]? = some (.inl (0, 4, .inl (xcs 1500 1))) ∧ h309[a + 4]? = some (.inl (0, 4, .inl (fun _ => 0))) ∧ h309[a + 5]? = some (.inl (0, 40, .inl (fun _ => 0))) ∧ h309[a + 6]? = some (.inl (0, 40, .inl (fun _ => 0))) ∧ h309[a + 7]? = some (.inl (0, 40, .inl (fun _ => 0))) ∧ h309[a + 8]? = some (.inl (0, 40, .inl (fun _ => 0))) ∧ h309[a + 9]? = some (.inl (0, 40, .inl (fun _ => 0))) ∧ h309[a + 10]? = some (.inl (1, 40, .inr (.inl (fun _ => 0)))) ∧ h309.length = a + 11 ∧ lo a h h309) ⟨(gn (by omega) (f296)), (gn (by omega) (f297)), (gn (by omega) (f298)), (gs f299), (gn (by omega) (f300)), (gn (by omega) (f301)), (gn (by omega) (f302)), (gn (by omega) (f303)), (gn (by omega) (f304)), (gn (by omega) (f305)), (gn (by omega) (f306)), (by simp [l307] <;> omega), lo_set (k308) (by omega)⟩ ?_
  rintro h309 ⟨f310, f311, f312, f313, f314, f315, f316, f317, f318, f319, f320, l321, k322⟩
  refine aw_iload_n 0 dX1_init_132 rfl rfl ?_
  refine aw_iconst (4) dX1_init_133 (by decide) ?_
  refine aw_icmp_ge 152 dX1_init_134 (by decide) (fun c134 => absurd c134 (by decide)) (fun c134 => ?_)
  refine aw_aload_n 1 dX1_init_137 rfl rfl ?_
  refine aw_get fX1_18 dX1_init_138 f310 rfl ?_
  refine aw_iload_n 0 dX1_init_141 rfl rfl ?_
  refine aw_sipush (1500) dX1_init_142 (by decide) ?_
  refine aw_iast 1 (rfl) (by decide) (by decide) dX1_init_145 f313 ?_
  rw [xcs_q 1500 1 2 rfl]
  refine aw_iinc (j := 0) 2 [(1, .int 2), (0, .ref (G.1 + a))] dX1_init_146 rfl (by decide) (by decide) rfl ?_
  refine aw_goto 132 dX1_init_149 (by decide) ?_
  refine aw_fg (fun h323 => h323[a]? = some (.inr (1, [.ref (G.1 + (a + 1)), .ref (G.1 + (a + 2)), .ref (G.1 + (a + 3)), .ref (G.1 + (a + 4)), .ref (G.1 + (a + 5)), .ref (G.1 + (a + 6)), .ref (G.1 + (a + 7)), .ref (G.1 + (a + 8)), .ref (G.1 + (a + 9)), .ref (G.1 + (a + 10)), .int 0, .int 5, .int 1, .int 1])) ∧ h323[a + 1]? = some (.inl (0, 20, .inl (xid 20))) ∧ h323[a + 2]? = some (.inl (0, 20, .inl (xid 20))) ∧ h323[a + 3]? = some (.inl (0, 4, .inl (xcs 1500 2))) ∧ h323[a + 4]? = some (.inl (0, 4, .inl (fun _ => 0))) ∧ h323[a + 5]? = some (.inl (0, 40, .inl (fun _ => 0))) ∧ h323[a + 6]? = some (.inl (0, 40, .inl (fun _ => 0))) ∧ h323[a + 7]? = some (.inl (0, 40, .inl (fun _ => 0))) ∧ h323[a + 8]? = some (.inl (0, 40, .inl (fun _ => 0))) ∧ h323[a + 9]? = some (.inl (0, 40, .inl (fun _ => 0))) ∧ h323[a + 10]? = some (.inl (1, 40, .inr (.inl (fun _ => 0)))) ∧ h323.length = a + 11 ∧ lo a h h323) ⟨(gn (by omega) (f310)), (gn (by omega) (f311)), (gn (by omega) (f312)), (gs f313), (gn (by omega) (f314)), (gn (by omega) (f315)), (gn (by omega) (f316)), (gn (by omega) (f317)), (gn (by omega) (f318)), (gn (by omega) (f319)), (gn (by omega) (f320)), (by simp [l321] <;> omega), lo_set (k322) (by omega)⟩ ?_
  rintro h323 ⟨f324, f325, f326, f327, f328, f329, f330, f331, f332, f333, f334, l335, k336⟩
  refine aw_iload_n 0 dX1_init_132 rfl rfl ?_
  refine aw_iconst (4) dX1_init_133 (by decide) ?_
  refine aw_icmp_ge 152 dX1_init_134 (by decide) (fun c134 => absurd c134 (by decide)) (fun c134 => ?_)
  refine aw_aload_n 1 dX1_init_137 rfl rfl ?_
  refine aw_get fX1_18 dX1_init_138 f324 rfl ?_
  refine aw_iload_n 0 dX1_init_141 rfl rfl ?_
  refine aw_sipush (1500) dX1_init_142 (by decide) ?_
  refine aw_iast 2 (rfl) (by decide) (by decide) dX1_init_145 f327 ?_
  rw [xcs_q 1500 2 3 rfl]
  refine aw_iinc (j := 0) 3 [(1, .int 3), (0, .ref (G.1 + a))] dX1_init_146 rfl (by decide) (by decide) rfl ?_
  refine aw_goto 132 dX1_init_149 (by decide) ?_
  refine aw_fg (fun h337 => h337[a]? = some (.inr (1, [.ref (G.1 + (a + 1)), .ref (G.1 + (a + 2)), .ref (G.1 + (a + 3)), .ref (G.1 + (a + 4)), .ref (G.1 + (a + 5)), .ref (G.1 + (a + 6)), .ref (G.1 + (a + 7)), .ref (G.1 + (a + 8)), .ref (G.1 + (a + 9)), .ref (G.1 + (a + 10)), .int 0, .int 5, .int 1, .int 1])) ∧ h337[a + 1]? = some (.inl (0, 20, .inl (xid 20))) ∧ h337[a + 2]? = some (.inl (0, 20, .inl (xid 20))) ∧ h337[a + 3]? = some (.inl (0, 4, .inl (xcs 1500 3))) ∧ h337[a + 4]? = some (.inl (0, 4, .inl (fun _ => 0))) ∧ h337[a + 5]? = some (.inl (0, 40, .inl (fun _ => 0))) ∧ h337[a + 6]? = some (.inl (0, 40, .inl (fun _ => 0))) ∧ h337[a + 7]? = some (.inl (0, 40, .inl (fun _ => 0))) ∧ h337[a + 8]? = some (.inl (0, 40, .inl (fun _ => 0))) ∧ h337[a + 9]? = some (.inl (0, 40, .inl (fun _ => 0))) ∧ h337[a + 10]? = some (.inl (1, 40, .inr (.inl (fun _ => 0)))) ∧ h337.length = a + 11 ∧ lo a h h337) ⟨(gn (by omega) (f324)), (gn (by omega) (f325)), (gn (by omega) (f326)), (gs f327), (gn (by omega) (f328)), (gn (by omega) (f329)), (gn (by omega) (f330)), (gn (by omega) (f331)), (gn (by omega) (f332)), (gn (by omega) (f333)), (gn (by omega) (f334)), (by simp [l335] <;> omega), lo_set (k336) (by omega)⟩ ?_
  rintro h337 ⟨f338, f339, f340, f341, f342, f343, f344, f345, f346, f347, f348, l349, k350⟩
  refine aw_iload_n 0 dX1_init_132 rfl rfl ?_
  refine aw_iconst (4) dX1_init_133 (by decide) ?_
  refine aw_icmp_ge 152 dX1_init_134 (by decide) (fun c134 => absurd c134 (by decide)) (fun c134 => ?_)
  refine aw_aload_n 1 dX1_init_137 rfl rfl ?_
  refine aw_get fX1_18 dX1_init_138 f338 rfl ?_
  refine aw_iload_n 0 dX1_init_141 rfl rfl ?_
  refine aw_sipush (1500) dX1_init_142 (by decide) ?_
  refine aw_iast 3 (rfl) (by decide) (by decide) dX1_init_145 f341 ?_
  rw [xcs_q 1500 3 4 rfl]
  refine aw_iinc (j := 0) 4 [(1, .int 4), (0, .ref (G.1 + a))] dX1_init_146 rfl (by decide) (by decide) rfl ?_
  refine aw_goto 132 dX1_init_149 (by decide) ?_
  refine aw_fg (fun h351 => h351[a]? = some (.inr (1, [.ref (G.1 + (a + 1)), .ref (G.1 + (a + 2)), .ref (G.1 + (a + 3)), .ref (G.1 + (a + 4)), .ref (G.1 + (a + 5)), .ref (G.1 + (a + 6)), .ref (G.1 + (a + 7)), .ref (G.1 + (a + 8)), .ref (G.1 + (a + 9)), .ref (G.1 + (a + 10)), .int 0, .int 5, .int 1, .int 1])) ∧ h351[a + 1]? = some (.inl (0, 20, .inl (xid 20))) ∧ h351[a + 2]? = some (.inl (0, 20, .inl (xid 20))) ∧ h351[a + 3]? = some (.inl (0, 4, .inl (xcs 1500 4))) ∧ h351[a + 4]? = some (.inl (0, 4, .inl (fun _ => 0))) ∧ h351[a + 5]? = some (.inl (0, 40, .inl (fun _ => 0))) ∧ h351[a + 6]? = some (.inl (0, 40, .inl (fun _ => 0))) ∧ h351[a + 7]? = some (.inl (0, 40, .inl (fun _ => 0))) ∧ h351[a + 8]? = some (.inl (0, 40, .inl (fun _ => 0))) ∧ h351[a + 9]? = some (.inl (0, 40, .inl (fun _ => 0))) ∧ h351[a + 10]? = some (.inl (1, 40, .inr (.inl (fun _ => 0)))) ∧ h351.length = a + 11 ∧ lo a h h351) ⟨(gn (by omega) (f338)), (gn (by omega) (f339)), (gn (by omega) (f340)), (gs f341), (gn (by omega) (f342)), (gn (by omega) (f343)), (gn (by omega) (f344)), (gn (by omega) (f345)), (gn (by omega) (f346)), (gn (by omega) (f347)), (gn (by omega) (f348)), (by simp [l349] <;> omega), lo_set (k350) (by omega)⟩ ?_
  rintro h351 ⟨f352, f353, f354, f355, f356, f357, f358, f359, f360, f361, f362, l363, k364⟩
  refine aw_iload_n 0 dX1_init_132 rfl rfl ?_
  refine aw_iconst (4) dX1_init_133 (by decide) ?_
  refine aw_icmp_ge 152 dX1_init_134 (by decide) (fun c134 => ?_) (fun c134 => absurd (by decide) c134)
  exact aw_vret rfl dX1_init_152 (by decide) (by decide) ⟨rfl, by simp [l363], f352, f353, f354, f355, f356, f357, f358, f359, f360, f361, f362, k364⟩
