set_option maxHeartbeats 4000000 in
theorem J6_bitCount_g {l : Launch} {G : xG} {h : List va_E} {x : Int32}  : CD l G yJ6_bitCount_0f7a4 cJ6_bitCount_0f7a4 1 (some .int) 0 0 0 [.int x] h (some (.int (bcF x))) h := by
  refine cm_of rfl (Nat.le_of_ble_eq_true rfl) [(0, .int x)] rfl ?_
  refine aw_iload_n 0 dJ6_bitCount_0f7a4_0 rfl rfl ?_
  refine aw_iload_n 0 dJ6_bitCount_0f7a4_1 rfl rfl ?_
  refine aw_iconst (1) dJ6_bitCount_0f7a4_2 (by decide) ?_
  refine aw_iushr _ dJ6_bitCount_0f7a4_3 rfl ?_
  refine aw_ldcw (1431655765) kJ6_265 dJ6_bitCount_0f7a4_4 ?_
  refine aw_iand dJ6_bitCount_0f7a4_7 ?_
  refine aw_isub dJ6_bitCount_0f7a4_8 ?_
  refine aw_top (fun v1 ev1 => ?_)
  refine aw_istore_n [(0, .int v1)] dJ6_bitCount_0f7a4_9 rfl (by decide) rfl ?_
  refine aw_iload_n 0 dJ6_bitCount_0f7a4_10 rfl rfl ?_
  refine aw_ldcw (858993459) kJ6_266 dJ6_bitCount_0f7a4_11 ?_
  refine aw_iand dJ6_bitCount_0f7a4_14 ?_
  refine aw_iload_n 0 dJ6_bitCount_0f7a4_15 rfl rfl ?_
  refine aw_iconst (2) dJ6_bitCount_0f7a4_16 (by decide) ?_
  refine aw_iushr _ dJ6_bitCount_0f7a4_17 rfl ?_
  refine aw_ldcw (858993459) kJ6_266 dJ6_bitCount_0f7a4_18 ?_
  refine aw_iand dJ6_bitCount_0f7a4_21 ?_
  refine aw_iadd dJ6_bitCount_0f7a4_22 ?_
  refine aw_top (fun v2 ev2 => ?_)
  refine aw_istore_n [(0, .int v2)] dJ6_bitCount_0f7a4_23 rfl (by decide) rfl ?_
  refine aw_iload_n 0 dJ6_bitCount_0f7a4_24 rfl rfl ?_
  refine aw_iload_n 0 dJ6_bitCount_0f7a4_25 rfl rfl ?_
  refine aw_iconst (4) dJ6_bitCount_0f7a4_26 (by decide) ?_
  refine aw_iushr _ dJ6_bitCount_0f7a4_27 rfl ?_
  refine aw_iadd dJ6_bitCount_0f7a4_28 ?_
  refine aw_ldcw (252645135) kJ6_267 dJ6_bitCount_0f7a4_29 ?_
  refine aw_iand dJ6_bitCount_0f7a4_32 ?_
  refine aw_top (fun v3 ev3 => ?_)
  refine aw_istore_n [(0, .int v3)] dJ6_bitCount_0f7a4_33 rfl (by decide) rfl ?_
  refine aw_iload_n 0 dJ6_bitCount_0f7a4_34 rfl rfl ?_
  refine aw_iload_n 0 dJ6_bitCount_0f7a4_35 rfl rfl ?_
  refine aw_bipush (8) dJ6_bitCount_0f7a4_36 (by decide) ?_
  refine aw_iushr _ dJ6_bitCount_0f7a4_38 rfl ?_
  refine aw_iadd dJ6_bitCount_0f7a4_39 ?_
  refine aw_top (fun v4 ev4 => ?_)
  refine aw_istore_n [(0, .int v4)] dJ6_bitCount_0f7a4_40 rfl (by decide) rfl ?_
  refine aw_iload_n 0 dJ6_bitCount_0f7a4_41 rfl rfl ?_
  refine aw_iload_n 0 dJ6_bitCount_0f7a4_42 rfl rfl ?_
  refine aw_bipush (16) dJ6_bitCount_0f7a4_43 (by decide) ?_
  refine aw_iushr _ dJ6_bitCount_0f7a4_45 rfl ?_
  refine aw_iadd dJ6_bitCount_0f7a4_46 ?_
  refine aw_top (fun v5 ev5 => ?_)
  refine aw_istore_n [(0, .int v5)] dJ6_bitCount_0f7a4_47 rfl (by decide) rfl ?_
  refine aw_iload_n 0 dJ6_bitCount_0f7a4_48 rfl rfl ?_
  refine aw_bipush (63) dJ6_bitCount_0f7a4_49 (by decide) ?_
  refine aw_iand dJ6_bitCount_0f7a4_51 ?_
  exact aw_iret rfl dJ6_bitCount_0f7a4_52 (by decide) (by decide) ⟨by subst_vars; rfl, rfl⟩
