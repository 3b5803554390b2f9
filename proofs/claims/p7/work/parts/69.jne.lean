set_option maxHeartbeats 4000000 in
theorem aX3_addWays {l : Launch} {G : xG} {h : List va_E} {J u v ro co : Nat} {rc : Nat → Nat} {lk bs wy nw : Nat → Int32} {s ga mo : Nat} (hJ : h[J]? = some (oB 3 (lJ G J (.ref (G.1 + u)) (.ref (G.1 + v)) (nI ro) (nI co)))) (hJ_1 : h[J + 1]? = some (aI 100 lk)) (hJ_2 : h[J + 2]? = some (aI 11 (nA rc))) (hJ_3 : h[J + 3]? = some (aI 11264 bs)) (hu : h[u]? = some (aI 1024 wy)) (hv : h[v]? = some (aI 1024 nw)) (qu : J + 4 ≤ u ∧ u ≤ J + 5) (qv : J + 4 ≤ v ∧ v ≤ J + 5) (quv : u ≠ v) (bs_ : s < 1024) (hga : nw s = nI ga) (bga : ga ≤ 1000000) (bmo : mo ≤ 1000000) : CE l G yX3_addWays cX3_addWays 3 none 1 0 0 [.ref (G.1 + J), .int (nI s), .int (nI mo)] h none (fun h1 => h1[J]? = some (oB 3 (lJ G J (.ref (G.1 + u)) (.ref (G.1 + v)) (nI ro) (nI co))) ∧ h1[J + 1]? = some (aI 100 lk) ∧ h1[J + 2]? = some (aI 11 (nA rc)) ∧ h1[J + 3]? = some (aI 11264 bs) ∧ h1[u]? = some (aI 1024 wy) ∧ h1[v]? = some (aI 1024 (upd nw s (nI (min 1000000 (ga + mo))))) ∧ rng J (J + 5) h h1) := by
  refine cm_ofQ rfl (Nat.le_of_ble_eq_true rfl) [(0, .ref (G.1 + J)), (1, .int (nI s)), (2, .int (nI mo))] rfl (fun QF hQF => ?_)
  refine aw_aload_n 0 dX3_addWays_0 rfl rfl ?_
  refine aw_get fX3_24 dX3_addWays_1 hJ rfl ?_
  refine aw_iload_n 1 dX3_addWays_4 rfl rfl ?_
  refine aw_ldc (1000000) kX3_99 dX3_addWays_5 ?_
  refine aw_aload_n 0 dX3_addWays_7 rfl rfl ?_
  refine aw_get fX3_24 dX3_addWays_8 hJ rfl ?_
  refine aw_iload_n 1 dX3_addWays_11 rfl rfl ?_
  refine aw_iald s (rfl) (by omega) (by decide) dX3_addWays_12 hv ?_
  refine aw_toe (nI ga) (hga) ?_
  refine aw_iload_n 2 dX3_addWays_13 rfl rfl ?_
  refine aw_iadd dX3_addWays_14 ?_
  refine aw_toe (nI (ga + mo)) (nv_add (rfl) (rfl)) ?_
  refine aw_mmin lX3_100 dX3_addWays_15 (Nat.le_of_ble_eq_true rfl) (by decide) (by decide) ?_
  refine aw_toe (nI (min 1000000 (ga + mo))) (nv_min rfl rfl (by omega) (by omega)) ?_
  refine aw_iast s (rfl) (by omega) (by decide) dX3_addWays_18 hv ?_
  subst hQF
  exact aw_vret rfl dX3_addWays_19 (by decide) (by decide) ⟨rfl, (gn (by omega) (hJ)), (gn (by omega) (hJ_1)), (gn (by omega) (hJ_2)), (gn (by omega) (hJ_3)), (gn (by omega) (hu)), (gs hv), rng_set (rng_rf J (J + 5) h) (by omega) (by omega)⟩
