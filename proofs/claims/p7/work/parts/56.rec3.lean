set_option maxHeartbeats 4000000 in
theorem gX5_takeBack {l : Launch} {G : xG} {h : List va_E} {th ot dy so kn go od : Nat → Nat} {n : Nat} {wd : Int32} {r : Nat} {qv kv : Int32} {q k : Nat} (hR : xRec G r th ot dy so kn go od n wd h) (hn : n ≤ 60) (hod : srt dy od n) (eq : qv = nI q) (bq : q < 60) (ek : kv = nI k) : CE l G yX5_takeBack cX5_takeBack 3 none 0 0 0 [.ref (G.1 + r), .int qv, .int kv] h none (fun h1 => ∃ wd1, xRec G r th ot dy so kn (un go q k) od n wd1 h1 ∧ rng r (r + 7) h h1) := by
  refine cm_of rfl (Nat.le_of_ble_eq_true rfl) [(0, .ref (G.1 + r)), (1, .int qv), (2, .int kv)] rfl ?_
  refine aw_aload_n 0 dX5_takeBack_0 rfl rfl ?_
  refine aw_get fX5_27 dX5_takeBack_1 hR.1 rfl ?_
  refine aw_iload_n 1 dX5_takeBack_4 rfl rfl ?_
  refine aw_iload_n 2 dX5_takeBack_5 rfl rfl ?_
  refine aw_iast q (eq) (by omega) (by decide) dX5_takeBack_6 hR.2.2.2.2.2.2.1 ?_
  rw [nA_u (f := go) (i := q) (x := kv) (v := k) (ek)]
  refine aw_aload_n 0 dX5_takeBack_7 rfl rfl ?_
  refine aw_dup dX5_takeBack_8 rfl ?_
  refine aw_get fX5_37 dX5_takeBack_9 (gn (by omega) (hR.1)) rfl ?_
  refine aw_iconst (1) dX5_takeBack_12 (by decide) ?_
  refine aw_iadd dX5_takeBack_13 ?_
  refine aw_top (fun v1 ev1 => ?_)
  refine aw_putQ fX5_37 dX5_takeBack_14 [.ref (G.1 + (r + 1)), .ref (G.1 + (r + 2)), .ref (G.1 + (r + 3)), .ref (G.1 + (r + 4)), .ref (G.1 + (r + 5)), .ref (G.1 + (r + 6)), .ref (G.1 + (r + 7)), .int (nI n), .int v1] (gn (by omega) (hR.1)) rfl rfl rfl (Nat.le_of_ble_eq_true rfl) rfl ?_
  exact aw_vret rfl dX5_takeBack_17 (by decide) (by decide) ⟨rfl, _, ⟨(gs (gn (by omega) (hR.1))), (gn (by omega) (gn (by omega) (hR.2.1))), (gn (by omega) (gn (by omega) (hR.2.2.1))), (gn (by omega) (gn (by omega) (hR.2.2.2.1))), (gn (by omega) (gn (by omega) (hR.2.2.2.2.1))), (gn (by omega) (gn (by omega) (hR.2.2.2.2.2.1))), (gn (by omega) (gs hR.2.2.2.2.2.2.1)), (gn (by omega) (gn (by omega) (hR.2.2.2.2.2.2.2)))⟩, rng_set (rng_set (rng_rf r (r + 7) h) (by omega) (by omega)) (by omega) (by omega)⟩
