set_option maxHeartbeats 4000000 in
theorem bJ_h {l : Launch} {G : xG} {h : List va_E} {jv bv : Value} {nb sp fa ve : Nat} {P pv : Nat} {su wa : Int32} {a b : Nat} (h0 : h[0]? = some (oB 8 (lX G (jv) (bv)))) (h1 : h[1]? = some (oB 1 (lC G (nI nb) (nI sp) (nI fa) (nI ve)))) (h12 : h[12]? = some (aR 16 (xjo G.1 16))) (hP : h[P]? = some (oB 4 (lG G P su wa (nI pv)))) (ba : a < 4) (bb : b < 4) (eP : P = 13 + 3 * (a * 4 + b)) (hvv : pv = ve) : CD l G yX8_bestJoining cX8_bestJoining 4 (some (.object RX4)) 5 0 0 [.ref (G.1 + 0), .int (nI a), .int (nI b)] h (some (.ref (G.1 + P))) h := by
  refine cm_ofQ rfl (Nat.le_of_ble_eq_true rfl) [(0, .ref (G.1 + 0)), (1, .int (nI a)), (2, .int (nI b))] rfl (fun QF hQF => ?_)
  refine aw_aload_n 0 dX8_bestJoining_0 rfl rfl ?_
  refine aw_get fX8_26 dX8_bestJoining_1 h0 rfl ?_
  refine aw_iload_n 1 dX8_bestJoining_4 rfl rfl ?_
  refine aw_iconst (4) dX8_bestJoining_5 (by decide) ?_
  refine aw_imul dX8_bestJoining_6 ?_
  refine aw_toe (nI (a * 4)) (nv_mul (rfl) (rfl)) ?_
  refine aw_iload_n 2 dX8_bestJoining_7 rfl rfl ?_
  refine aw_iadd dX8_bestJoining_8 ?_
  refine aw_toe (nI ((a * 4) + b)) (nv_add (rfl) (rfl)) ?_
  refine aw_aald ((a * 4) + b) (rfl) (by omega) (by decide) dX8_bestJoining_9 h12 ?_
  rw [xj_P eP (by omega)]
  refine aw_astore_n [(3, .ref (G.1 + P)), (0, .ref (G.1 + 0)), (1, .int (nI a)), (2, .int (nI b))] dX8_bestJoining_10 rfl (by decide) rfl ?_
  refine aw_aload_n 0 dX8_bestJoining_11 rfl rfl ?_
  refine aw_get fX8_256 dX8_bestJoining_12 hP rfl ?_
  refine aw_aload_n 1 dX8_bestJoining_15 rfl rfl ?_
  refine aw_get fX8_20 dX8_bestJoining_16 h0 rfl ?_
  refine aw_get fX8_259 dX8_bestJoining_19 h1 rfl ?_
  refine aw_icmp_eq 68 dX8_bestJoining_22 (by decide) (fun c22 => ?_) (fun c22 => absurd (by rw [hvv]) c22)
  refine aw_aload_n 0 dX8_bestJoining_68 rfl rfl ?_
  subst hQF
  exact aw_aret rfl dX8_bestJoining_69 (by decide) (by decide) ⟨rfl, rfl⟩
