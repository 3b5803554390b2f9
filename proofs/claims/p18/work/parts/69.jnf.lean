set_option maxHeartbeats 4000000 in
theorem aX3_passOn {l : Launch} {G : xG} {h : List va_E} {J u v ro co : Nat} {rc : Nat → Nat} {lk bs wy nw : Nat → Int32} {i s : Nat} (hJ : h[J]? = some (oB 3 (lJ G J (.ref (G.1 + u)) (.ref (G.1 + v)) (nI ro) (nI co)))) (hJ_1 : h[J + 1]? = some (aI 100 lk)) (hJ_2 : h[J + 2]? = some (aI 11 (nA rc))) (hJ_3 : h[J + 3]? = some (aI 11264 bs)) (hu : h[u]? = some (aI 1024 wy)) (hv : h[v]? = some (aI 1024 nw)) (qu : J + 4 ≤ u ∧ u ≤ J + 5) (qv : J + 4 ≤ v ∧ v ≤ J + 5) (quv : u ≠ v) (hro : ro ≤ 10) (hco : co ≤ 10) (hrc : ∀ j, j < 11 → rc j < 1024) (bi : i < 10) (bs_ : s < 1024) : CU l G yX3_passOn cX3_passOn 6 (some .int) 2 0 0 [.ref (G.1 + J), .int (nI i), .int (nI s)] h (fun r h1 => ∃ nw1 : Nat → Int32, h1[J]? = some (oB 3 (lJ G J (.ref (G.1 + u)) (.ref (G.1 + v)) (nI ro) (nI co))) ∧ h1[J + 1]? = some (aI 100 lk) ∧ h1[J + 2]? = some (aI 11 (nA rc)) ∧ h1[J + 3]? = some (aI 11264 bs) ∧ h1[u]? = some (aI 1024 wy) ∧ h1[v]? = some (aI 1024 nw1) ∧ rng J (J + 5) h h1 ∧ True) := by
  refine cm_ofQ rfl (Nat.le_of_ble_eq_true rfl) [(0, .ref (G.1 + J)), (1, .int (nI i)), (2, .int (nI s))] rfl (fun QF hQF => ?_)
  refine aw_aload_n 0 dX3_passOn_0 rfl rfl ?_
  refine aw_get fX3_18 dX3_passOn_1 hJ rfl ?_
  refine aw_iload_n 1 dX3_passOn_4 rfl rfl ?_
  refine aw_sipush (1024) dX3_passOn_5 (by decide) ?_
  refine aw_imul dX3_passOn_8 ?_
  refine aw_toe (nI (i * 1024)) (nv_mul (rfl) (rfl)) ?_
  refine aw_iload_n 2 dX3_passOn_9 rfl rfl ?_
  refine aw_iadd dX3_passOn_10 ?_
  refine aw_toe (nI ((i * 1024) + s)) (nv_add (rfl) (rfl)) ?_
  refine aw_iald ((i * 1024) + s) (rfl) (by omega) (by decide) dX3_passOn_11 hJ_3 ?_
  refine aw_istore_n [(3, .int (bs ((i * 1024) + s))), (0, .ref (G.1 + J)), (1, .int (nI i)), (2, .int (nI s))] dX3_passOn_12 rfl (by decide) rfl ?_
  refine aw_iconst (0) dX3_passOn_13 (by decide) ?_
  refine aw_istore [(4, .int 0), (3, .int (bs ((i * 1024) + s))), (0, .ref (G.1 + J)), (1, .int (nI i)), (2, .int (nI s))] dX3_passOn_14 (by decide) rfl ?_
  refine aw_iconst (0) dX3_passOn_16 (by decide) ?_
  refine aw_istore [(5, .int 0), (4, .int 0), (3, .int (bs ((i * 1024) + s))), (0, .ref (G.1 + J)), (1, .int (nI i)), (2, .int (nI s))] dX3_passOn_17 (by decide) rfl ?_
  refine aw_lv [(5, .int 0), (4, .int 0), (3, .int (bs ((i * 1024) + s))), (2, .int (nI s)), (1, .int (nI i)), (0, .ref (G.1 + J))] [0, 1, 2, 5, 4, 3] rfl ?_
  suffices L124 : ∀ (mm : Nat) (k : Nat) (ch : Int32) (gv : Int32) (nw2 : Nat → Int32) (h116 : List va_E), co - k < mm → (k ≤ co) → h116[J]? = some (oB 3 (lJ G J (.ref (G.1 + u)) (.ref (G.1 + v)) (nI ro) (nI co))) → h116[J + 1]? = some (aI 100 lk) → h116[J + 2]? = some (aI 11 (nA rc)) → h116[J + 3]? = some (aI 11264 bs) → h116[u]? = some (aI 1024 wy) → h116[v]? = some (aI 1024 nw2) → rng J (J + 5) h h116 → AW l G yX3_passOn cX3_passOn 6 (some .int) (xR 2 0 0) (fun _ _ => True) QF 0 0 19 [(5, .int (nI k)), (4, .int ch), (3, .int gv), (2, .int (nI s)), (1, .int (nI i)), (0, .ref (G.1 + J))] [] h116 from L124 (co - 0 + 1) 0 0 (bs ((i * 1024) + s)) nw _ (Nat.lt_succ_self _) (Nat.zero_le _) hJ hJ_1 hJ_2 hJ_3 hu hv (rng_rf J (J + 5) h)
  intro mm
  induction mm with
  | zero =>
    intro k ch gv nw2 h116 hmm hk f117 f118 f119 f120 f121 f122 k123
    exact absurd hmm (Nat.not_lt_zero _)
  | succ mm ih124 =>
    intro k ch gv nw2 h116 hmm hk f117 f118 f119 f120 f121 f122 k123
    refine aw_iload 0 dX3_passOn_19 rfl ?_
    refine aw_aload_n 5 dX3_passOn_21 rfl rfl ?_
    refine aw_get fX3_31 dX3_passOn_22 f117 rfl ?_
    refine aw_icmp_ge 71 dX3_passOn_25 (by decide) (fun c25 => ?_) (fun c25 => ?_)
    · have d25 := (nv_le (a := co) (b := k) (rfl) (rfl) (by omega) (by omega)).mp c25
      refine aw_aload_n 5 dX3_passOn_71 rfl rfl ?_
      refine aw_get fX3_18 dX3_passOn_72 f117 rfl ?_
      refine aw_iload_n 4 dX3_passOn_75 rfl rfl ?_
      refine aw_iconst (1) dX3_passOn_76 (by decide) ?_
      refine aw_iadd dX3_passOn_77 ?_
      refine aw_toe (nI (i + 1)) (nv_add (rfl) (rfl)) ?_
      refine aw_sipush (1024) dX3_passOn_78 (by decide) ?_
      refine aw_imul dX3_passOn_81 ?_
      refine aw_toe (nI ((i + 1) * 1024)) (nv_mul (rfl) (rfl)) ?_
      refine aw_iload_n 3 dX3_passOn_82 rfl rfl ?_
      refine aw_iadd dX3_passOn_83 ?_
      refine aw_toe (nI (((i + 1) * 1024) + s)) (nv_add (rfl) (rfl)) ?_
      refine aw_iald (((i + 1) * 1024) + s) (rfl) (by omega) (by decide) dX3_passOn_84 f120 ?_
      refine aw_iload_n 2 dX3_passOn_85 rfl rfl ?_
      refine aw_icmp_ne 108 dX3_passOn_86 (by decide) (fun c86 => ?_) (fun c86 => ?_)
      · refine aw_iload 1 dX3_passOn_108 rfl ?_
        subst hQF
        exact aw_iret rfl dX3_passOn_110 (by decide) (by decide) ⟨_, rfl, _, f117, f118, f119, f120, f121, f122, k123, trivial⟩
      · refine aw_aload_n 5 dX3_passOn_89 rfl rfl ?_
        refine aw_iload_n 3 dX3_passOn_90 rfl rfl ?_
        refine aw_aload_n 5 dX3_passOn_91 rfl rfl ?_
        refine aw_get fX3_21 dX3_passOn_92 f117 rfl ?_
        refine aw_iload_n 3 dX3_passOn_95 rfl rfl ?_
        refine aw_iald s (rfl) (by omega) (by decide) dX3_passOn_96 f121 ?_
        refine aw_eW [.int (nI s), .int (wy s)] [] lX3_95 vX3_addWays mX3_addWays dX3_passOn_97 (aX3_addWays (J := J) (u := u) (v := v) (ro := ro) (co := co) (rc := rc) (lk := lk) (bs := bs) (wy := wy) (nw := nw2) (s := s) (mo := wy s) f117 f118 f119 f120 f121 f122 (by omega) (by omega) (by omega) (by first | assumption | exact or_k (by assumption) (by omega))) f117 rfl rfl rfl (Nat.le_of_ble_eq_true rfl) (by decide) (by decide) rfl (fun h127 q126 => ?_)
        obtain ⟨nw1125, f128, f129, f130, f131, f132, f133, k134⟩ := q126
        refine aw_iload 1 dX3_passOn_100 rfl ?_
        refine aw_sipush (1024) dX3_passOn_102 (by decide) ?_
        refine aw_ior dX3_passOn_105 ?_
        refine aw_istore [(4, .int (ch ||| 1024)), (5, .int (nI k)), (3, .int gv), (2, .int (nI s)), (1, .int (nI i)), (0, .ref (G.1 + J))] dX3_passOn_106 (by decide) rfl ?_
        refine aw_iload 0 dX3_passOn_108 rfl ?_
        subst hQF
        exact aw_iret rfl dX3_passOn_110 (by decide) (by decide) ⟨_, rfl, _, f128, f129, f130, f131, f132, f133, rng_tr (k123) (rng_w k134 (by omega) (by omega)), trivial⟩
    · have d25 := mt (nv_le (a := co) (b := k) (rfl) (rfl) (by omega) (by omega)).mpr c25
      refine aw_aload_n 5 dX3_passOn_28 rfl rfl ?_
      refine aw_iload_n 4 dX3_passOn_29 rfl rfl ?_
      refine aw_iload_n 3 dX3_passOn_30 rfl rfl ?_
      refine aw_iload 0 dX3_passOn_31 rfl ?_
      refine aw_dV [.int (nI i), .int (nI s), .int (nI k)] [] lX3_71 vX3_valueOf mX3_valueOf dX3_passOn_33 (aX3_valueOf (J := J) (u := u) (v := v) (ro := ro) (co := co) (rc := rc) (lk := lk) (bs := bs) (wy := wy) (nw := nw2) (i := i) (s := s) (k := k) f117 f118 f119 f120 f121 f122 (by omega) (by omega) (by omega) (by omega) (by omega) (by omega)) f117 rfl rfl rfl (Nat.le_of_ble_eq_true rfl) (by decide) (by decide) rfl ?_
      refine aw_iload_n 2 dX3_passOn_36 rfl rfl ?_
      refine aw_icmp_ne 65 dX3_passOn_37 (by decide) (fun c37 => ?_) (fun c37 => ?_)
      · refine aw_iinc (j := 0) (nI (k + 1)) [(5, .int (nI (k + 1))), (4, .int ch), (3, .int gv), (2, .int (nI s)), (1, .int (nI i)), (0, .ref (G.1 + J))] dX3_passOn_65 rfl (nv_inc (rfl)) (by decide) rfl ?_
        refine aw_goto 19 dX3_passOn_68 (by decide) ?_
        refine aw_lv [(5, .int (nI (k + 1))), (4, .int ch), (3, .int gv), (2, .int (nI s)), (1, .int (nI i)), (0, .ref (G.1 + J))] [0, 1, 2, 3, 4, 5] rfl ?_
        exact ih124 (k + 1) ch gv nw2 _ (by omega) (by omega) f117 f118 f119 f120 f121 f122 (k123)
      · refine aw_aload_n 5 dX3_passOn_40 rfl rfl ?_
        refine aw_iload_n 3 dX3_passOn_41 rfl rfl ?_
        refine aw_iconst (1) dX3_passOn_42 (by decide) ?_
        refine aw_iload 0 dX3_passOn_43 rfl ?_
        refine aw_ishl dX3_passOn_45 ?_
        refine aw_toe (nI (2 ^ k)) (nv_shl1 (rfl) (by omega)) ?_
        refine aw_ior dX3_passOn_46 ?_
        refine aw_toe (nI (s ||| (2 ^ k))) (nv_or (rfl) (rfl)) ?_
        refine aw_aload_n 5 dX3_passOn_47 rfl rfl ?_
        refine aw_get fX3_21 dX3_passOn_48 f117 rfl ?_
        refine aw_iload_n 3 dX3_passOn_51 rfl rfl ?_
        refine aw_iald s (rfl) (by omega) (by decide) dX3_passOn_52 f121 ?_
        refine aw_eW [.int (nI (s ||| (2 ^ k))), .int (wy s)] [] lX3_95 vX3_addWays mX3_addWays dX3_passOn_53 (aX3_addWays (J := J) (u := u) (v := v) (ro := ro) (co := co) (rc := rc) (lk := lk) (bs := bs) (wy := wy) (nw := nw2) (s := s ||| (2 ^ k)) (mo := wy s) f117 f118 f119 f120 f121 f122 (by omega) (by omega) (by omega) (by first | assumption | exact or_k (by assumption) (by omega))) f117 rfl rfl rfl (Nat.le_of_ble_eq_true rfl) (by decide) (by decide) rfl (fun h137 q136 => ?_)
        obtain ⟨nw1135, f138, f139, f140, f141, f142, f143, k144⟩ := q136
        refine aw_iload 1 dX3_passOn_56 rfl ?_
        refine aw_iconst (1) dX3_passOn_58 (by decide) ?_
        refine aw_iload 0 dX3_passOn_59 rfl ?_
        refine aw_ishl dX3_passOn_61 ?_
        refine aw_toe (nI (2 ^ k)) (nv_shl1 (rfl) (by omega)) ?_
        refine aw_ior dX3_passOn_62 ?_
        refine aw_istore [(4, .int (ch ||| (nI (2 ^ k)))), (5, .int (nI k)), (3, .int gv), (2, .int (nI s)), (1, .int (nI i)), (0, .ref (G.1 + J))] dX3_passOn_63 (by decide) rfl ?_
        refine aw_iinc (j := 1) (nI (k + 1)) [(5, .int (nI (k + 1))), (4, .int (ch ||| (nI (2 ^ k)))), (3, .int gv), (2, .int (nI s)), (1, .int (nI i)), (0, .ref (G.1 + J))] dX3_passOn_65 rfl (nv_inc (rfl)) (by decide) rfl ?_
        refine aw_goto 19 dX3_passOn_68 (by decide) ?_
        refine aw_lv [(5, .int (nI (k + 1))), (4, .int (ch ||| (nI (2 ^ k)))), (3, .int gv), (2, .int (nI s)), (1, .int (nI i)), (0, .ref (G.1 + J))] [0, 1, 2, 3, 4, 5] rfl ?_
        exact ih124 (k + 1) (ch ||| (nI (2 ^ k))) gv nw1135 _ (by omega) (by omega) f138 f139 f140 f141 f142 f143 (rng_tr (k123) (rng_w k144 (by omega) (by omega)))
