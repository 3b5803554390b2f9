set_option maxHeartbeats 4000000 in
theorem aX3_passOn {l : Launch} {G : xG} {h : List va_E} {J u v ro co : Nat} {rc : Nat → Nat} {lk bs wy nw : Nat → Int32} {i s x : Nat} {g : Nat → Nat} {lx : Nat → Nat → Nat} (hJ : h[J]? = some (oB 3 (lJ G J (.ref (G.1 + u)) (.ref (G.1 + v)) (nI ro) (nI co)))) (hJ_1 : h[J + 1]? = some (aI 100 lk)) (hJ_2 : h[J + 2]? = some (aI 11 (nA rc))) (hJ_3 : h[J + 3]? = some (aI 11264 bs)) (hu : h[u]? = some (aI 1024 wy)) (hv : h[v]? = some (aI 1024 nw)) (qu : J + 4 ≤ u ∧ u ≤ J + 5) (qv : J + 4 ≤ v ∧ v ≤ J + 5) (quv : u ≠ v) (hro : ro ≤ 10) (hco : co ≤ 10) (hrc : ∀ j, j < 11 → rc j < 1024) (hL : jL lx ro co lk) (hR : jR lx ro co rc) (hlx3 : ∀ i k, lx i k ≤ 300) (hB : jB lx ro co rc 0 bs) (bi : i < ro) (bs_ : s < 1024) (hss : s &&& rc i = s) (hpp : popN s ≤ i) (hfx : wy s = nI (min 1000000 x)) (hgg : wX nw g) : CE l G yX3_passOn cX3_passOn 6 (some .int) 2 0 0 [.ref (G.1 + J), .int (nI i), .int (nI s)] h (some (.int (nI (jHH lx (jS lx co (ro - i - 1) (i + 1)) i s (jS lx co (ro - i) i s) co)))) (fun h1 => ∃ nw1 : Nat → Int32, h1[J]? = some (oB 3 (lJ G J (.ref (G.1 + u)) (.ref (G.1 + v)) (nI ro) (nI co))) ∧ h1[J + 1]? = some (aI 100 lk) ∧ h1[J + 2]? = some (aI 11 (nA rc)) ∧ h1[J + 3]? = some (aI 11264 bs) ∧ h1[u]? = some (aI 1024 wy) ∧ h1[v]? = some (aI 1024 nw1) ∧ rng J (J + 5) h h1 ∧ wX nw1 (gP lx (jS lx co (ro - i - 1) (i + 1)) i s (jS lx co (ro - i) i s) x g co)) := by
  refine cm_ofQ rfl (Nat.le_of_ble_eq_true rfl) [(0, .ref (G.1 + J)), (1, .int (nI i)), (2, .int (nI s))] rfl (fun QF hQF => ?_)
  refine aw_aload_n 0 dX3_passOn_0 rfl rfl ?_
  refine aw_get fX3_18 dX3_passOn_1 hJ rfl ?_
  refine aw_iload_n 1 dX3_passOn_4 rfl rfl ?_
  refine aw_sipush (1024) dX3_passOn_5 (by decide) ?_
  refine aw_imul dX3_passOn_8 ?_
  refine aw_toe (nI (i * 1024)) (nv_mul (rfl) (rfl)) ?_
  refine aw_iload_n 2 dX3_passOn_9 rfl rfl ?_
  refine aw_iadd dX3_passOn_10 ?_
  refine aw_toe (nI ((i * 1024) + s)) (nv_add (rfl) (rfl)) ?_
  refine aw_iald ((i * 1024) + s) (rfl) (by omega) (by decide) dX3_passOn_11 hJ_3 ?_
  refine aw_istore_n [(3, .int (bs ((i * 1024) + s))), (0, .ref (G.1 + J)), (1, .int (nI i)), (2, .int (nI s))] dX3_passOn_12 rfl (by decide) rfl ?_
  refine aw_iconst (0) dX3_passOn_13 (by decide) ?_
  refine aw_istore [(4, .int 0), (3, .int (bs ((i * 1024) + s))), (0, .ref (G.1 + J)), (1, .int (nI i)), (2, .int (nI s))] dX3_passOn_14 (by decide) rfl ?_
  refine aw_iconst (0) dX3_passOn_16 (by decide) ?_
  refine aw_istore [(5, .int 0), (4, .int 0), (3, .int (bs ((i * 1024) + s))), (0, .ref (G.1 + J)), (1, .int (nI i)), (2, .int (nI s))] dX3_passOn_17 (by decide) rfl ?_
  refine aw_lv [(5, .int 0), (4, .int 0), (3, .int (bs ((i * 1024) + s))), (2, .int (nI s)), (1, .int (nI i)), (0, .ref (G.1 + J))] [0, 1, 2, 5, 4, 3] rfl ?_
  suffices L124 : ∀ (mm : Nat) (k : Nat) (ch : Nat) (nw2 : Nat → Int32) (h116 : List va_E), co - k < mm → (k ≤ co) → (ch = jH lx (jS lx co (ro - i - 1) (i + 1)) i s (jS lx co (ro - i) i s) k) → (wX nw2 (gA lx (jS lx co (ro - i - 1) (i + 1)) i s (jS lx co (ro - i) i s) x g k)) → h116[J]? = some (oB 3 (lJ G J (.ref (G.1 + u)) (.ref (G.1 + v)) (nI ro) (nI co))) → h116[J + 1]? = some (aI 100 lk) → h116[J + 2]? = some (aI 11 (nA rc)) → h116[J + 3]? = some (aI 11264 bs) → h116[u]? = some (aI 1024 wy) → h116[v]? = some (aI 1024 nw2) → rng J (J + 5) h h116 → AW l G yX3_passOn cX3_passOn 6 (some .int) (xR 2 0 0) (fun _ _ => True) QF 0 0 19 [(5, .int (nI k)), (4, .int (nI ch)), (3, .int (bs ((i * 1024) + s))), (2, .int (nI s)), (1, .int (nI i)), (0, .ref (G.1 + J))] [] h116 from L124 (co - 0 + 1) 0 0 nw _ (Nat.lt_succ_self _) (Nat.zero_le _) (rfl) (hgg) hJ hJ_1 hJ_2 hJ_3 hu hv (rng_rf J (J + 5) h)
  intro mm
  induction mm with
  | zero =>
    intro k ch nw2 h116 hmm hk hc hw f117 f118 f119 f120 f121 f122 k123
    exact absurd hmm (Nat.not_lt_zero _)
  | succ mm ih124 =>
    intro k ch nw2 h116 hmm hk hc hw f117 f118 f119 f120 f121 f122 k123
    refine aw_iload 0 dX3_passOn_19 rfl ?_
    refine aw_aload_n 5 dX3_passOn_21 rfl rfl ?_
    refine aw_get fX3_31 dX3_passOn_22 f117 rfl ?_
    refine aw_icmp_ge 71 dX3_passOn_25 (by decide) (fun c25 => ?_) (fun c25 => ?_)
    · have d25 := (nv_le (a := co) (b := k) (rfl) (rfl) (by omega) (by omega)).mp c25
      refine aw_aload_n 5 dX3_passOn_71 rfl rfl ?_
      refine aw_get fX3_18 dX3_passOn_72 f117 rfl ?_
      refine aw_iload_n 4 dX3_passOn_75 rfl rfl ?_
      refine aw_iconst (1) dX3_passOn_76 (by decide) ?_
      refine aw_iadd dX3_passOn_77 ?_
      refine aw_toe (nI (i + 1)) (nv_add (rfl) (rfl)) ?_
      refine aw_sipush (1024) dX3_passOn_78 (by decide) ?_
      refine aw_imul dX3_passOn_81 ?_
      refine aw_toe (nI ((i + 1) * 1024)) (nv_mul (rfl) (rfl)) ?_
      refine aw_iload_n 3 dX3_passOn_82 rfl rfl ?_
      refine aw_iadd dX3_passOn_83 ?_
      refine aw_toe (nI (((i + 1) * 1024) + s)) (nv_add (rfl) (rfl)) ?_
      refine aw_iald (((i + 1) * 1024) + s) (rfl) (by omega) (by decide) dX3_passOn_84 f120 ?_
      refine aw_iload_n 2 dX3_passOn_85 rfl rfl ?_
      refine aw_icmp_ne 108 dX3_passOn_86 (by decide) (fun c86 => ?_) (fun c86 => ?_)
      · refine aw_iload 1 dX3_passOn_108 rfl ?_
        subst hQF
        exact aw_iret rfl dX3_passOn_110 (by decide) (by decide) ⟨by unfold jHH; rw [if_neg (mt (sk_e hlx3 hR hB bi (by omega) hss hpp).mpr c86), hc, show k = co by omega], _, f117, f118, f119, f120, f121, f122, k123, by rw [show k = co by omega] at hw; exact wX_d hw (mt (sk_e hlx3 hR hB bi (by omega) hss hpp).mpr c86)⟩
      · refine aw_aload_n 5 dX3_passOn_89 rfl rfl ?_
        refine aw_iload_n 3 dX3_passOn_90 rfl rfl ?_
        refine aw_aload_n 5 dX3_passOn_91 rfl rfl ?_
        refine aw_get fX3_21 dX3_passOn_92 f117 rfl ?_
        refine aw_iload_n 3 dX3_passOn_95 rfl rfl ?_
        refine aw_iald s (rfl) (by omega) (by decide) dX3_passOn_96 f121 ?_
        refine aw_toe (nI (min 1000000 x)) (hfx) ?_
        refine aw_eW [.int (nI s), .int (nI (min 1000000 x))] [] lX3_95 vX3_addWays mX3_addWays dX3_passOn_97 (aX3_addWays (J := J) (u := u) (v := v) (ro := ro) (co := co) (rc := rc) (lk := lk) (bs := bs) (wy := wy) (nw := nw2) (s := s) (ga := min 1000000 ((gA lx (jS lx co (ro - i - 1) (i + 1)) i s (jS lx co (ro - i) i s) x g k) s)) (mo := min 1000000 x) f117 f118 f119 f120 f121 f122 (by omega) (by omega) (by omega) (by first | assumption | omega) (hw s bs_) (by omega) (by omega)) f117 rfl rfl rfl (Nat.le_of_ble_eq_true rfl) (by decide) (by decide) rfl (fun h126 q125 => ?_)
        obtain ⟨f127, f128, f129, f130, f131, f132, k133⟩ := q125
        refine aw_iload 1 dX3_passOn_100 rfl ?_
        refine aw_sipush (1024) dX3_passOn_102 (by decide) ?_
        refine aw_ior dX3_passOn_105 ?_
        refine aw_toe (nI (ch ||| 1024)) (nv_or (rfl) (rfl)) ?_
        refine aw_istore [(4, .int (nI (ch ||| 1024))), (5, .int (nI k)), (3, .int (bs ((i * 1024) + s))), (2, .int (nI s)), (1, .int (nI i)), (0, .ref (G.1 + J))] dX3_passOn_106 (by decide) rfl ?_
        refine aw_iload 0 dX3_passOn_108 rfl ?_
        subst hQF
        exact aw_iret rfl dX3_passOn_110 (by decide) (by decide) ⟨by unfold jHH; rw [if_pos ((sk_e hlx3 hR hB bi (by omega) hss hpp).mp c86), hc, show k = co by omega], _, f127, f128, f129, f130, f131, f132, rng_tr (k123) (rng_w k133 (by omega) (by omega)), wX_e hw (by omega) ((sk_e hlx3 hR hB bi (by omega) hss hpp).mp c86)⟩
    · have d25 := mt (nv_le (a := co) (b := k) (rfl) (rfl) (by omega) (by omega)).mpr c25
      refine aw_aload_n 5 dX3_passOn_28 rfl rfl ?_
      refine aw_iload_n 4 dX3_passOn_29 rfl rfl ?_
      refine aw_iload_n 3 dX3_passOn_30 rfl rfl ?_
      refine aw_iload 0 dX3_passOn_31 rfl ?_
      refine aw_dV [.int (nI i), .int (nI s), .int (nI k)] [] lX3_71 vX3_valueOf mX3_valueOf dX3_passOn_33 (aX3_valueOf (J := J) (u := u) (v := v) (ro := ro) (co := co) (rc := rc) (lk := lk) (bs := bs) (wy := wy) (nw := nw2) (i := i) (s := s) (k := k) f117 f118 f119 f120 f121 f122 (by omega) (by omega) (by omega) (by omega) (by omega) (by omega)) f117 rfl rfl rfl (Nat.le_of_ble_eq_true rfl) (by decide) (by decide) rfl ?_
      refine aw_iload_n 2 dX3_passOn_36 rfl rfl ?_
      refine aw_icmp_ne 65 dX3_passOn_37 (by decide) (fun c37 => ?_) (fun c37 => ?_)
      · refine aw_iinc (j := 0) (nI (k + 1)) [(5, .int (nI (k + 1))), (4, .int (nI ch)), (3, .int (bs ((i * 1024) + s))), (2, .int (nI s)), (1, .int (nI i)), (0, .ref (G.1 + J))] dX3_passOn_65 rfl (nv_inc (rfl)) (by decide) rfl ?_
        refine aw_goto 19 dX3_passOn_68 (by decide) ?_
        refine aw_lv [(5, .int (nI (k + 1))), (4, .int (nI ch)), (3, .int (bs ((i * 1024) + s))), (2, .int (nI s)), (1, .int (nI i)), (0, .ref (G.1 + J))] [0, 1, 2, 3, 4, 5] rfl ?_
        exact ih124 (k + 1) ch nw2 _ (by omega) (by omega) (by rw [jH_n (mt (ft_e hL hlx3 hR hB (by omega) (by omega) (by omega) bs_ hss hpp (by omega)).mpr c37), hc]) (wX_k hw (mt (ft_e hL hlx3 hR hB (by omega) (by omega) (by omega) bs_ hss hpp (by omega)).mpr c37)) f117 f118 f119 f120 f121 f122 (k123)
      · have bq := or_k (a := s) (b := k) bs_ (by omega)
        refine aw_aload_n 5 dX3_passOn_40 rfl rfl ?_
        refine aw_iload_n 3 dX3_passOn_41 rfl rfl ?_
        refine aw_iconst (1) dX3_passOn_42 (by decide) ?_
        refine aw_iload 0 dX3_passOn_43 rfl ?_
        refine aw_ishl dX3_passOn_45 ?_
        refine aw_toe (nI (2 ^ k)) (nv_shl1 (rfl) (by omega)) ?_
        refine aw_ior dX3_passOn_46 ?_
        refine aw_toe (nI (s ||| (2 ^ k))) (nv_or (rfl) (rfl)) ?_
        refine aw_aload_n 5 dX3_passOn_47 rfl rfl ?_
        refine aw_get fX3_21 dX3_passOn_48 f117 rfl ?_
        refine aw_iload_n 3 dX3_passOn_51 rfl rfl ?_
        refine aw_iald s (rfl) (by omega) (by decide) dX3_passOn_52 f121 ?_
        refine aw_toe (nI (min 1000000 x)) (hfx) ?_
        refine aw_eW [.int (nI (s ||| (2 ^ k))), .int (nI (min 1000000 x))] [] lX3_95 vX3_addWays mX3_addWays dX3_passOn_53 (aX3_addWays (J := J) (u := u) (v := v) (ro := ro) (co := co) (rc := rc) (lk := lk) (bs := bs) (wy := wy) (nw := nw2) (s := s ||| (2 ^ k)) (ga := min 1000000 ((gA lx (jS lx co (ro - i - 1) (i + 1)) i s (jS lx co (ro - i) i s) x g k) (s ||| 2 ^ k))) (mo := min 1000000 x) f117 f118 f119 f120 f121 f122 (by omega) (by omega) (by omega) (by first | assumption | omega) (hw _ bq) (by omega) (by omega)) f117 rfl rfl rfl (Nat.le_of_ble_eq_true rfl) (by decide) (by decide) rfl (fun h135 q134 => ?_)
        obtain ⟨f136, f137, f138, f139, f140, f141, k142⟩ := q134
        refine aw_iload 1 dX3_passOn_56 rfl ?_
        refine aw_iconst (1) dX3_passOn_58 (by decide) ?_
        refine aw_iload 0 dX3_passOn_59 rfl ?_
        refine aw_ishl dX3_passOn_61 ?_
        refine aw_toe (nI (2 ^ k)) (nv_shl1 (rfl) (by omega)) ?_
        refine aw_ior dX3_passOn_62 ?_
        refine aw_toe (nI (ch ||| (2 ^ k))) (nv_or (rfl) (rfl)) ?_
        refine aw_istore [(4, .int (nI (ch ||| (2 ^ k)))), (5, .int (nI k)), (3, .int (bs ((i * 1024) + s))), (2, .int (nI s)), (1, .int (nI i)), (0, .ref (G.1 + J))] dX3_passOn_63 (by decide) rfl ?_
        refine aw_iinc (j := 1) (nI (k + 1)) [(5, .int (nI (k + 1))), (4, .int (nI (ch ||| (2 ^ k)))), (3, .int (bs ((i * 1024) + s))), (2, .int (nI s)), (1, .int (nI i)), (0, .ref (G.1 + J))] dX3_passOn_65 rfl (nv_inc (rfl)) (by decide) rfl ?_
        refine aw_goto 19 dX3_passOn_68 (by decide) ?_
        refine aw_lv [(5, .int (nI (k + 1))), (4, .int (nI (ch ||| (2 ^ k)))), (3, .int (bs ((i * 1024) + s))), (2, .int (nI s)), (1, .int (nI i)), (0, .ref (G.1 + J))] [0, 1, 2, 3, 4, 5] rfl ?_
        exact ih124 (k + 1) (ch ||| (2 ^ k)) (upd nw2 (s ||| (2 ^ k)) (nI (min 1000000 ((min 1000000 ((gA lx (jS lx co (ro - i - 1) (i + 1)) i s (jS lx co (ro - i) i s) x g k) (s ||| 2 ^ k))) + (min 1000000 x))))) _ (by omega) (by omega) (by rw [jH_y ((ft_e hL hlx3 hR hB (by omega) (by omega) (by omega) bs_ hss hpp (by omega)).mp c37), hc]) (wX_y hw ((ft_e hL hlx3 hR hB (by omega) (by omega) (by omega) bs_ hss hpp (by omega)).mp c37)) f136 f137 f138 f139 f140 f141 (rng_tr (k123) (rng_w k142 (by omega) (by omega)))
