set_option maxHeartbeats 4000000 in
theorem aX3_readLikes {l : Launch} {G : xG} {h : List va_E} {J u v ro co : Nat} {rc : Nat → Nat} {lk bs wy nw : Nat → Int32} {m se ye fi : Nat → Nat} {W Sn Z Ro Co : Nat → Int32} {Ba : Nat → Int64} {nb sp fa ve : Nat} {lx : Nat → Nat → Nat} {a b : Nat} (hJ : h[J]? = some (oB 3 (lJ G J (.ref (G.1 + u)) (.ref (G.1 + v)) (nI ro) (nI co)))) (hJ_1 : h[J + 1]? = some (aI 100 lk)) (hJ_2 : h[J + 2]? = some (aI 11 (nA rc))) (hJ_3 : h[J + 3]? = some (aI 11264 bs)) (hu : h[u]? = some (aI 1024 wy)) (hv : h[v]? = some (aI 1024 nw)) (h1 : h[1]? = some (oB 1 (lC G (nI nb) (nI sp) (nI fa) (nI ve)))) (h2 : h[2]? = some (aI 20 (nA m))) (h3 : h[3]? = some (aI 20 (nA se))) (h4 : h[4]? = some (aI 4 (nA ye))) (h5 : h[5]? = some (aI 4 (nA fi))) (h6 : h[6]? = some (aI 40 W)) (h7 : h[7]? = some (aI 40 Sn)) (h8 : h[8]? = some (aI 40 Z)) (h9 : h[9]? = some (aI 40 Ro)) (h10 : h[10]? = some (aI 40 Co)) (h11 : h[11]? = some (aL 40 Ba)) (qu : J + 4 ≤ u ∧ u ≤ J + 5) (qv : J + 4 ≤ v ∧ v ≤ J + 5) (quv : u ≠ v) (hro : ro ≤ 10) (hco : co ≤ 10) (hrc : ∀ j, j < 11 → rc j < 1024) (hm : ∀ j, j < 20 → m j ≤ j) (hse : ∀ j, j < 20 → se j < 20) (hfi : ∀ j, j < 4 → fi j < 11) (hye : ∀ j, j < 4 → ye j < 1901) (ba : a < 4) (bb : b < 4) (qJ : 125 ≤ J) (hlx : ∀ i, i < ro → ∀ k, k < co → likeC ye Sn Z Ro Co Ba sp fa (a * 10 + i) (b * 10 + k) = nI (lx i k)) (hlx3 : ∀ i k, lx i k ≤ 300) : CE l G yX3_readLikes cX3_readLikes 8 none 2 0 0 [.ref (G.1 + J), .ref (G.1 + 1), .int (nI a), .int (nI b)] h none (fun h1 => ∃ lk1 : Nat → Int32, ∃ rc1 : Nat → Nat, h1[J]? = some (oB 3 (lJ G J (.ref (G.1 + u)) (.ref (G.1 + v)) (nI ro) (nI co))) ∧ h1[J + 1]? = some (aI 100 lk1) ∧ h1[J + 2]? = some (aI 11 (nA rc1)) ∧ h1[J + 3]? = some (aI 11264 bs) ∧ h1[u]? = some (aI 1024 wy) ∧ h1[v]? = some (aI 1024 nw) ∧ rng J (J + 5) h h1 ∧ (∀ j, j < 11 → rc1 j < 1024) ∧ jL lx ro co lk1 ∧ jR lx ro co rc1) := by
  refine cm_ofQ rfl (Nat.le_of_ble_eq_true rfl) [(0, .ref (G.1 + J)), (1, .ref (G.1 + 1)), (2, .int (nI a)), (3, .int (nI b))] rfl (fun QF hQF => ?_)
  refine aw_aload_n 0 dX3_readLikes_0 rfl rfl ?_
  refine aw_get fX3_15 dX3_readLikes_1 hJ rfl ?_
  refine aw_iconst (0) dX3_readLikes_4 (by decide) ?_
  refine aw_iconst (0) dX3_readLikes_5 (by decide) ?_
  refine aw_iast 0 (rfl) (by decide) (by decide) dX3_readLikes_6 hJ_2 ?_
  rw [nA_u (f := rc) (i := 0) (x := 0) (v := 0) (rfl)]
  refine aw_iconst (0) dX3_readLikes_7 (by decide) ?_
  refine aw_istore [(4, .int 0), (0, .ref (G.1 + J)), (1, .ref (G.1 + 1)), (2, .int (nI a)), (3, .int (nI b))] dX3_readLikes_8 (by decide) rfl ?_
  refine aw_lv [(4, .int 0), (3, .int (nI b)), (2, .int (nI a)), (1, .ref (G.1 + 1)), (0, .ref (G.1 + J))] [0, 4, 3, 2, 1] rfl ?_
  suffices L51 : ∀ (mm : Nat) (i : Nat) (lk1 : Nat → Int32) (rc1 : Nat → Nat) (h32 : List va_E), ro - i < mm → (i ≤ ro) → (∀ j, j < 11 → rc1 j < 1024) → (∀ j, j < i → ∀ q, q < co → lk1 (j * 10 + q) = nI (lx j q)) → (rc1 0 = 0) → (∀ j, j < i → ∀ q, q < co → lx j q ≠ 0 → (rc1 (j + 1)).testBit q = true) → (∀ j, j < i → ∀ q, (rc1 j).testBit q = true → (rc1 (j + 1)).testBit q = true) → h32[J]? = some (oB 3 (lJ G J (.ref (G.1 + u)) (.ref (G.1 + v)) (nI ro) (nI co))) → h32[J + 1]? = some (aI 100 lk1) → h32[J + 2]? = some (aI 11 (nA rc1)) → h32[J + 3]? = some (aI 11264 bs) → h32[u]? = some (aI 1024 wy) → h32[v]? = some (aI 1024 nw) → h32[1]? = some (oB 1 (lC G (nI nb) (nI sp) (nI fa) (nI ve))) → h32[2]? = some (aI 20 (nA m)) → h32[3]? = some (aI 20 (nA se)) → h32[4]? = some (aI 4 (nA ye)) → h32[5]? = some (aI 4 (nA fi)) → h32[6]? = some (aI 40 W) → h32[7]? = some (aI 40 Sn) → h32[8]? = some (aI 40 Z) → h32[9]? = some (aI 40 Ro) → h32[10]? = some (aI 40 Co) → h32[11]? = some (aL 40 Ba) → rng J (J + 5) h h32 → AW l G yX3_readLikes cX3_readLikes 8 none (xR 2 0 0) (fun _ _ => True) QF 0 0 10 [(4, .int (nI i)), (3, .int (nI b)), (2, .int (nI a)), (1, .ref (G.1 + 1)), (0, .ref (G.1 + J))] [] h32 from L51 (ro - 0 + 1) 0 lk (un rc 0 0) _ (Nat.lt_succ_self _) (Nat.zero_le _) (un_b hrc (by decide)) (fun q h8 => absurd h8 (Nat.not_lt_zero _)) (un_s) (fun q h8 => absurd h8 (Nat.not_lt_zero _)) (fun q h8 => absurd h8 (Nat.not_lt_zero _)) (gn (by omega) (hJ)) (gn (by omega) (hJ_1)) (gs hJ_2) (gn (by omega) (hJ_3)) (gn (by omega) (hu)) (gn (by omega) (hv)) (gn (by omega) (h1)) (gn (by omega) (h2)) (gn (by omega) (h3)) (gn (by omega) (h4)) (gn (by omega) (h5)) (gn (by omega) (h6)) (gn (by omega) (h7)) (gn (by omega) (h8)) (gn (by omega) (h9)) (gn (by omega) (h10)) (gn (by omega) (h11)) (rng_set (rng_rf J (J + 5) h) (by omega) (by omega))
  intro mm
  induction mm with
  | zero =>
    intro i lk1 rc1 h32 hmm hi hr1 hl1 hr0 hr2 hr3 f33 f34 f35 f36 f37 f38 f39 f40 f41 f42 f43 f44 f45 f46 f47 f48 f49 k50
    exact absurd hmm (Nat.not_lt_zero _)
  | succ mm ih51 =>
    intro i lk1 rc1 h32 hmm hi hr1 hl1 hr0 hr2 hr3 f33 f34 f35 f36 f37 f38 f39 f40 f41 f42 f43 f44 f45 f46 f47 f48 f49 k50
    refine aw_iload 0 dX3_readLikes_10 rfl ?_
    refine aw_aload_n 4 dX3_readLikes_12 rfl rfl ?_
    refine aw_get fX3_27 dX3_readLikes_13 f33 rfl ?_
    refine aw_icmp_ge 114 dX3_readLikes_16 (by decide) (fun c16 => ?_) (fun c16 => ?_)
    · have d16 := (nv_le (a := ro) (b := i) (rfl) (rfl) (by omega) (by omega)).mp c16
      subst hQF
      exact aw_vret rfl dX3_readLikes_114 (by decide) (by decide) ⟨rfl, _, _, f33, f34, f35, f36, f37, f38, k50, hr1, fun j hj => hl1 j (by omega), ⟨hr0, fun j hj => hr2 j (by omega), fun j hj => hr3 j (by omega)⟩⟩
    · have d16 := mt (nv_le (a := ro) (b := i) (rfl) (rfl) (by omega) (by omega)).mpr c16
      refine aw_iconst (0) dX3_readLikes_19 (by decide) ?_
      refine aw_istore [(5, .int 0), (4, .int (nI i)), (3, .int (nI b)), (2, .int (nI a)), (1, .ref (G.1 + 1)), (0, .ref (G.1 + J))] dX3_readLikes_20 (by decide) rfl ?_
      refine aw_iconst (0) dX3_readLikes_22 (by decide) ?_
      refine aw_istore [(6, .int 0), (5, .int 0), (4, .int (nI i)), (3, .int (nI b)), (2, .int (nI a)), (1, .ref (G.1 + 1)), (0, .ref (G.1 + J))] dX3_readLikes_23 (by decide) rfl ?_
      refine aw_lv [(6, .int 0), (5, .int 0), (4, .int (nI i)), (3, .int (nI b)), (2, .int (nI a)), (1, .ref (G.1 + 1)), (0, .ref (G.1 + J))] [0, 1, 2, 3, 4, 5, 6] rfl ?_
      suffices L71 : ∀ (mm : Nat) (k : Nat) (o : Nat) (lk2 : Nat → Int32) (h52 : List va_E), co - k < mm → (k ≤ co) → (o < 1024) → (∀ q, q < k → lx i q ≠ 0 → o.testBit q = true) → (∀ j, j < i → ∀ q, q < co → lk2 (j * 10 + q) = nI (lx j q)) → (∀ q, q < k → lk2 (i * 10 + q) = nI (lx i q)) → h52[J]? = some (oB 3 (lJ G J (.ref (G.1 + u)) (.ref (G.1 + v)) (nI ro) (nI co))) → h52[J + 1]? = some (aI 100 lk2) → h52[J + 2]? = some (aI 11 (nA rc1)) → h52[J + 3]? = some (aI 11264 bs) → h52[u]? = some (aI 1024 wy) → h52[v]? = some (aI 1024 nw) → h52[1]? = some (oB 1 (lC G (nI nb) (nI sp) (nI fa) (nI ve))) → h52[2]? = some (aI 20 (nA m)) → h52[3]? = some (aI 20 (nA se)) → h52[4]? = some (aI 4 (nA ye)) → h52[5]? = some (aI 4 (nA fi)) → h52[6]? = some (aI 40 W) → h52[7]? = some (aI 40 Sn) → h52[8]? = some (aI 40 Z) → h52[9]? = some (aI 40 Ro) → h52[10]? = some (aI 40 Co) → h52[11]? = some (aL 40 Ba) → rng J (J + 5) h h52 → AW l G yX3_readLikes cX3_readLikes 8 none (xR 2 0 0) (fun _ _ => True) QF 0 0 25 [(6, .int (nI k)), (5, .int (nI o)), (4, .int (nI i)), (3, .int (nI b)), (2, .int (nI a)), (1, .ref (G.1 + 1)), (0, .ref (G.1 + J))] [] h52 from L71 (co - 0 + 1) 0 0 lk1 _ (Nat.lt_succ_self _) (Nat.zero_le _) (by decide) (fun q h8 => absurd h8 (Nat.not_lt_zero _)) (hl1) (fun q h8 => absurd h8 (Nat.not_lt_zero _)) f33 f34 f35 f36 f37 f38 f39 f40 f41 f42 f43 f44 f45 f46 f47 f48 f49 (k50)
      intro mm
      induction mm with
      | zero =>
        intro k o lk2 h52 hmm hk bo ho hl2 hl3 f53 f54 f55 f56 f57 f58 f59 f60 f61 f62 f63 f64 f65 f66 f67 f68 f69 k70
        exact absurd hmm (Nat.not_lt_zero _)
      | succ mm ih71 =>
        intro k o lk2 h52 hmm hk bo ho hl2 hl3 f53 f54 f55 f56 f57 f58 f59 f60 f61 f62 f63 f64 f65 f66 f67 f68 f69 k70
        refine aw_iload 0 dX3_readLikes_25 rfl ?_
        refine aw_aload_n 6 dX3_readLikes_27 rfl rfl ?_
        refine aw_get fX3_31 dX3_readLikes_28 f53 rfl ?_
        refine aw_icmp_ge 89 dX3_readLikes_31 (by decide) (fun c31 => ?_) (fun c31 => ?_)
        · have d31 := (nv_le (a := co) (b := k) (rfl) (rfl) (by omega) (by omega)).mp c31
          refine aw_aload_n 6 dX3_readLikes_89 rfl rfl ?_
          refine aw_get fX3_15 dX3_readLikes_90 f53 rfl ?_
          refine aw_iload 2 dX3_readLikes_93 rfl ?_
          refine aw_iconst (1) dX3_readLikes_95 (by decide) ?_
          refine aw_iadd dX3_readLikes_96 ?_
          refine aw_toe (nI (i + 1)) (nv_add (rfl) (rfl)) ?_
          refine aw_aload_n 6 dX3_readLikes_97 rfl rfl ?_
          refine aw_get fX3_15 dX3_readLikes_98 f53 rfl ?_
          refine aw_iload 2 dX3_readLikes_101 rfl ?_
          refine aw_iald i (rfl) (by omega) (by decide) dX3_readLikes_103 f55 ?_
          refine aw_toe (nI (rc1 i)) (rfl) ?_
          have b72 := hr1 i (by omega)
          refine aw_iload 1 dX3_readLikes_104 rfl ?_
          refine aw_ior dX3_readLikes_106 ?_
          refine aw_toe (nI ((rc1 i) ||| o)) (nv_or (rfl) (rfl)) ?_
          refine aw_iast (i + 1) (rfl) (by omega) (by decide) dX3_readLikes_107 f55 ?_
          rw [nA_u (f := rc1) (i := i + 1) (x := (nI ((rc1 i) ||| o))) (v := (rc1 i) ||| o) (rfl)]
          refine aw_iinc (j := 2) (nI (i + 1)) [(4, .int (nI (i + 1))), (6, .int (nI k)), (5, .int (nI o)), (3, .int (nI b)), (2, .int (nI a)), (1, .ref (G.1 + 1)), (0, .ref (G.1 + J))] dX3_readLikes_108 rfl (nv_inc (rfl)) (by decide) rfl ?_
          refine aw_goto 10 dX3_readLikes_111 (by decide) ?_
          refine aw_lv [(4, .int (nI (i + 1))), (3, .int (nI b)), (2, .int (nI a)), (1, .ref (G.1 + 1)), (0, .ref (G.1 + J))] [0, 3, 4, 5, 6] rfl ?_
          exact ih51 (i + 1) lk2 (un rc1 (i + 1) ((rc1 i) ||| o)) _ (by omega) (by omega) (un_b hr1 (or_m (hr1 i (by omega)) bo)) (rl_3 hl2 hl3 (by omega)) (rr_0' hr0) (rr_2 hr2 ho (by omega)) (rr_3 hr3) (gn (by omega) (f53)) (gn (by omega) (f54)) (gs f55) (gn (by omega) (f56)) (gn (by omega) (f57)) (gn (by omega) (f58)) (gn (by omega) (f59)) (gn (by omega) (f60)) (gn (by omega) (f61)) (gn (by omega) (f62)) (gn (by omega) (f63)) (gn (by omega) (f64)) (gn (by omega) (f65)) (gn (by omega) (f66)) (gn (by omega) (f67)) (gn (by omega) (f68)) (gn (by omega) (f69)) (rng_set (k70) (by omega) (by omega))
        · have d31 := mt (nv_le (a := co) (b := k) (rfl) (rfl) (by omega) (by omega)).mpr c31
          refine aw_aload_n 5 dX3_readLikes_34 rfl rfl ?_
          refine aw_iload_n 4 dX3_readLikes_35 rfl rfl ?_
          refine aw_bipush (10) dX3_readLikes_36 (by decide) ?_
          refine aw_imul dX3_readLikes_38 ?_
          refine aw_toe (nI (a * 10)) (nv_mul (rfl) (rfl)) ?_
          refine aw_iload 2 dX3_readLikes_39 rfl ?_
          refine aw_iadd dX3_readLikes_41 ?_
          refine aw_toe (nI ((a * 10) + i)) (nv_add (rfl) (rfl)) ?_
          refine aw_iload_n 3 dX3_readLikes_42 rfl rfl ?_
          refine aw_bipush (10) dX3_readLikes_43 (by decide) ?_
          refine aw_imul dX3_readLikes_45 ?_
          refine aw_toe (nI (b * 10)) (nv_mul (rfl) (rfl)) ?_
          refine aw_iload 0 dX3_readLikes_46 rfl ?_
          refine aw_iadd dX3_readLikes_48 ?_
          refine aw_toe (nI ((b * 10) + k)) (nv_add (rfl) (rfl)) ?_
          refine aw_dV [.int (nI ((a * 10) + i)), .int (nI ((b * 10) + k))] [] lX3_58 vX1_likeness mX1_likeness dX3_readLikes_49 (aX1_likeness (m := m) (se := se) (ye := ye) (fi := fi) (W := W) (Sn := Sn) (Z := Z) (Ro := Ro) (Co := Co) (Ba := Ba) (nb := nb) (sp := sp) (fa := fa) (ve := ve) (e := (a * 10) + i) (f := (b * 10) + k) f59 f60 f61 f62 f63 f64 f65 f66 f67 f68 f69 hm hse hfi hye (by omega) (by omega)) f59 rfl rfl rfl (Nat.le_of_ble_eq_true rfl) (by decide) (by decide) rfl ?_
          have bl := hlx3 i k
          refine aw_toe (nI (lx i k)) (hlx i (by omega) k (by omega)) ?_
          refine aw_istore [(7, .int (nI (lx i k))), (6, .int (nI k)), (5, .int (nI o)), (4, .int (nI i)), (3, .int (nI b)), (2, .int (nI a)), (1, .ref (G.1 + 1)), (0, .ref (G.1 + J))] dX3_readLikes_52 (by decide) rfl ?_
          refine aw_aload_n 7 dX3_readLikes_54 rfl rfl ?_
          refine aw_get fX3_9 dX3_readLikes_55 f53 rfl ?_
          refine aw_iload 3 dX3_readLikes_58 rfl ?_
          refine aw_bipush (10) dX3_readLikes_60 (by decide) ?_
          refine aw_imul dX3_readLikes_62 ?_
          refine aw_toe (nI (i * 10)) (nv_mul (rfl) (rfl)) ?_
          refine aw_iload 1 dX3_readLikes_63 rfl ?_
          refine aw_iadd dX3_readLikes_65 ?_
          refine aw_toe (nI ((i * 10) + k)) (nv_add (rfl) (rfl)) ?_
          refine aw_iload 0 dX3_readLikes_66 rfl ?_
          refine aw_iast ((i * 10) + k) (rfl) (by omega) (by decide) dX3_readLikes_68 f54 ?_
          refine aw_iload 0 dX3_readLikes_69 rfl ?_
          refine aw_if_le 83 dX3_readLikes_71 (by decide) (fun c71 => ?_) (fun c71 => ?_)
          · have d71 := (nv_le (a := lx i k) (b := 0) (rfl) (rfl) (by omega) (by omega)).mp c71
            refine aw_iinc (j := 1) (nI (k + 1)) [(6, .int (nI (k + 1))), (7, .int (nI (lx i k))), (5, .int (nI o)), (4, .int (nI i)), (3, .int (nI b)), (2, .int (nI a)), (1, .ref (G.1 + 1)), (0, .ref (G.1 + J))] dX3_readLikes_83 rfl (nv_inc (rfl)) (by decide) rfl ?_
            refine aw_goto 25 dX3_readLikes_86 (by decide) ?_
            refine aw_lv [(6, .int (nI (k + 1))), (5, .int (nI o)), (4, .int (nI i)), (3, .int (nI b)), (2, .int (nI a)), (1, .ref (G.1 + 1)), (0, .ref (G.1 + J))] [0, 2, 3, 4, 5, 6, 7] rfl ?_
            exact ih71 (k + 1) o (upd lk2 ((i * 10) + k) (nI (lx i k))) _ (by omega) (by omega) (bo) (ro_0 ho (by omega)) (rl_1 hl2 (by omega) (by omega)) (rl_2 hl3 rfl) (gn (by omega) (f53)) (gs f54) (gn (by omega) (f55)) (gn (by omega) (f56)) (gn (by omega) (f57)) (gn (by omega) (f58)) (gn (by omega) (f59)) (gn (by omega) (f60)) (gn (by omega) (f61)) (gn (by omega) (f62)) (gn (by omega) (f63)) (gn (by omega) (f64)) (gn (by omega) (f65)) (gn (by omega) (f66)) (gn (by omega) (f67)) (gn (by omega) (f68)) (gn (by omega) (f69)) (rng_set (k70) (by omega) (by omega))
          · have d71 := mt (nv_le (a := lx i k) (b := 0) (rfl) (rfl) (by omega) (by omega)).mpr c71
            refine aw_iload 2 dX3_readLikes_74 rfl ?_
            refine aw_iconst (1) dX3_readLikes_76 (by decide) ?_
            refine aw_iload 1 dX3_readLikes_77 rfl ?_
            refine aw_ishl dX3_readLikes_79 ?_
            refine aw_toe (nI (2 ^ k)) (nv_shl1 (rfl) (by omega)) ?_
            refine aw_ior dX3_readLikes_80 ?_
            refine aw_toe (nI (o ||| (2 ^ k))) (nv_or (rfl) (rfl)) ?_
            refine aw_istore [(5, .int (nI (o ||| (2 ^ k)))), (7, .int (nI (lx i k))), (6, .int (nI k)), (4, .int (nI i)), (3, .int (nI b)), (2, .int (nI a)), (1, .ref (G.1 + 1)), (0, .ref (G.1 + J))] dX3_readLikes_81 (by decide) rfl ?_
            refine aw_iinc (j := 2) (nI (k + 1)) [(6, .int (nI (k + 1))), (5, .int (nI (o ||| (2 ^ k)))), (7, .int (nI (lx i k))), (4, .int (nI i)), (3, .int (nI b)), (2, .int (nI a)), (1, .ref (G.1 + 1)), (0, .ref (G.1 + J))] dX3_readLikes_83 rfl (nv_inc (rfl)) (by decide) rfl ?_
            refine aw_goto 25 dX3_readLikes_86 (by decide) ?_
            refine aw_lv [(6, .int (nI (k + 1))), (5, .int (nI (o ||| (2 ^ k)))), (4, .int (nI i)), (3, .int (nI b)), (2, .int (nI a)), (1, .ref (G.1 + 1)), (0, .ref (G.1 + J))] [0, 1, 3, 4, 5, 6, 7] rfl ?_
            exact ih71 (k + 1) (o ||| (2 ^ k)) (upd lk2 ((i * 10) + k) (nI (lx i k))) _ (by omega) (by omega) (or_k bo (by omega)) (ro_1 ho) (rl_1 hl2 (by omega) (by omega)) (rl_2 hl3 rfl) (gn (by omega) (f53)) (gs f54) (gn (by omega) (f55)) (gn (by omega) (f56)) (gn (by omega) (f57)) (gn (by omega) (f58)) (gn (by omega) (f59)) (gn (by omega) (f60)) (gn (by omega) (f61)) (gn (by omega) (f62)) (gn (by omega) (f63)) (gn (by omega) (f64)) (gn (by omega) (f65)) (gn (by omega) (f66)) (gn (by omega) (f67)) (gn (by omega) (f68)) (gn (by omega) (f69)) (rng_set (k70) (by omega) (by omega))
