set_option maxHeartbeats 4000000 in
theorem aX3_tellFirst {l : Launch} {G : xG} {h : List va_E} {J u v ro co : Nat} {rc : Nat → Nat} {lk bs wy nw : Nat → Int32} {P pv : Nat} {su wa : Int32} {pt ce : Nat → Int32} {lx : Nat → Nat → Nat} (hJ : h[J]? = some (oB 3 (lJ G J (.ref (G.1 + u)) (.ref (G.1 + v)) (nI ro) (nI co)))) (hJ_1 : h[J + 1]? = some (aI 100 lk)) (hJ_2 : h[J + 2]? = some (aI 11 (nA rc))) (hJ_3 : h[J + 3]? = some (aI 11264 bs)) (hu : h[u]? = some (aI 1024 wy)) (hv : h[v]? = some (aI 1024 nw)) (hP : h[P]? = some (oB 4 (lG G P su wa (nI pv)))) (hP_1 : h[P + 1]? = some (aI 10 pt)) (hP_2 : h[P + 2]? = some (aZ 10 ce)) (qu : J + 4 ≤ u ∧ u ≤ J + 5) (qv : J + 4 ≤ v ∧ v ≤ J + 5) (quv : u ≠ v) (hro : ro ≤ 10) (hco : co ≤ 10) (hrc : ∀ j, j < 11 → rc j < 1024) (qP : P + 2 < J) (hpt : pB pt) (hL : jL lx ro co lk) (hR : jR lx ro co rc) (hlx3 : ∀ i k, lx i k ≤ 300) (hB : jB lx ro co rc 0 bs) : CE l G yX3_tellFirst cX3_tellFirst 6 none 1 0 0 [.ref (G.1 + J), .ref (G.1 + P)] h none (fun h1 => ∃ pt1 : Nat → Int32, h1[P]? = some (oB 4 (lG G P su wa (nI pv))) ∧ h1[P + 1]? = some (aI 10 pt1) ∧ h1[P + 2]? = some (aZ 10 ce) ∧ rng P (P + 2) h h1 ∧ pB pt1 ∧ (∀ j, j < ro → pt1 j = jP lx co ro j)) := by
  refine cm_ofQ rfl (Nat.le_of_ble_eq_true rfl) [(0, .ref (G.1 + J)), (1, .ref (G.1 + P))] rfl (fun QF hQF => ?_)
  refine aw_iconst (0) dX3_tellFirst_0 (by decide) ?_
  refine aw_istore_n [(2, .int 0), (0, .ref (G.1 + J)), (1, .ref (G.1 + P))] dX3_tellFirst_1 rfl (by decide) rfl ?_
  refine aw_iconst (0) dX3_tellFirst_2 (by decide) ?_
  refine aw_istore_n [(3, .int 0), (2, .int 0), (0, .ref (G.1 + J)), (1, .ref (G.1 + P))] dX3_tellFirst_3 rfl (by decide) rfl ?_
  refine aw_lv [(3, .int 0), (2, .int 0), (1, .ref (G.1 + P)), (0, .ref (G.1 + J))] [0, 1, 3, 2] rfl ?_
  suffices L103 : ∀ (mm : Nat) (i : Nat) (s : Nat) (pt1 : Nat → Int32) (h92 : List va_E), ro - i < mm → (i ≤ ro) → (s < 1024) → (pB pt1) → (s = jTk lx co ro i) → (∀ j, j < i → pt1 j = jP lx co ro j) → h92[J]? = some (oB 3 (lJ G J (.ref (G.1 + u)) (.ref (G.1 + v)) (nI ro) (nI co))) → h92[J + 1]? = some (aI 100 lk) → h92[J + 2]? = some (aI 11 (nA rc)) → h92[J + 3]? = some (aI 11264 bs) → h92[u]? = some (aI 1024 wy) → h92[v]? = some (aI 1024 nw) → h92[P]? = some (oB 4 (lG G P su wa (nI pv))) → h92[P + 1]? = some (aI 10 pt1) → h92[P + 2]? = some (aZ 10 ce) → rng P (P + 2) h h92 → AW l G yX3_tellFirst cX3_tellFirst 6 none (xR 1 0 0) (fun _ _ => True) QF 0 0 4 [(3, .int (nI i)), (2, .int (nI s)), (1, .ref (G.1 + P)), (0, .ref (G.1 + J))] [] h92 from L103 (ro - 0 + 1) 0 0 pt _ (Nat.lt_succ_self _) (Nat.zero_le _) (by decide) (hpt) (rfl) (fun q h8 => absurd h8 (Nat.not_lt_zero _)) hJ hJ_1 hJ_2 hJ_3 hu hv hP hP_1 hP_2 (rng_rf P (P + 2) h)
  intro mm
  induction mm with
  | zero =>
    intro i s pt1 h92 hmm hi bs_ hp hs hq f93 f94 f95 f96 f97 f98 f99 f100 f101 k102
    exact absurd hmm (Nat.not_lt_zero _)
  | succ mm ih103 =>
    intro i s pt1 h92 hmm hi bs_ hp hs hq f93 f94 f95 f96 f97 f98 f99 f100 f101 k102
    have hT := jT_ok hlx3 hR hco i hi
    rw [← hs] at hT
    obtain ⟨_, hss, hpp⟩ := hT
    refine aw_iload_n 0 dX3_tellFirst_4 rfl rfl ?_
    refine aw_aload_n 3 dX3_tellFirst_5 rfl rfl ?_
    refine aw_get fX3_27 dX3_tellFirst_6 f93 rfl ?_
    refine aw_icmp_ge 96 dX3_tellFirst_9 (by decide) (fun c9 => ?_) (fun c9 => ?_)
    · have d9 := (nv_le (a := ro) (b := i) (rfl) (rfl) (by omega) (by omega)).mp c9
      subst hQF
      exact aw_vret rfl dX3_tellFirst_96 (by decide) (by decide) ⟨rfl, _, f99, f100, f101, k102, hp, fun j hj => hq j (by omega)⟩
    · have d9 := mt (nv_le (a := ro) (b := i) (rfl) (rfl) (by omega) (by omega)).mpr c9
      refine aw_bipush (-9) dX3_tellFirst_12 (by decide) ?_
      refine aw_istore [(4, .int (-9)), (3, .int (nI i)), (2, .int (nI s)), (1, .ref (G.1 + P)), (0, .ref (G.1 + J))] dX3_tellFirst_14 (by decide) rfl ?_
      refine aw_iconst (0) dX3_tellFirst_16 (by decide) ?_
      refine aw_istore [(5, .int 0), (4, .int (-9)), (3, .int (nI i)), (2, .int (nI s)), (1, .ref (G.1 + P)), (0, .ref (G.1 + J))] dX3_tellFirst_17 (by decide) rfl ?_
      refine aw_lv [(5, .int 0), (4, .int (-9)), (3, .int (nI i)), (2, .int (nI s)), (1, .ref (G.1 + P)), (0, .ref (G.1 + J))] [0, 1, 2, 3, 4, 5] rfl ?_
      suffices L115 : ∀ (mm : Nat) (k : Nat) (cv : Int32) (h104 : List va_E), co - k < mm → (k ≤ co) → ((cv = -9 ∨ ∃ q, q < 10 ∧ cv = nI q) ∧ cv = jF lx (jS lx co (ro - i - 1) (i + 1)) i s (jS lx co (ro - i) i s) k) → h104[J]? = some (oB 3 (lJ G J (.ref (G.1 + u)) (.ref (G.1 + v)) (nI ro) (nI co))) → h104[J + 1]? = some (aI 100 lk) → h104[J + 2]? = some (aI 11 (nA rc)) → h104[J + 3]? = some (aI 11264 bs) → h104[u]? = some (aI 1024 wy) → h104[v]? = some (aI 1024 nw) → h104[P]? = some (oB 4 (lG G P su wa (nI pv))) → h104[P + 1]? = some (aI 10 pt1) → h104[P + 2]? = some (aZ 10 ce) → rng P (P + 2) h h104 → AW l G yX3_tellFirst cX3_tellFirst 6 none (xR 1 0 0) (fun _ _ => True) QF 0 0 19 [(5, .int (nI k)), (4, .int cv), (3, .int (nI i)), (2, .int (nI s)), (1, .ref (G.1 + P)), (0, .ref (G.1 + J))] [] h104 from L115 (co - 0 + 1) 0 (-9) _ (Nat.lt_succ_self _) (Nat.zero_le _) (⟨Or.inl rfl, rfl⟩) f93 f94 f95 f96 f97 f98 f99 f100 f101 (k102)
      intro mm
      induction mm with
      | zero =>
        intro k cv h104 hmm hk hc f105 f106 f107 f108 f109 f110 f111 f112 f113 k114
        exact absurd hmm (Nat.not_lt_zero _)
      | succ mm ih115 =>
        intro k cv h104 hmm hk hc f105 f106 f107 f108 f109 f110 f111 f112 f113 k114
        rcases hc with ⟨rfl | ⟨q, bq, rfl⟩, hc⟩
        · refine aw_iload 0 dX3_tellFirst_19 rfl ?_
          refine aw_aload_n 5 dX3_tellFirst_21 rfl rfl ?_
          refine aw_get fX3_31 dX3_tellFirst_22 f105 rfl ?_
          refine aw_icmp_ge 68 dX3_tellFirst_25 (by decide) (fun c25 => ?_) (fun c25 => ?_)
          · have d25 := (nv_le (a := co) (b := k) (rfl) (rfl) (by omega) (by omega)).mp c25
            refine aw_aload_n 4 dX3_tellFirst_68 rfl rfl ?_
            refine aw_get fX3_80 dX3_tellFirst_69 f111 rfl ?_
            refine aw_iload_n 2 dX3_tellFirst_72 rfl rfl ?_
            refine aw_iload 1 dX3_tellFirst_73 rfl ?_
            refine aw_iast i (rfl) (by omega) (by decide) dX3_tellFirst_75 f112 ?_
            refine aw_iload 1 dX3_tellFirst_76 rfl ?_
            refine aw_bipush (-9) dX3_tellFirst_78 (by decide) ?_
            refine aw_icmp_eq 90 dX3_tellFirst_80 (by decide) (fun c80 => ?_) (fun c80 => absurd (by decide) c80)
            refine aw_iinc (j := 2) (nI (i + 1)) [(3, .int (nI (i + 1))), (5, .int (nI k)), (4, .int (-9)), (2, .int (nI s)), (1, .ref (G.1 + P)), (0, .ref (G.1 + J))] dX3_tellFirst_90 rfl (nv_inc (rfl)) (by decide) rfl ?_
            refine aw_goto 4 dX3_tellFirst_93 (by decide) ?_
            refine aw_lv [(3, .int (nI (i + 1))), (2, .int (nI s)), (1, .ref (G.1 + P)), (0, .ref (G.1 + J))] [0, 3, 4, 5] rfl ?_
            have ET : jP lx co ro i = -9 := jP_1 hs (by omega) hc
            exact ih103 (i + 1) s (upd pt1 i (-9)) _ (by omega) (by omega) (bs_) (pB_u hp (Or.inl rfl)) (by rw [jT_s, if_pos ET]; exact hs) (pt_up hq ET.symm) (gn (by omega) (f105)) (gn (by omega) (f106)) (gn (by omega) (f107)) (gn (by omega) (f108)) (gn (by omega) (f109)) (gn (by omega) (f110)) (gn (by omega) (f111)) (gs f112) (gn (by omega) (f113)) (rng_set (k114) (by omega) (by omega))
          · have d25 := mt (nv_le (a := co) (b := k) (rfl) (rfl) (by omega) (by omega)).mpr c25
            refine aw_iload 1 dX3_tellFirst_28 rfl ?_
            refine aw_bipush (-9) dX3_tellFirst_30 (by decide) ?_
            refine aw_icmp_ne 68 dX3_tellFirst_32 (by decide) (fun c32 => absurd (by decide) c32) (fun c32 => ?_)
            refine aw_aload_n 5 dX3_tellFirst_35 rfl rfl ?_
            refine aw_iload_n 2 dX3_tellFirst_36 rfl rfl ?_
            refine aw_iload_n 3 dX3_tellFirst_37 rfl rfl ?_
            refine aw_iload 0 dX3_tellFirst_38 rfl ?_
            refine aw_dV [.int (nI i), .int (nI s), .int (nI k)] [] lX3_71 vX3_valueOf mX3_valueOf dX3_tellFirst_40 (aX3_valueOf (J := J) (u := u) (v := v) (ro := ro) (co := co) (rc := rc) (lk := lk) (bs := bs) (wy := wy) (nw := nw) (i := i) (s := s) (k := k) f105 f106 f107 f108 f109 f110 (by omega) (by omega) (by omega) (by omega) (by omega) (by omega)) f105 rfl rfl rfl (Nat.le_of_ble_eq_true rfl) (by decide) (by decide) rfl ?_
            refine aw_aload_n 5 dX3_tellFirst_43 rfl rfl ?_
            refine aw_get fX3_18 dX3_tellFirst_44 f105 rfl ?_
            refine aw_iload_n 2 dX3_tellFirst_47 rfl rfl ?_
            refine aw_sipush (1024) dX3_tellFirst_48 (by decide) ?_
            refine aw_imul dX3_tellFirst_51 ?_
            refine aw_toe (nI (i * 1024)) (nv_mul (rfl) (rfl)) ?_
            refine aw_iload_n 3 dX3_tellFirst_52 rfl rfl ?_
            refine aw_iadd dX3_tellFirst_53 ?_
            refine aw_toe (nI ((i * 1024) + s)) (nv_add (rfl) (rfl)) ?_
            refine aw_iald ((i * 1024) + s) (rfl) (by omega) (by decide) dX3_tellFirst_54 f108 ?_
            refine aw_icmp_ne 62 dX3_tellFirst_55 (by decide) (fun c55 => ?_) (fun c55 => ?_)
            · refine aw_iinc (j := 0) (nI (k + 1)) [(5, .int (nI (k + 1))), (4, .int (-9)), (3, .int (nI i)), (2, .int (nI s)), (1, .ref (G.1 + P)), (0, .ref (G.1 + J))] dX3_tellFirst_62 rfl (nv_inc (rfl)) (by decide) rfl ?_
              refine aw_goto 19 dX3_tellFirst_65 (by decide) ?_
              refine aw_lv [(5, .int (nI (k + 1))), (4, .int (-9)), (3, .int (nI i)), (2, .int (nI s)), (1, .ref (G.1 + P)), (0, .ref (G.1 + J))] [0, 1, 2, 3, 4, 5] rfl ?_
              exact ih115 (k + 1) (-9) _ (by omega) (by omega) (⟨Or.inl rfl, (jF_n hc.symm (ft_n (ft_e hL hlx3 hR hB (by omega) (by omega) (by omega) bs_ hss hpp (by omega)) c55)).symm⟩) f105 f106 f107 f108 f109 f110 f111 f112 f113 (k114)
            · refine aw_iload 0 dX3_tellFirst_58 rfl ?_
              refine aw_istore [(4, .int (nI k)), (5, .int (nI k)), (3, .int (nI i)), (2, .int (nI s)), (1, .ref (G.1 + P)), (0, .ref (G.1 + J))] dX3_tellFirst_60 (by decide) rfl ?_
              refine aw_iinc (j := 1) (nI (k + 1)) [(5, .int (nI (k + 1))), (4, .int (nI k)), (3, .int (nI i)), (2, .int (nI s)), (1, .ref (G.1 + P)), (0, .ref (G.1 + J))] dX3_tellFirst_62 rfl (nv_inc (rfl)) (by decide) rfl ?_
              refine aw_goto 19 dX3_tellFirst_65 (by decide) ?_
              refine aw_lv [(5, .int (nI (k + 1))), (4, .int (nI k)), (3, .int (nI i)), (2, .int (nI s)), (1, .ref (G.1 + P)), (0, .ref (G.1 + J))] [0, 1, 2, 3, 4, 5] rfl ?_
              exact ih115 (k + 1) (nI k) _ (by omega) (by omega) (⟨Or.inr ⟨_, by omega, rfl⟩, (jF_y hc.symm ((ft_e hL hlx3 hR hB (by omega) (by omega) (by omega) bs_ hss hpp (by omega)).mp c55).1 ((ft_e hL hlx3 hR hB (by omega) (by omega) (by omega) bs_ hss hpp (by omega)).mp c55).2).symm⟩) f105 f106 f107 f108 f109 f110 f111 f112 f113 (k114)
        · refine aw_iload 0 dX3_tellFirst_19 rfl ?_
          refine aw_aload_n 5 dX3_tellFirst_21 rfl rfl ?_
          refine aw_get fX3_31 dX3_tellFirst_22 f105 rfl ?_
          refine aw_icmp_ge 68 dX3_tellFirst_25 (by decide) (fun c25 => ?_) (fun c25 => ?_)
          · have d25 := (nv_le (a := co) (b := k) (rfl) (rfl) (by omega) (by omega)).mp c25
            refine aw_aload_n 4 dX3_tellFirst_68 rfl rfl ?_
            refine aw_get fX3_80 dX3_tellFirst_69 f111 rfl ?_
            refine aw_iload_n 2 dX3_tellFirst_72 rfl rfl ?_
            refine aw_iload 1 dX3_tellFirst_73 rfl ?_
            refine aw_iast i (rfl) (by omega) (by decide) dX3_tellFirst_75 f112 ?_
            refine aw_iload 1 dX3_tellFirst_76 rfl ?_
            refine aw_bipush (-9) dX3_tellFirst_78 (by decide) ?_
            refine aw_icmp_eq 90 dX3_tellFirst_80 (by decide) (fun c80 => ?_) (fun c80 => ?_)
            · refine aw_iinc (j := 2) (nI (i + 1)) [(3, .int (nI (i + 1))), (5, .int (nI k)), (4, .int (nI q)), (2, .int (nI s)), (1, .ref (G.1 + P)), (0, .ref (G.1 + J))] dX3_tellFirst_90 rfl (nv_inc (rfl)) (by decide) rfl ?_
              refine aw_goto 4 dX3_tellFirst_93 (by decide) ?_
              refine aw_lv [(3, .int (nI (i + 1))), (2, .int (nI s)), (1, .ref (G.1 + P)), (0, .ref (G.1 + J))] [0, 3, 4, 5] rfl ?_
              exact absurd c80 (nI_9 (by omega))
            · refine aw_iload_n 3 dX3_tellFirst_83 rfl rfl ?_
              refine aw_iconst (1) dX3_tellFirst_84 (by decide) ?_
              refine aw_iload 1 dX3_tellFirst_85 rfl ?_
              refine aw_ishl dX3_tellFirst_87 ?_
              refine aw_toe (nI (2 ^ q)) (nv_shl1 (rfl) (by omega)) ?_
              refine aw_ior dX3_tellFirst_88 ?_
              refine aw_toe (nI (s ||| (2 ^ q))) (nv_or (rfl) (rfl)) ?_
              refine aw_istore_n [(2, .int (nI (s ||| (2 ^ q)))), (5, .int (nI k)), (4, .int (nI q)), (3, .int (nI i)), (1, .ref (G.1 + P)), (0, .ref (G.1 + J))] dX3_tellFirst_89 rfl (by decide) rfl ?_
              refine aw_iinc (j := 3) (nI (i + 1)) [(3, .int (nI (i + 1))), (2, .int (nI (s ||| (2 ^ q)))), (5, .int (nI k)), (4, .int (nI q)), (1, .ref (G.1 + P)), (0, .ref (G.1 + J))] dX3_tellFirst_90 rfl (nv_inc (rfl)) (by decide) rfl ?_
              refine aw_goto 4 dX3_tellFirst_93 (by decide) ?_
              refine aw_lv [(3, .int (nI (i + 1))), (2, .int (nI (s ||| (2 ^ q)))), (1, .ref (G.1 + P)), (0, .ref (G.1 + J))] [0, 1, 4, 5] rfl ?_
              have ET : jP lx co ro i = nI q := jP_1 hs (by omega) hc
              exact ih103 (i + 1) (s ||| (2 ^ q)) (upd pt1 i (nI q)) _ (by omega) (by omega) (or_k bs_ (by omega)) (pB_u hp (Or.inr ⟨_, by omega, rfl⟩)) (by rw [jT_s, ET, if_neg (nI_9 (by omega)), jn_nI (by omega), ← hs]) (pt_up hq ET.symm) (gn (by omega) (f105)) (gn (by omega) (f106)) (gn (by omega) (f107)) (gn (by omega) (f108)) (gn (by omega) (f109)) (gn (by omega) (f110)) (gn (by omega) (f111)) (gs f112) (gn (by omega) (f113)) (rng_set (k114) (by omega) (by omega))
          · have d25 := mt (nv_le (a := co) (b := k) (rfl) (rfl) (by omega) (by omega)).mpr c25
            refine aw_iload 1 dX3_tellFirst_28 rfl ?_
            refine aw_bipush (-9) dX3_tellFirst_30 (by decide) ?_
            refine aw_icmp_ne 68 dX3_tellFirst_32 (by decide) (fun c32 => ?_) (fun c32 => ?_)
            · refine aw_aload_n 4 dX3_tellFirst_68 rfl rfl ?_
              refine aw_get fX3_80 dX3_tellFirst_69 f111 rfl ?_
              refine aw_iload_n 2 dX3_tellFirst_72 rfl rfl ?_
              refine aw_iload 1 dX3_tellFirst_73 rfl ?_
              refine aw_iast i (rfl) (by omega) (by decide) dX3_tellFirst_75 f112 ?_
              refine aw_iload 1 dX3_tellFirst_76 rfl ?_
              refine aw_bipush (-9) dX3_tellFirst_78 (by decide) ?_
              refine aw_icmp_eq 90 dX3_tellFirst_80 (by decide) (fun c80 => ?_) (fun c80 => ?_)
              · refine aw_iinc (j := 2) (nI (i + 1)) [(3, .int (nI (i + 1))), (5, .int (nI k)), (4, .int (nI q)), (2, .int (nI s)), (1, .ref (G.1 + P)), (0, .ref (G.1 + J))] dX3_tellFirst_90 rfl (nv_inc (rfl)) (by decide) rfl ?_
                refine aw_goto 4 dX3_tellFirst_93 (by decide) ?_
                refine aw_lv [(3, .int (nI (i + 1))), (2, .int (nI s)), (1, .ref (G.1 + P)), (0, .ref (G.1 + J))] [0, 3, 4, 5] rfl ?_
                exact absurd c80 (nI_9 (by omega))
              · refine aw_iload_n 3 dX3_tellFirst_83 rfl rfl ?_
                refine aw_iconst (1) dX3_tellFirst_84 (by decide) ?_
                refine aw_iload 1 dX3_tellFirst_85 rfl ?_
                refine aw_ishl dX3_tellFirst_87 ?_
                refine aw_toe (nI (2 ^ q)) (nv_shl1 (rfl) (by omega)) ?_
                refine aw_ior dX3_tellFirst_88 ?_
                refine aw_toe (nI (s ||| (2 ^ q))) (nv_or (rfl) (rfl)) ?_
                refine aw_istore_n [(2, .int (nI (s ||| (2 ^ q)))), (5, .int (nI k)), (4, .int (nI q)), (3, .int (nI i)), (1, .ref (G.1 + P)), (0, .ref (G.1 + J))] dX3_tellFirst_89 rfl (by decide) rfl ?_
                refine aw_iinc (j := 3) (nI (i + 1)) [(3, .int (nI (i + 1))), (2, .int (nI (s ||| (2 ^ q)))), (5, .int (nI k)), (4, .int (nI q)), (1, .ref (G.1 + P)), (0, .ref (G.1 + J))] dX3_tellFirst_90 rfl (nv_inc (rfl)) (by decide) rfl ?_
                refine aw_goto 4 dX3_tellFirst_93 (by decide) ?_
                refine aw_lv [(3, .int (nI (i + 1))), (2, .int (nI (s ||| (2 ^ q)))), (1, .ref (G.1 + P)), (0, .ref (G.1 + J))] [0, 1, 4, 5] rfl ?_
                have ET : jP lx co ro i = nI q := jP_2 hs (by omega) (nI_9 (by omega)) hc
                exact ih103 (i + 1) (s ||| (2 ^ q)) (upd pt1 i (nI q)) _ (by omega) (by omega) (or_k bs_ (by omega)) (pB_u hp (Or.inr ⟨_, by omega, rfl⟩)) (by rw [jT_s, ET, if_neg (nI_9 (by omega)), jn_nI (by omega), ← hs]) (pt_up hq ET.symm) (gn (by omega) (f105)) (gn (by omega) (f106)) (gn (by omega) (f107)) (gn (by omega) (f108)) (gn (by omega) (f109)) (gn (by omega) (f110)) (gn (by omega) (f111)) (gs f112) (gn (by omega) (f113)) (rng_set (k114) (by omega) (by omega))
            · refine aw_aload_n 5 dX3_tellFirst_35 rfl rfl ?_
              refine aw_iload_n 2 dX3_tellFirst_36 rfl rfl ?_
              refine aw_iload_n 3 dX3_tellFirst_37 rfl rfl ?_
              refine aw_iload 0 dX3_tellFirst_38 rfl ?_
              refine aw_dV [.int (nI i), .int (nI s), .int (nI k)] [] lX3_71 vX3_valueOf mX3_valueOf dX3_tellFirst_40 (aX3_valueOf (J := J) (u := u) (v := v) (ro := ro) (co := co) (rc := rc) (lk := lk) (bs := bs) (wy := wy) (nw := nw) (i := i) (s := s) (k := k) f105 f106 f107 f108 f109 f110 (by omega) (by omega) (by omega) (by omega) (by omega) (by omega)) f105 rfl rfl rfl (Nat.le_of_ble_eq_true rfl) (by decide) (by decide) rfl ?_
              refine aw_aload_n 5 dX3_tellFirst_43 rfl rfl ?_
              refine aw_get fX3_18 dX3_tellFirst_44 f105 rfl ?_
              refine aw_iload_n 2 dX3_tellFirst_47 rfl rfl ?_
              refine aw_sipush (1024) dX3_tellFirst_48 (by decide) ?_
              refine aw_imul dX3_tellFirst_51 ?_
              refine aw_toe (nI (i * 1024)) (nv_mul (rfl) (rfl)) ?_
              refine aw_iload_n 3 dX3_tellFirst_52 rfl rfl ?_
              refine aw_iadd dX3_tellFirst_53 ?_
              refine aw_toe (nI ((i * 1024) + s)) (nv_add (rfl) (rfl)) ?_
              refine aw_iald ((i * 1024) + s) (rfl) (by omega) (by decide) dX3_tellFirst_54 f108 ?_
              refine aw_icmp_ne 62 dX3_tellFirst_55 (by decide) (fun c55 => ?_) (fun c55 => ?_)
              · refine aw_iinc (j := 0) (nI (k + 1)) [(5, .int (nI (k + 1))), (4, .int (nI q)), (3, .int (nI i)), (2, .int (nI s)), (1, .ref (G.1 + P)), (0, .ref (G.1 + J))] dX3_tellFirst_62 rfl (nv_inc (rfl)) (by decide) rfl ?_
                refine aw_goto 19 dX3_tellFirst_65 (by decide) ?_
                refine aw_lv [(5, .int (nI (k + 1))), (4, .int (nI q)), (3, .int (nI i)), (2, .int (nI s)), (1, .ref (G.1 + P)), (0, .ref (G.1 + J))] [0, 1, 2, 3, 4, 5] rfl ?_
                exact absurd c32 (nI_9 (by omega))
              · refine aw_iload 0 dX3_tellFirst_58 rfl ?_
                refine aw_istore [(4, .int (nI k)), (5, .int (nI k)), (3, .int (nI i)), (2, .int (nI s)), (1, .ref (G.1 + P)), (0, .ref (G.1 + J))] dX3_tellFirst_60 (by decide) rfl ?_
                refine aw_iinc (j := 1) (nI (k + 1)) [(5, .int (nI (k + 1))), (4, .int (nI k)), (3, .int (nI i)), (2, .int (nI s)), (1, .ref (G.1 + P)), (0, .ref (G.1 + J))] dX3_tellFirst_62 rfl (nv_inc (rfl)) (by decide) rfl ?_
                refine aw_goto 19 dX3_tellFirst_65 (by decide) ?_
                refine aw_lv [(5, .int (nI (k + 1))), (4, .int (nI k)), (3, .int (nI i)), (2, .int (nI s)), (1, .ref (G.1 + P)), (0, .ref (G.1 + J))] [0, 1, 2, 3, 4, 5] rfl ?_
                exact absurd c32 (nI_9 (by omega))
