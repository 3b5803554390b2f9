set_option maxHeartbeats 4000000 in
theorem aX3_tellWays {l : Launch} {G : xG} {h : List va_E} {J u v ro co : Nat} {rc : Nat → Nat} {lk bs wy nw : Nat → Int32} {P pv : Nat} {su wa : Int32} {pt ce : Nat → Int32} {lx : Nat → Nat → Nat} (hJ : h[J]? = some (oB 3 (lJ G J (.ref (G.1 + u)) (.ref (G.1 + v)) (nI ro) (nI co)))) (hJ_1 : h[J + 1]? = some (aI 100 lk)) (hJ_2 : h[J + 2]? = some (aI 11 (nA rc))) (hJ_3 : h[J + 3]? = some (aI 11264 bs)) (hu : h[u]? = some (aI 1024 wy)) (hv : h[v]? = some (aI 1024 nw)) (hP : h[P]? = some (oB 4 (lG G P su wa (nI pv)))) (hP_1 : h[P + 1]? = some (aI 10 pt)) (hP_2 : h[P + 2]? = some (aZ 10 ce)) (qu : J + 4 ≤ u ∧ u ≤ J + 5) (qv : J + 4 ≤ v ∧ v ≤ J + 5) (hro : ro ≤ 10) (hco : co ≤ 10) (hrc : ∀ j, j < 11 → rc j < 1024) (quv : (u ≠ v ∧ wZ wy nw)) (qP : P + 2 < J) (hL : jL lx ro co lk) (hR : jR lx ro co rc) (hlx3 : ∀ i k, lx i k ≤ 300) (hB : jB lx ro co rc 0 bs) : CE l G yX3_tellWays cX3_tellWays 6 none 3 0 0 [.ref (G.1 + J), .ref (G.1 + P)] h none (fun h1 => ∃ u1 : Nat, ∃ v1 : Nat, ∃ wy1 : Nat → Int32, ∃ nw1 : Nat → Int32, ∃ wa1 : Int32, ∃ ce1 : Nat → Int32, h1[J]? = some (oB 3 (lJ G J (.ref (G.1 + u1)) (.ref (G.1 + v1)) (nI ro) (nI co))) ∧ h1[J + 1]? = some (aI 100 lk) ∧ h1[J + 2]? = some (aI 11 (nA rc)) ∧ h1[J + 3]? = some (aI 11264 bs) ∧ h1[u1]? = some (aI 1024 wy1) ∧ h1[v1]? = some (aI 1024 nw1) ∧ h1[P]? = some (oB 4 (lG G P su wa1 (nI pv))) ∧ h1[P + 1]? = some (aI 10 pt) ∧ h1[P + 2]? = some (aZ 10 ce1) ∧ rg2 P (P + 2) J (J + 5) h h1 ∧ (J + 4 ≤ u1 ∧ u1 ≤ J + 5) ∧ (J + 4 ≤ v1 ∧ v1 ≤ J + 5) ∧ (u1 ≠ v1 ∧ wZ wy1 nw1) ∧ wa1 = nI (min 1000000 (jC lx co ro 0 0)) ∧ (∀ j, j < ro → ce1 j = if jU lx co ro j then 1 else 0)) := by
  refine cm_ofQ rfl (Nat.le_of_ble_eq_true rfl) [(0, .ref (G.1 + J)), (1, .ref (G.1 + P))] rfl (fun QF hQF => ?_)
  refine aw_aload_n 0 dX3_tellWays_0 rfl rfl ?_
  refine aw_get fX3_21 dX3_tellWays_1 hJ rfl ?_
  refine aw_iconst (0) dX3_tellWays_4 (by decide) ?_
  refine aw_iconst (1) dX3_tellWays_5 (by decide) ?_
  refine aw_iast 0 (rfl) (by decide) (by decide) dX3_tellWays_6 hu ?_
  refine aw_iconst (0) dX3_tellWays_7 (by decide) ?_
  refine aw_istore_n [(2, .int 0), (0, .ref (G.1 + J)), (1, .ref (G.1 + P))] dX3_tellWays_8 rfl (by decide) rfl ?_
  refine aw_lv [(2, .int 0), (1, .ref (G.1 + P)), (0, .ref (G.1 + J))] [0, 2, 1] rfl ?_
  suffices L163 : ∀ (mm : Nat) (i : Nat) (u1 : Nat) (v1 : Nat) (wy1 : Nat → Int32) (nw1 : Nat → Int32) (ce1 : Nat → Int32) (f1 : Nat → Nat) (h152 : List va_E), ro - i < mm → (i ≤ ro) → (J + 4 ≤ u1 ∧ u1 ≤ J + 5) → (J + 4 ≤ v1 ∧ v1 ≤ J + 5) → (u1 ≠ v1) → (yF lx co ro i f1) → (wX wy1 f1) → (∀ t, t < 1024 → nw1 t = 0) → (∀ j, j < i → ce1 j = if jU lx co ro j then 1 else 0) → h152[J]? = some (oB 3 (lJ G J (.ref (G.1 + u1)) (.ref (G.1 + v1)) (nI ro) (nI co))) → h152[J + 1]? = some (aI 100 lk) → h152[J + 2]? = some (aI 11 (nA rc)) → h152[J + 3]? = some (aI 11264 bs) → h152[u1]? = some (aI 1024 wy1) → h152[v1]? = some (aI 1024 nw1) → h152[P]? = some (oB 4 (lG G P su wa (nI pv))) → h152[P + 1]? = some (aI 10 pt) → h152[P + 2]? = some (aZ 10 ce1) → rg2 P (P + 2) J (J + 5) h h152 → AW l G yX3_tellWays cX3_tellWays 6 none (xR 3 0 0) (fun _ _ => True) QF 0 0 9 [(2, .int (nI i)), (1, .ref (G.1 + P)), (0, .ref (G.1 + J))] [] h152 from L163 (ro - 0 + 1) 0 u v (upd wy 0 1) nw ce (un (fun _ => 0) 0 1) _ (Nat.lt_succ_self _) (Nat.zero_le _) (qu) (qv) (by omega) (yF_0) (wX_u (wX_0 quv.2.1) (by decide)) (quv.2.2) (fun q h8 => absurd h8 (Nat.not_lt_zero _)) (gn (by omega) (hJ)) (gn (by omega) (hJ_1)) (gn (by omega) (hJ_2)) (gn (by omega) (hJ_3)) (gs hu) (gn (by omega) (hv)) (gn (by omega) (hP)) (gn (by omega) (hP_1)) (gn (by omega) (hP_2)) (rg2_set (rg2_rf P (P + 2) J (J + 5) h) (by omega))
  intro mm
  induction mm with
  | zero =>
    intro i u1 v1 wy1 nw1 ce1 f1 h152 hmm hi hu1 hv1 huv1 hF hw hz hc f153 f154 f155 f156 f157 f158 f159 f160 f161 k162
    exact absurd hmm (Nat.not_lt_zero _)
  | succ mm ih163 =>
    intro i u1 v1 wy1 nw1 ce1 f1 h152 hmm hi hu1 hv1 huv1 hF hw hz hc f153 f154 f155 f156 f157 f158 f159 f160 f161 k162
    refine aw_iload_n 0 dX3_tellWays_9 rfl rfl ?_
    refine aw_aload_n 2 dX3_tellWays_10 rfl rfl ?_
    refine aw_get fX3_27 dX3_tellWays_11 f153 rfl ?_
    refine aw_icmp_ge 137 dX3_tellWays_14 (by decide) (fun c14 => ?_) (fun c14 => ?_)
    · have d14 := (nv_le (a := ro) (b := i) (rfl) (rfl) (by omega) (by omega)).mp c14
      refine aw_aload_n 1 dX3_tellWays_137 rfl rfl ?_
      refine aw_aload_n 2 dX3_tellWays_138 rfl rfl ?_
      refine aw_aload_n 2 dX3_tellWays_139 rfl rfl ?_
      refine aw_get fX3_15 dX3_tellWays_140 f153 rfl ?_
      refine aw_aload_n 2 dX3_tellWays_143 rfl rfl ?_
      refine aw_get fX3_27 dX3_tellWays_144 f153 rfl ?_
      refine aw_iald ro (rfl) (by omega) (by decide) dX3_tellWays_147 f155 ?_
      refine aw_toe (nI (rc ro)) (rfl) ?_
      have b164 := hrc ro (by omega)
      refine aw_eV [.int (nI (rc ro))] [.ref (G.1 + P)] lX3_90 vX3_sumWays mX3_sumWays dX3_tellWays_148 (aX3_sumWays (J := J) (u := u1) (v := v1) (ro := ro) (co := co) (rc := rc) (lk := lk) (bs := bs) (wy := wy1) (nw := nw1) (f := f1) (lx := lx) f153 f154 f155 f156 f157 f158 hu1 hv1 huv1 (by omega) (by omega) hrc hR (by rw [show i = ro by omega] at hF; exact hF) hw) f153 rfl rfl rfl (Nat.le_of_ble_eq_true rfl) (by decide) (by decide) rfl (fun h167 q166 => ?_)
      obtain ⟨wy1165, f168, f169, f170, f171, f172, f173, k174, p175⟩ := q166
      have f176 := rng_at k174 (by omega) f159
      have f177 := rng_at k174 (by omega) f160
      have f178 := rng_at k174 (by omega) f161
      refine aw_putQ fX3_93 dX3_tellWays_151 (lG G P su (nI (min 1000000 (jC lx co ro 0 0))) (nI pv)) f176 rfl rfl rfl (Nat.le_of_ble_eq_true rfl) rfl ?_
      subst hQF
      exact aw_vret rfl dX3_tellWays_154 (by decide) (by decide) ⟨rfl, _, _, _, _, _, _, (gn (by omega) (f168)), (gn (by omega) (f169)), (gn (by omega) (f170)), (gn (by omega) (f171)), (gn (by omega) (f172)), (gn (by omega) (f173)), (gs f176), (gn (by omega) (f177)), (gn (by omega) (f178)), rg2_set (rg2_tr (k162) (rg2_w k174 (by omega))) (by omega), hu1, hv1, ⟨huv1, p175, hz⟩, rfl, fun j hj => hc j (by omega)⟩
    · have d14 := mt (nv_le (a := ro) (b := i) (rfl) (rfl) (by omega) (by omega)).mpr c14
      refine aw_iconst (0) dX3_tellWays_17 (by decide) ?_
      refine aw_istore_n [(3, .int 0), (2, .int (nI i)), (1, .ref (G.1 + P)), (0, .ref (G.1 + J))] dX3_tellWays_18 rfl (by decide) rfl ?_
      refine aw_aload_n 3 dX3_tellWays_19 rfl rfl ?_
      refine aw_get fX3_15 dX3_tellWays_20 f153 rfl ?_
      refine aw_iload_n 1 dX3_tellWays_23 rfl rfl ?_
      refine aw_iald i (rfl) (by omega) (by decide) dX3_tellWays_24 f155 ?_
      refine aw_toe (nI (rc i)) (rfl) ?_
      have b179 := hrc i (by omega)
      refine aw_istore [(4, .int (nI (rc i))), (3, .int 0), (2, .int (nI i)), (1, .ref (G.1 + P)), (0, .ref (G.1 + J))] dX3_tellWays_25 (by decide) rfl ?_
      refine aw_iload 0 dX3_tellWays_27 rfl ?_
      refine aw_istore [(5, .int (nI (rc i))), (4, .int (nI (rc i))), (3, .int 0), (2, .int (nI i)), (1, .ref (G.1 + P)), (0, .ref (G.1 + J))] dX3_tellWays_29 (by decide) rfl ?_
      refine aw_lv [(5, .int (nI (rc i))), (4, .int (nI (rc i))), (3, .int 0), (2, .int (nI i)), (1, .ref (G.1 + P)), (0, .ref (G.1 + J))] [0, 1, 2, 3, 4, 5] rfl ?_
      suffices L191 : ∀ (mm : Nat) (t : Nat) (tv : Int32) (cm : Nat) (wy2 : Nat → Int32) (nw2 : Nat → Int32) (f2 : Nat → Nat) (g2 : Nat → Nat) (h180 : List va_E), t < mm → ((t = 0 ∧ tv = -1) ∨ (∃ s, s < 1024 ∧ tv = nI s ∧ t = s + 1 ∧ s &&& rc i = s)) → (yI lx co ro i t f2 g2 cm) → (wX wy2 f2) → (wX nw2 g2) → h180[J]? = some (oB 3 (lJ G J (.ref (G.1 + u1)) (.ref (G.1 + v1)) (nI ro) (nI co))) → h180[J + 1]? = some (aI 100 lk) → h180[J + 2]? = some (aI 11 (nA rc)) → h180[J + 3]? = some (aI 11264 bs) → h180[u1]? = some (aI 1024 wy2) → h180[v1]? = some (aI 1024 nw2) → h180[P]? = some (oB 4 (lG G P su wa (nI pv))) → h180[P + 1]? = some (aI 10 pt) → h180[P + 2]? = some (aZ 10 ce1) → rg2 P (P + 2) J (J + 5) h h180 → AW l G yX3_tellWays cX3_tellWays 6 none (xR 3 0 0) (fun _ _ => True) QF 0 0 31 [(5, .int tv), (4, .int (nI (rc i))), (3, .int (nI cm)), (2, .int (nI i)), (1, .ref (G.1 + P)), (0, .ref (G.1 + J))] [] h180 from L191 ((rc i + 1) + 1) (rc i + 1) (nI (rc i)) 0 wy1 nw1 f1 (fun _ => 0) _ (Nat.lt_succ_self _) (Or.inr ⟨_, by omega, rfl, rfl, Nat.and_self _⟩) (yI_0 hR hco (by omega) hF) (hw) (wX_0 hz) f153 f154 f155 f156 f157 f158 f159 f160 f161 (k162)
      intro mm
      induction mm with
      | zero =>
        intro t tv cm wy2 nw2 f2 g2 h180 hmm ht hY hw2 hn2 f181 f182 f183 f184 f185 f186 f187 f188 f189 k190
        exact absurd hmm (Nat.not_lt_zero _)
      | succ mm ih191 =>
        intro t tv cm wy2 nw2 f2 g2 h180 hmm ht hY hw2 hn2 f181 f182 f183 f184 f185 f186 f187 f188 f189 k190
        rcases ht with ⟨rfl, rfl⟩ | ⟨s, bs_, rfl, rfl, hss⟩
        · refine aw_iload 0 dX3_tellWays_31 rfl ?_
          refine aw_if_lt 85 dX3_tellWays_33 (by decide) (fun c33 => ?_) (fun c33 => absurd (by decide) c33)
          refine aw_aload_n 4 dX3_tellWays_85 rfl rfl ?_
          refine aw_get fX3_86 dX3_tellWays_86 f187 rfl ?_
          refine aw_iload_n 3 dX3_tellWays_89 rfl rfl ?_
          refine aw_iload_n 2 dX3_tellWays_90 rfl rfl ?_
          refine aw_dS [.int (nI cm)] [.int (nI i), .ref (G.1 + (P + 2))] lX3_62 sJ6_bitCount_0f7a4 mJ6_bitCount_0f7a4 dX3_tellWays_91 (J6_bitCount_g (x := (nI cm)) ) rfl (Nat.le_of_ble_eq_true rfl) (by decide) (by decide) rfl ?_
          have bcm := hY.2.2.2.1
          refine aw_toe (nI (popN cm)) (bc_pop (by omega)) ?_
          have bpn := popN_le cm
          refine aw_iconst (1) dX3_tellWays_94 (by decide) ?_
          refine aw_icmp_ne 109 dX3_tellWays_95 (by decide) (fun c95 => ?_) (fun c95 => ?_)
          · have d95 := mt (nv_eq (a := popN cm) (b := 1) (rfl) (rfl) (by omega) (by omega)).mpr c95
            refine aw_iconst (0) dX3_tellWays_109 (by decide) ?_
            refine aw_zast i (rfl) (by omega) (by decide) dX3_tellWays_110 f189 ?_
            refine aw_aload_n 5 dX3_tellWays_111 rfl rfl ?_
            refine aw_get fX3_21 dX3_tellWays_112 (gn (by omega) (f181)) rfl ?_
            refine aw_astore [(5, .ref (G.1 + u1)), (4, .int (nI (rc i))), (3, .int (nI cm)), (2, .int (nI i)), (1, .ref (G.1 + P)), (0, .ref (G.1 + J))] dX3_tellWays_115 (by decide) rfl ?_
            refine aw_aload_n 5 dX3_tellWays_117 rfl rfl ?_
            refine aw_aload_n 5 dX3_tellWays_118 rfl rfl ?_
            refine aw_get fX3_24 dX3_tellWays_119 (gn (by omega) (f181)) rfl ?_
            refine aw_putQ fX3_21 dX3_tellWays_122 (lJ G J (.ref (G.1 + v1)) (.ref (G.1 + v1)) (nI ro) (nI co)) (gn (by omega) (f181)) rfl rfl rfl (Nat.le_of_ble_eq_true rfl) rfl ?_
            refine aw_aload_n 5 dX3_tellWays_125 rfl rfl ?_
            refine aw_aload 0 dX3_tellWays_126 rfl ?_
            refine aw_putQ fX3_24 dX3_tellWays_128 (lJ G J (.ref (G.1 + v1)) (.ref (G.1 + u1)) (nI ro) (nI co)) (gs (gn (by omega) (f181))) rfl rfl rfl (Nat.le_of_ble_eq_true rfl) rfl ?_
            refine aw_iinc (j := 3) (nI (i + 1)) [(2, .int (nI (i + 1))), (5, .ref (G.1 + u1)), (4, .int (nI (rc i))), (3, .int (nI cm)), (1, .ref (G.1 + P)), (0, .ref (G.1 + J))] dX3_tellWays_131 rfl (nv_inc (rfl)) (by decide) rfl ?_
            refine aw_goto 9 dX3_tellWays_134 (by decide) ?_
            refine aw_lv [(2, .int (nI (i + 1))), (1, .ref (G.1 + P)), (0, .ref (G.1 + J))] [0, 4, 5] rfl ?_
            exact ih163 (i + 1) v1 u1 nw2 wy2 (upd ce1 i (vp_nar .boolean 0)) g2 _ (by omega) (by omega) (by omega) (by omega) (by omega) (yI_g (by omega) hY) (hn2) (wX_z hw2 (yI_f hY)) (ce_u hc (by rw [if_neg (fun w9 => by have w8 := (yI_c (by omega) hco hY).mpr w9; omega)]; rfl)) (gs (gs (gn (by omega) (f181)))) (gn (by omega) (gn (by omega) (gn (by omega) (f182)))) (gn (by omega) (gn (by omega) (gn (by omega) (f183)))) (gn (by omega) (gn (by omega) (gn (by omega) (f184)))) (gn (by omega) (gn (by omega) (gn (by omega) (f186)))) (gn (by omega) (gn (by omega) (gn (by omega) (f185)))) (gn (by omega) (gn (by omega) (gn (by omega) (f187)))) (gn (by omega) (gn (by omega) (gn (by omega) (f188)))) (gn (by omega) (gn (by omega) (gs f189))) (rg2_set (rg2_set (rg2_set (k190) (by omega)) (by omega)) (by omega))
          · have d95 := (nv_eq (a := popN cm) (b := 1) (rfl) (rfl) (by omega) (by omega)).mp c95
            refine aw_iload_n 2 dX3_tellWays_98 rfl rfl ?_
            refine aw_sipush (1024) dX3_tellWays_99 (by decide) ?_
            refine aw_icmp_ge 109 dX3_tellWays_102 (by decide) (fun c102 => ?_) (fun c102 => ?_)
            · have d102 := (nv_le (a := 1024) (b := cm) (rfl) (rfl) (by omega) (by omega)).mp c102
              refine aw_iconst (0) dX3_tellWays_109 (by decide) ?_
              refine aw_zast i (rfl) (by omega) (by decide) dX3_tellWays_110 f189 ?_
              refine aw_aload_n 5 dX3_tellWays_111 rfl rfl ?_
              refine aw_get fX3_21 dX3_tellWays_112 (gn (by omega) (f181)) rfl ?_
              refine aw_astore [(5, .ref (G.1 + u1)), (4, .int (nI (rc i))), (3, .int (nI cm)), (2, .int (nI i)), (1, .ref (G.1 + P)), (0, .ref (G.1 + J))] dX3_tellWays_115 (by decide) rfl ?_
              refine aw_aload_n 5 dX3_tellWays_117 rfl rfl ?_
              refine aw_aload_n 5 dX3_tellWays_118 rfl rfl ?_
              refine aw_get fX3_24 dX3_tellWays_119 (gn (by omega) (f181)) rfl ?_
              refine aw_putQ fX3_21 dX3_tellWays_122 (lJ G J (.ref (G.1 + v1)) (.ref (G.1 + v1)) (nI ro) (nI co)) (gn (by omega) (f181)) rfl rfl rfl (Nat.le_of_ble_eq_true rfl) rfl ?_
              refine aw_aload_n 5 dX3_tellWays_125 rfl rfl ?_
              refine aw_aload 0 dX3_tellWays_126 rfl ?_
              refine aw_putQ fX3_24 dX3_tellWays_128 (lJ G J (.ref (G.1 + v1)) (.ref (G.1 + u1)) (nI ro) (nI co)) (gs (gn (by omega) (f181))) rfl rfl rfl (Nat.le_of_ble_eq_true rfl) rfl ?_
              refine aw_iinc (j := 3) (nI (i + 1)) [(2, .int (nI (i + 1))), (5, .ref (G.1 + u1)), (4, .int (nI (rc i))), (3, .int (nI cm)), (1, .ref (G.1 + P)), (0, .ref (G.1 + J))] dX3_tellWays_131 rfl (nv_inc (rfl)) (by decide) rfl ?_
              refine aw_goto 9 dX3_tellWays_134 (by decide) ?_
              refine aw_lv [(2, .int (nI (i + 1))), (1, .ref (G.1 + P)), (0, .ref (G.1 + J))] [0, 4, 5] rfl ?_
              exact ih163 (i + 1) v1 u1 nw2 wy2 (upd ce1 i (vp_nar .boolean 0)) g2 _ (by omega) (by omega) (by omega) (by omega) (by omega) (yI_g (by omega) hY) (hn2) (wX_z hw2 (yI_f hY)) (ce_u hc (by rw [if_neg (fun w9 => by have w8 := (yI_c (by omega) hco hY).mpr w9; omega)]; rfl)) (gs (gs (gn (by omega) (f181)))) (gn (by omega) (gn (by omega) (gn (by omega) (f182)))) (gn (by omega) (gn (by omega) (gn (by omega) (f183)))) (gn (by omega) (gn (by omega) (gn (by omega) (f184)))) (gn (by omega) (gn (by omega) (gn (by omega) (f186)))) (gn (by omega) (gn (by omega) (gn (by omega) (f185)))) (gn (by omega) (gn (by omega) (gn (by omega) (f187)))) (gn (by omega) (gn (by omega) (gn (by omega) (f188)))) (gn (by omega) (gn (by omega) (gs f189))) (rg2_set (rg2_set (rg2_set (k190) (by omega)) (by omega)) (by omega))
            · have d102 := mt (nv_le (a := 1024) (b := cm) (rfl) (rfl) (by omega) (by omega)).mpr c102
              refine aw_iconst (1) dX3_tellWays_105 (by decide) ?_
              refine aw_goto 110 dX3_tellWays_106 (by decide) ?_
              refine aw_zast i (rfl) (by omega) (by decide) dX3_tellWays_110 f189 ?_
              refine aw_aload_n 5 dX3_tellWays_111 rfl rfl ?_
              refine aw_get fX3_21 dX3_tellWays_112 (gn (by omega) (f181)) rfl ?_
              refine aw_astore [(5, .ref (G.1 + u1)), (4, .int (nI (rc i))), (3, .int (nI cm)), (2, .int (nI i)), (1, .ref (G.1 + P)), (0, .ref (G.1 + J))] dX3_tellWays_115 (by decide) rfl ?_
              refine aw_aload_n 5 dX3_tellWays_117 rfl rfl ?_
              refine aw_aload_n 5 dX3_tellWays_118 rfl rfl ?_
              refine aw_get fX3_24 dX3_tellWays_119 (gn (by omega) (f181)) rfl ?_
              refine aw_putQ fX3_21 dX3_tellWays_122 (lJ G J (.ref (G.1 + v1)) (.ref (G.1 + v1)) (nI ro) (nI co)) (gn (by omega) (f181)) rfl rfl rfl (Nat.le_of_ble_eq_true rfl) rfl ?_
              refine aw_aload_n 5 dX3_tellWays_125 rfl rfl ?_
              refine aw_aload 0 dX3_tellWays_126 rfl ?_
              refine aw_putQ fX3_24 dX3_tellWays_128 (lJ G J (.ref (G.1 + v1)) (.ref (G.1 + u1)) (nI ro) (nI co)) (gs (gn (by omega) (f181))) rfl rfl rfl (Nat.le_of_ble_eq_true rfl) rfl ?_
              refine aw_iinc (j := 3) (nI (i + 1)) [(2, .int (nI (i + 1))), (5, .ref (G.1 + u1)), (4, .int (nI (rc i))), (3, .int (nI cm)), (1, .ref (G.1 + P)), (0, .ref (G.1 + J))] dX3_tellWays_131 rfl (nv_inc (rfl)) (by decide) rfl ?_
              refine aw_goto 9 dX3_tellWays_134 (by decide) ?_
              refine aw_lv [(2, .int (nI (i + 1))), (1, .ref (G.1 + P)), (0, .ref (G.1 + J))] [0, 4, 5] rfl ?_
              exact ih163 (i + 1) v1 u1 nw2 wy2 (upd ce1 i (vp_nar .boolean 1)) g2 _ (by omega) (by omega) (by omega) (by omega) (by omega) (yI_g (by omega) hY) (hn2) (wX_z hw2 (yI_f hY)) (ce_u hc (by rw [if_pos ((yI_c (by omega) hco hY).mp ⟨by omega, by omega⟩)]; rfl)) (gs (gs (gn (by omega) (f181)))) (gn (by omega) (gn (by omega) (gn (by omega) (f182)))) (gn (by omega) (gn (by omega) (gn (by omega) (f183)))) (gn (by omega) (gn (by omega) (gn (by omega) (f184)))) (gn (by omega) (gn (by omega) (gn (by omega) (f186)))) (gn (by omega) (gn (by omega) (gn (by omega) (f185)))) (gn (by omega) (gn (by omega) (gn (by omega) (f187)))) (gn (by omega) (gn (by omega) (gn (by omega) (f188)))) (gn (by omega) (gn (by omega) (gs f189))) (rg2_set (rg2_set (rg2_set (k190) (by omega)) (by omega)) (by omega))
        · refine aw_iload 0 dX3_tellWays_31 rfl ?_
          refine aw_if_lt 85 dX3_tellWays_33 (by decide) (fun c33 => absurd c33 (by simp only [i_lt, (nI_toInt (n := s) (by omega)), (show (0 : Int32).toInt = 0 from rfl)] <;> omega)) (fun c33 => ?_)
          refine aw_aload_n 5 dX3_tellWays_36 rfl rfl ?_
          refine aw_get fX3_21 dX3_tellWays_37 f181 rfl ?_
          refine aw_iload 0 dX3_tellWays_40 rfl ?_
          refine aw_iald s (rfl) (by omega) (by decide) dX3_tellWays_42 f185 ?_
          refine aw_toe (nI (min 1000000 (f2 s))) (hw2 s bs_) ?_
          refine aw_if_le 64 dX3_tellWays_43 (by decide) (fun c43 => ?_) (fun c43 => ?_)
          · have d43 := (nv_le (a := min 1000000 (f2 s)) (b := 0) (rfl) (rfl) (by omega) (by omega)).mp c43
            refine aw_iload 0 dX3_tellWays_64 rfl ?_
            refine aw_if_ne 73 dX3_tellWays_66 (by decide) (fun c66 => ?_) (fun c66 => ?_)
            · have d66 := mt (nv_eq (a := s) (b := 0) (rfl) (rfl) (by omega) (by omega)).mpr c66
              refine aw_iload 0 dX3_tellWays_73 rfl ?_
              refine aw_iconst (1) dX3_tellWays_75 (by decide) ?_
              refine aw_isub dX3_tellWays_76 ?_
              refine aw_toe (nI (s - 1)) (nv_sub (rfl) (rfl) (by omega)) ?_
              refine aw_iload 1 dX3_tellWays_77 rfl ?_
              refine aw_iand dX3_tellWays_79 ?_
              refine aw_toe (nI ((s - 1) &&& (rc i))) (nv_and (rfl) (rfl)) ?_
              refine aw_istore [(5, .int (nI ((s - 1) &&& (rc i)))), (4, .int (nI (rc i))), (3, .int (nI cm)), (2, .int (nI i)), (1, .ref (G.1 + P)), (0, .ref (G.1 + J))] dX3_tellWays_80 (by decide) rfl ?_
              refine aw_goto 31 dX3_tellWays_82 (by decide) ?_
              refine aw_lv [(5, .int (nI ((s - 1) &&& (rc i)))), (4, .int (nI (rc i))), (3, .int (nI cm)), (2, .int (nI i)), (1, .ref (G.1 + P)), (0, .ref (G.1 + J))] [0, 1, 2, 3, 4, 5] rfl ?_
              have bq : (s - 1) &&& (rc i) ≤ (s - 1) := Nat.and_le_left
              exact ih191 (((s - 1) &&& (rc i)) + 1) (nI ((s - 1) &&& (rc i))) cm wy2 nw2 f2 g2 _ (by omega) (Or.inr ⟨_, by omega, rfl, rfl, sub_in _ _⟩) (yI_n (yI_nx hR hco (by omega) hss (Or.inr ⟨by omega, rfl⟩)) hY (by omega)) (hw2) (hn2) f181 f182 f183 f184 f185 f186 f187 f188 f189 (k190)
            · have d66 := (nv_eq (a := s) (b := 0) (rfl) (rfl) (by omega) (by omega)).mp c66
              refine aw_iconst (-1) dX3_tellWays_69 (by decide) ?_
              refine aw_goto 80 dX3_tellWays_70 (by decide) ?_
              refine aw_istore [(5, .int (-1)), (4, .int (nI (rc i))), (3, .int (nI cm)), (2, .int (nI i)), (1, .ref (G.1 + P)), (0, .ref (G.1 + J))] dX3_tellWays_80 (by decide) rfl ?_
              refine aw_goto 31 dX3_tellWays_82 (by decide) ?_
              refine aw_lv [(5, .int (-1)), (4, .int (nI (rc i))), (3, .int (nI cm)), (2, .int (nI i)), (1, .ref (G.1 + P)), (0, .ref (G.1 + J))] [0, 1, 2, 3, 4, 5] rfl ?_
              exact ih191 0 (-1) cm wy2 nw2 f2 g2 _ (by omega) (Or.inl ⟨rfl, rfl⟩) (yI_n (yI_nx hR hco (by omega) hss (Or.inl ⟨by omega, rfl⟩)) hY (by omega)) (hw2) (hn2) f181 f182 f183 f184 f185 f186 f187 f188 f189 (k190)
          · have d43 := mt (nv_le (a := min 1000000 (f2 s)) (b := 0) (rfl) (rfl) (by omega) (by omega)).mpr c43
            have hO := jO_ok hR hco i (by omega) s ((hY.1 s).mp (by omega)).2
            refine aw_iload_n 2 dX3_tellWays_46 rfl rfl ?_
            refine aw_aload_n 5 dX3_tellWays_47 rfl rfl ?_
            refine aw_iload_n 3 dX3_tellWays_48 rfl rfl ?_
            refine aw_iload 0 dX3_tellWays_49 rfl ?_
            refine aw_eV [.int (nI i), .int (nI s)] [.int (nI cm)] lX3_83 vX3_passOn mX3_passOn dX3_tellWays_51 (aX3_passOn (J := J) (u := u1) (v := v1) (ro := ro) (co := co) (rc := rc) (lk := lk) (bs := bs) (wy := wy2) (nw := nw2) (i := i) (s := s) (x := f2 s) (g := g2) (lx := lx) f181 f182 f183 f184 f185 f186 hu1 hv1 huv1 (by omega) (by omega) hrc hL hR hlx3 hB (by omega) (by omega) hss hO.2.2 (hw2 s bs_) hn2) f181 rfl rfl rfl (Nat.le_of_ble_eq_true rfl) (by decide) (by decide) rfl (fun h194 q193 => ?_)
            obtain ⟨nw1192, f195, f196, f197, f198, f199, f200, k201, p202⟩ := q193
            have f203 := rng_at k201 (by omega) f187
            have f204 := rng_at k201 (by omega) f188
            have f205 := rng_at k201 (by omega) f189
            refine aw_ior dX3_tellWays_54 ?_
            refine aw_toe (nI (cm ||| (jHH lx (jS lx co (ro - i - 1) (i + 1)) i s (jS lx co (ro - i) i s) co))) (nv_or (rfl) (rfl)) ?_
            refine aw_istore_n [(3, .int (nI (cm ||| (jHH lx (jS lx co (ro - i - 1) (i + 1)) i s (jS lx co (ro - i) i s) co)))), (5, .int (nI s)), (4, .int (nI (rc i))), (2, .int (nI i)), (1, .ref (G.1 + P)), (0, .ref (G.1 + J))] dX3_tellWays_55 rfl (by decide) rfl ?_
            refine aw_aload_n 5 dX3_tellWays_56 rfl rfl ?_
            refine aw_get fX3_21 dX3_tellWays_57 f195 rfl ?_
            refine aw_iload 1 dX3_tellWays_60 rfl ?_
            refine aw_iconst (0) dX3_tellWays_62 (by decide) ?_
            refine aw_iast s (rfl) (by omega) (by decide) dX3_tellWays_63 f199 ?_
            refine aw_iload 1 dX3_tellWays_64 rfl ?_
            refine aw_if_ne 73 dX3_tellWays_66 (by decide) (fun c66 => ?_) (fun c66 => ?_)
            · have d66 := mt (nv_eq (a := s) (b := 0) (rfl) (rfl) (by omega) (by omega)).mpr c66
              refine aw_iload 1 dX3_tellWays_73 rfl ?_
              refine aw_iconst (1) dX3_tellWays_75 (by decide) ?_
              refine aw_isub dX3_tellWays_76 ?_
              refine aw_toe (nI (s - 1)) (nv_sub (rfl) (rfl) (by omega)) ?_
              refine aw_iload 2 dX3_tellWays_77 rfl ?_
              refine aw_iand dX3_tellWays_79 ?_
              refine aw_toe (nI ((s - 1) &&& (rc i))) (nv_and (rfl) (rfl)) ?_
              refine aw_istore [(5, .int (nI ((s - 1) &&& (rc i)))), (3, .int (nI (cm ||| (jHH lx (jS lx co (ro - i - 1) (i + 1)) i s (jS lx co (ro - i) i s) co)))), (4, .int (nI (rc i))), (2, .int (nI i)), (1, .ref (G.1 + P)), (0, .ref (G.1 + J))] dX3_tellWays_80 (by decide) rfl ?_
              refine aw_goto 31 dX3_tellWays_82 (by decide) ?_
              refine aw_lv [(5, .int (nI ((s - 1) &&& (rc i)))), (4, .int (nI (rc i))), (3, .int (nI (cm ||| (jHH lx (jS lx co (ro - i - 1) (i + 1)) i s (jS lx co (ro - i) i s) co)))), (2, .int (nI i)), (1, .ref (G.1 + P)), (0, .ref (G.1 + J))] [0, 2, 1, 3, 4, 5] rfl ?_
              have bq : (s - 1) &&& (rc i) ≤ (s - 1) := Nat.and_le_left
              exact ih191 (((s - 1) &&& (rc i)) + 1) (nI ((s - 1) &&& (rc i))) (cm ||| (jHH lx (jS lx co (ro - i - 1) (i + 1)) i s (jS lx co (ro - i) i s) co)) (upd wy2 s 0) nw1192 (un f2 s 0) (gP lx (jS lx co (ro - i - 1) (i + 1)) i s (jS lx co (ro - i) i s) (f2 s) g2 co) _ (by omega) (Or.inr ⟨_, by omega, rfl, rfl, sub_in _ _⟩) (yI_s (yI_nx hR hco (by omega) hss (Or.inr ⟨by omega, rfl⟩)) bs_ hco (by omega) hY (by omega)) (wX_u hw2 (by decide)) (p202) (gn (by omega) (f195)) (gn (by omega) (f196)) (gn (by omega) (f197)) (gn (by omega) (f198)) (gs f199) (gn (by omega) (f200)) (gn (by omega) (f203)) (gn (by omega) (f204)) (gn (by omega) (f205)) (rg2_set (rg2_tr (k190) (rg2_w k201 (by omega))) (by omega))
            · have d66 := (nv_eq (a := s) (b := 0) (rfl) (rfl) (by omega) (by omega)).mp c66
              refine aw_iconst (-1) dX3_tellWays_69 (by decide) ?_
              refine aw_goto 80 dX3_tellWays_70 (by decide) ?_
              refine aw_istore [(5, .int (-1)), (3, .int (nI (cm ||| (jHH lx (jS lx co (ro - i - 1) (i + 1)) i s (jS lx co (ro - i) i s) co)))), (4, .int (nI (rc i))), (2, .int (nI i)), (1, .ref (G.1 + P)), (0, .ref (G.1 + J))] dX3_tellWays_80 (by decide) rfl ?_
              refine aw_goto 31 dX3_tellWays_82 (by decide) ?_
              refine aw_lv [(5, .int (-1)), (4, .int (nI (rc i))), (3, .int (nI (cm ||| (jHH lx (jS lx co (ro - i - 1) (i + 1)) i s (jS lx co (ro - i) i s) co)))), (2, .int (nI i)), (1, .ref (G.1 + P)), (0, .ref (G.1 + J))] [0, 2, 1, 3, 4, 5] rfl ?_
              exact ih191 0 (-1) (cm ||| (jHH lx (jS lx co (ro - i - 1) (i + 1)) i s (jS lx co (ro - i) i s) co)) (upd wy2 s 0) nw1192 (un f2 s 0) (gP lx (jS lx co (ro - i - 1) (i + 1)) i s (jS lx co (ro - i) i s) (f2 s) g2 co) _ (by omega) (Or.inl ⟨rfl, rfl⟩) (yI_s (yI_nx hR hco (by omega) hss (Or.inl ⟨by omega, rfl⟩)) bs_ hco (by omega) hY (by omega)) (wX_u hw2 (by decide)) (p202) (gn (by omega) (f195)) (gn (by omega) (f196)) (gn (by omega) (f197)) (gn (by omega) (f198)) (gs f199) (gn (by omega) (f200)) (gn (by omega) (f203)) (gn (by omega) (f204)) (gn (by omega) (f205)) (rg2_set (rg2_tr (k190) (rg2_w k201 (by omega))) (by omega))
set_option maxHeartbeats 4000000 in
theorem aX3_solve {l : Launch} {G : xG} {h : List va_E} {J u v ro co : Nat} {rc : Nat → Nat} {lk bs wy nw : Nat → Int32} {P pv : Nat} {su wa : Int32} {pt ce : Nat → Int32} {m se ye fi : Nat → Nat} {W Sn Z Ro Co : Nat → Int32} {Ba : Nat → Int64} {nb sp fa ve : Nat} {lx : Nat → Nat → Nat} {a b : Nat} (hJ : h[J]? = some (oB 3 (lJ G J (.ref (G.1 + u)) (.ref (G.1 + v)) (nI ro) (nI co)))) (hJ_1 : h[J + 1]? = some (aI 100 lk)) (hJ_2 : h[J + 2]? = some (aI 11 (nA rc))) (hJ_3 : h[J + 3]? = some (aI 11264 bs)) (hu : h[u]? = some (aI 1024 wy)) (hv : h[v]? = some (aI 1024 nw)) (hP : h[P]? = some (oB 4 (lG G P su wa (nI pv)))) (hP_1 : h[P + 1]? = some (aI 10 pt)) (hP_2 : h[P + 2]? = some (aZ 10 ce)) (h1 : h[1]? = some (oB 1 (lC G (nI nb) (nI sp) (nI fa) (nI ve)))) (h2 : h[2]? = some (aI 20 (nA m))) (h3 : h[3]? = some (aI 20 (nA se))) (h4 : h[4]? = some (aI 4 (nA ye))) (h5 : h[5]? = some (aI 4 (nA fi))) (h6 : h[6]? = some (aI 40 W)) (h7 : h[7]? = some (aI 40 Sn)) (h8 : h[8]? = some (aI 40 Z)) (h9 : h[9]? = some (aI 40 Ro)) (h10 : h[10]? = some (aI 40 Co)) (h11 : h[11]? = some (aL 40 Ba)) (qu : J + 4 ≤ u ∧ u ≤ J + 5) (qv : J + 4 ≤ v ∧ v ≤ J + 5) (quv : (u ≠ v ∧ wZ wy nw)) (hrc : ∀ j, j < 11 → rc j < 1024) (qP : P + 2 < J) (hm : ∀ j, j < 20 → m j ≤ j) (hse : ∀ j, j < 20 → se j < 20) (hfi : ∀ j, j < 4 → fi j < 11) (hye : ∀ j, j < 4 → ye j < 1901) (ba : a < 4) (bb : b < 4) (qJ : 125 ≤ J) (qP1 : 12 < P) (hpt : pB pt) (hlx : ∀ i, i < fi a → ∀ k, k < fi b → likeC ye Sn Z Ro Co Ba sp fa (a * 10 + i) (b * 10 + k) = nI (lx i k)) (hlx3 : ∀ i k, lx i k ≤ 300) : CE l G yX3_solve cX3_solve 5 none 4 0 0 [.ref (G.1 + J), .ref (G.1 + 1), .int (nI a), .int (nI b), .ref (G.1 + P)] h none (fun h1 => ∃ u1 : Nat, ∃ v1 : Nat, ∃ ro1 : Nat, ∃ co1 : Nat, ∃ rc1 : Nat → Nat, ∃ lk1 : Nat → Int32, ∃ bs1 : Nat → Int32, ∃ wy1 : Nat → Int32, ∃ nw1 : Nat → Int32, ∃ su1 : Int32, ∃ wa1 : Int32, ∃ pt1 : Nat → Int32, ∃ ce1 : Nat → Int32, h1[J]? = some (oB 3 (lJ G J (.ref (G.1 + u1)) (.ref (G.1 + v1)) (nI ro1) (nI co1))) ∧ h1[J + 1]? = some (aI 100 lk1) ∧ h1[J + 2]? = some (aI 11 (nA rc1)) ∧ h1[J + 3]? = some (aI 11264 bs1) ∧ h1[u1]? = some (aI 1024 wy1) ∧ h1[v1]? = some (aI 1024 nw1) ∧ h1[P]? = some (oB 4 (lG G P su1 wa1 (nI pv))) ∧ h1[P + 1]? = some (aI 10 pt1) ∧ h1[P + 2]? = some (aZ 10 ce1) ∧ rg2 P (P + 2) J (J + 5) h h1 ∧ (J + 4 ≤ u1 ∧ u1 ≤ J + 5) ∧ (J + 4 ≤ v1 ∧ v1 ≤ J + 5) ∧ (u1 ≠ v1 ∧ wZ wy1 nw1) ∧ (∀ j, j < 11 → rc1 j < 1024) ∧ pB pt1 ∧ jK lx (fi a) (fi b) su1 wa1 pt1 ce1) := by
  refine cm_ofQ rfl (Nat.le_of_ble_eq_true rfl) [(0, .ref (G.1 + J)), (1, .ref (G.1 + 1)), (2, .int (nI a)), (3, .int (nI b)), (4, .ref (G.1 + P))] rfl (fun QF hQF => ?_)
  refine aw_aload_n 0 dX3_solve_0 rfl rfl ?_
  refine aw_aload_n 1 dX3_solve_1 rfl rfl ?_
  refine aw_get fX3_34 dX3_solve_2 h1 rfl ?_
  refine aw_iload_n 2 dX3_solve_5 rfl rfl ?_
  refine aw_iald a (rfl) (by omega) (by decide) dX3_solve_6 h5 ?_
  refine aw_toe (nI (fi a)) (rfl) ?_
  have b206 := hfi a (by omega)
  refine aw_putQ fX3_27 dX3_solve_7 (lJ G J (.ref (G.1 + u)) (.ref (G.1 + v)) (nI (fi a)) (nI co)) hJ rfl rfl rfl (Nat.le_of_ble_eq_true rfl) rfl ?_
  refine aw_aload_n 0 dX3_solve_10 rfl rfl ?_
  refine aw_aload_n 1 dX3_solve_11 rfl rfl ?_
  refine aw_get fX3_34 dX3_solve_12 (gn (by omega) (h1)) rfl ?_
  refine aw_iload_n 3 dX3_solve_15 rfl rfl ?_
  refine aw_iald b (rfl) (by omega) (by decide) dX3_solve_16 (gn (by omega) (h5)) ?_
  refine aw_toe (nI (fi b)) (rfl) ?_
  have b207 := hfi b (by omega)
  refine aw_putQ fX3_31 dX3_solve_17 (lJ G J (.ref (G.1 + u)) (.ref (G.1 + v)) (nI (fi a)) (nI (fi b))) (gs hJ) rfl rfl rfl (Nat.le_of_ble_eq_true rfl) rfl ?_
  refine aw_aload_n 0 dX3_solve_20 rfl rfl ?_
  refine aw_aload_n 1 dX3_solve_21 rfl rfl ?_
  refine aw_iload_n 2 dX3_solve_22 rfl rfl ?_
  refine aw_iload_n 3 dX3_solve_23 rfl rfl ?_
  refine aw_eW [.ref (G.1 + 1), .int (nI a), .int (nI b)] [] lX3_39 vX3_readLikes mX3_readLikes dX3_solve_24 (aX3_readLikes (J := J) (u := u) (v := v) (ro := fi a) (co := fi b) (rc := rc) (lk := lk) (bs := bs) (wy := wy) (nw := nw) (m := m) (se := se) (ye := ye) (fi := fi) (W := W) (Sn := Sn) (Z := Z) (Ro := Ro) (Co := Co) (Ba := Ba) (nb := nb) (sp := sp) (fa := fa) (ve := ve) (a := a) (b := b) (gs (gs hJ)) (gn (by omega) (gn (by omega) (hJ_1))) (gn (by omega) (gn (by omega) (hJ_2))) (gn (by omega) (gn (by omega) (hJ_3))) (gn (by omega) (gn (by omega) (hu))) (gn (by omega) (gn (by omega) (hv))) (gn (by omega) (gn (by omega) (h1))) (gn (by omega) (gn (by omega) (h2))) (gn (by omega) (gn (by omega) (h3))) (gn (by omega) (gn (by omega) (h4))) (gn (by omega) (gn (by omega) (h5))) (gn (by omega) (gn (by omega) (h6))) (gn (by omega) (gn (by omega) (h7))) (gn (by omega) (gn (by omega) (h8))) (gn (by omega) (gn (by omega) (h9))) (gn (by omega) (gn (by omega) (h10))) (gn (by omega) (gn (by omega) (h11))) (by omega) (by omega) (by omega) (by omega) (by omega) hrc hm hse hfi hye (by omega) (by omega) (by omega) hlx hlx3) (gs (gs hJ)) rfl rfl rfl (Nat.le_of_ble_eq_true rfl) (by decide) (by decide) rfl (fun h211 q210 => ?_)
  obtain ⟨lk1208, rc1209, f212, f213, f214, f215, f216, f217, k218, p219, p220, p221⟩ := q210
  have f222 := rng_at k218 (by omega) (gn (by omega) (gn (by omega) (hP)))
  have f223 := rng_at k218 (by omega) (gn (by omega) (gn (by omega) (hP_1)))
  have f224 := rng_at k218 (by omega) (gn (by omega) (gn (by omega) (hP_2)))
  have f225 := rng_at k218 (by omega) (gn (by omega) (gn (by omega) (h1)))
  have f226 := rng_at k218 (by omega) (gn (by omega) (gn (by omega) (h2)))
  have f227 := rng_at k218 (by omega) (gn (by omega) (gn (by omega) (h3)))
  have f228 := rng_at k218 (by omega) (gn (by omega) (gn (by omega) (h4)))
  have f229 := rng_at k218 (by omega) (gn (by omega) (gn (by omega) (h5)))
  have f230 := rng_at k218 (by omega) (gn (by omega) (gn (by omega) (h6)))
  have f231 := rng_at k218 (by omega) (gn (by omega) (gn (by omega) (h7)))
  have f232 := rng_at k218 (by omega) (gn (by omega) (gn (by omega) (h8)))
  have f233 := rng_at k218 (by omega) (gn (by omega) (gn (by omega) (h9)))
  have f234 := rng_at k218 (by omega) (gn (by omega) (gn (by omega) (h10)))
  have f235 := rng_at k218 (by omega) (gn (by omega) (gn (by omega) (h11)))
  clear hrc
  have hrc := p219
  have hL := p220
  have hR := p221
  refine aw_aload_n 0 dX3_solve_27 rfl rfl ?_
  refine aw_eW [] [] lX3_43 vX3_weighStates mX3_weighStates dX3_solve_28 (aX3_weighStates (J := J) (u := u) (v := v) (ro := (fi a)) (co := (fi b)) (rc := rc1209) (lk := lk1208) (bs := bs) (wy := wy) (nw := nw) f212 f213 f214 f215 f216 f217 (by omega) (by omega) (by omega) (by omega) (by omega) hrc hL hR hlx3) f212 rfl rfl rfl (Nat.le_of_ble_eq_true rfl) (by decide) (by decide) rfl (fun h238 q237 => ?_)
  obtain ⟨bs1236, f239, f240, f241, f242, f243, f244, k245, p246⟩ := q237
  have f247 := rng_at k245 (by omega) f222
  have f248 := rng_at k245 (by omega) f223
  have f249 := rng_at k245 (by omega) f224
  have f250 := rng_at k245 (by omega) f225
  have f251 := rng_at k245 (by omega) f226
  have f252 := rng_at k245 (by omega) f227
  have f253 := rng_at k245 (by omega) f228
  have f254 := rng_at k245 (by omega) f229
  have f255 := rng_at k245 (by omega) f230
  have f256 := rng_at k245 (by omega) f231
  have f257 := rng_at k245 (by omega) f232
  have f258 := rng_at k245 (by omega) f233
  have f259 := rng_at k245 (by omega) f234
  have f260 := rng_at k245 (by omega) f235
  have hB := p246
  refine aw_aload 4 dX3_solve_31 rfl ?_
  refine aw_aload_n 0 dX3_solve_33 rfl rfl ?_
  refine aw_get fX3_18 dX3_solve_34 f239 rfl ?_
  refine aw_iconst (0) dX3_solve_37 (by decide) ?_
  refine aw_iald 0 (rfl) (by decide) (by decide) dX3_solve_38 f242 ?_
  refine aw_putQ fX3_46 dX3_solve_39 (lG G P (bs1236 0) wa (nI pv)) f247 rfl rfl rfl (Nat.le_of_ble_eq_true rfl) rfl ?_
  refine aw_aload_n 0 dX3_solve_42 rfl rfl ?_
  refine aw_aload 4 dX3_solve_43 rfl ?_
  refine aw_eW [.ref (G.1 + P)] [] lX3_51 vX3_tellFirst mX3_tellFirst dX3_solve_45 (aX3_tellFirst (J := J) (u := u) (v := v) (ro := (fi a)) (co := (fi b)) (rc := rc1209) (lk := lk1208) (bs := bs1236) (wy := wy) (nw := nw) (P := P) (pv := pv) (su := bs1236 0) (wa := wa) (pt := pt) (ce := ce) (gn (by omega) (f239)) (gn (by omega) (f240)) (gn (by omega) (f241)) (gn (by omega) (f242)) (gn (by omega) (f243)) (gn (by omega) (f244)) (gs f247) (gn (by omega) (f248)) (gn (by omega) (f249)) (by omega) (by omega) (by omega) (by omega) (by omega) hrc (by omega) (by omega) hL hR hlx3 hB) (gn (by omega) (f239)) rfl rfl rfl (Nat.le_of_ble_eq_true rfl) (by decide) (by decide) rfl (fun h263 q262 => ?_)
  obtain ⟨pt1261, f264, f265, f266, k267, p268, p269⟩ := q262
  have f270 := rng_at k267 (by omega) (gn (by omega) (f239))
  have f271 := rng_at k267 (by omega) (gn (by omega) (f240))
  have f272 := rng_at k267 (by omega) (gn (by omega) (f241))
  have f273 := rng_at k267 (by omega) (gn (by omega) (f242))
  have f274 := rng_at k267 (by omega) (gn (by omega) (f243))
  have f275 := rng_at k267 (by omega) (gn (by omega) (f244))
  have f276 := rng_at k267 (by omega) (gn (by omega) (f250))
  have f277 := rng_at k267 (by omega) (gn (by omega) (f251))
  have f278 := rng_at k267 (by omega) (gn (by omega) (f252))
  have f279 := rng_at k267 (by omega) (gn (by omega) (f253))
  have f280 := rng_at k267 (by omega) (gn (by omega) (f254))
  have f281 := rng_at k267 (by omega) (gn (by omega) (f255))
  have f282 := rng_at k267 (by omega) (gn (by omega) (f256))
  have f283 := rng_at k267 (by omega) (gn (by omega) (f257))
  have f284 := rng_at k267 (by omega) (gn (by omega) (f258))
  have f285 := rng_at k267 (by omega) (gn (by omega) (f259))
  have f286 := rng_at k267 (by omega) (gn (by omega) (f260))
  refine aw_aload_n 0 dX3_solve_48 rfl rfl ?_
  refine aw_aload 4 dX3_solve_49 rfl ?_
  refine aw_eW [.ref (G.1 + P)] [] lX3_55 vX3_tellWays mX3_tellWays dX3_solve_51 (aX3_tellWays (J := J) (u := u) (v := v) (ro := (fi a)) (co := (fi b)) (rc := rc1209) (lk := lk1208) (bs := bs1236) (wy := wy) (nw := nw) (P := P) (pv := pv) (su := (bs1236 0)) (wa := wa) (pt := pt1261) (ce := ce) f270 f271 f272 f273 f274 f275 f264 f265 f266 (by omega) (by omega) (by omega) (by omega) hrc quv (by omega) hL hR hlx3 hB) f270 rfl rfl rfl (Nat.le_of_ble_eq_true rfl) (by decide) (by decide) rfl (fun h294 q293 => ?_)
  obtain ⟨u1287, v1288, wy1289, nw1290, wa1291, ce1292, f295, f296, f297, f298, f299, f300, f301, f302, f303, k304, p305, p306, p307, p308, p309⟩ := q293
  have f310 := rg2_at k304 (by omega) f276
  have f311 := rg2_at k304 (by omega) f277
  have f312 := rg2_at k304 (by omega) f278
  have f313 := rg2_at k304 (by omega) f279
  have f314 := rg2_at k304 (by omega) f280
  have f315 := rg2_at k304 (by omega) f281
  have f316 := rg2_at k304 (by omega) f282
  have f317 := rg2_at k304 (by omega) f283
  have f318 := rg2_at k304 (by omega) f284
  have f319 := rg2_at k304 (by omega) f285
  have f320 := rg2_at k304 (by omega) f286
  subst hQF
  exact aw_vret rfl dX3_solve_54 (by decide) (by decide) ⟨rfl, _, _, _, _, _, _, _, _, _, _, _, _, _, f295, f296, f297, f298, f299, f300, f301, f302, f303, rg2_tr (rg2_tr (rg2_set (rg2_tr (rg2_tr (rg2_set (rg2_set (rg2_rf P (P + 2) J (J + 5) h) (by omega)) (by omega)) (rg2_w k218 (by omega))) (rg2_w k245 (by omega))) (by omega)) (rg2_w k267 (by omega))) (rg2_w2 k304 (by omega) (by omega)), p305, p306, p307, hrc, p268, ⟨jB_00 hB, p269, p308, p309⟩⟩
abbrev lX (G : xG) (a b : Value) : List Value := [.ref (G.1 + 1), .ref (G.1 + 12), .ref (G.1 + 61), .ref (G.1 + 69), .ref (G.1 + 77), .ref (G.1 + 79), .ref (G.1 + 84), .ref (G.1 + 87), a, b]
theorem j_lt {x z : Int32} {a b : Int} (ha : x.toInt = a) (hb : z.toInt = b) : x < z ↔ a < b := by rw [i_lt, ha, hb]
theorem j_le {x z : Int32} {a b : Int} (ha : x.toInt = a) (hb : z.toInt = b) : x ≤ z ↔ a ≤ b := by rw [i_le, ha, hb]
theorem j_eq {x z : Int32} {a b : Int} (ha : x.toInt = a) (hb : z.toInt = b) : x = z ↔ a = b := by rw [i_eq, ha, hb]
def tn (x : Int32) : Nat := x.toInt.toNat
theorem tn_nI {a : Nat} (h : a < 2 ^ 31) : tn (nI a) = a := by unfold tn; rw [nI_toInt h]; simp
/-- what is wrong with two days -/
def dyF (d k : Int32) : Int32 := if d.toInt < 0 ∨ k.toInt < 0 then -4 else if 80000 < d.toInt ∨ 80000 < k.toInt then -6 else 0
theorem dyF_q (d k : Int32) : dyF d k = 0 ∨ ∃ q, q < 7 ∧ dyF d k = -(nI q) := by
  unfold dyF
  split
  · exact Or.inr ⟨4, by decide, by decide⟩
  · split
    · exact Or.inr ⟨6, by decide, by decide⟩
    · exact Or.inl rfl
theorem dyF_0 {d k : Int32} (h : dyF d k = 0) : 0 ≤ d.toInt ∧ d.toInt ≤ 80000 ∧ 0 ≤ k.toInt ∧ k.toInt ≤ 80000 := by
  unfold dyF at h
  split at h
  · exact absurd h (by decide)
  · split at h
    · exact absurd h (by decide)
    · omega
def wrF (v lo hi : Int32) : Int32 := if v.toInt < lo.toInt then -4 else if hi.toInt < v.toInt then -6 else 0
theorem wrF_q (v lo hi : Int32) : wrF v lo hi = 0 ∨ ∃ q, q < 7 ∧ wrF v lo hi = -(nI q) := by
  unfold wrF
  split
  · exact Or.inr ⟨4, by decide, by decide⟩
  · split
    · exact Or.inr ⟨6, by decide, by decide⟩
    · exact Or.inl rfl
theorem wrF_0 {v lo hi : Int32} (h : wrF v lo hi = 0) : lo.toInt ≤ v.toInt ∧ v.toInt ≤ hi.toInt := by
  unfold wrF at h
  split at h
  · exact absurd h (by decide)
  · split at h
    · exact absurd h (by decide)
    · omega
def shR (w : Int32) : Int32 := if w.toInt = 0 ∨ ¬ (0 ≤ w.toInt ∧ w.toInt < 4096) then -1 else if 8 < popN (tn w) then -6 else 0
theorem shR_q (w : Int32) : shR w = 0 ∨ ∃ q, q < 7 ∧ shR w = -(nI q) := by
  unfold shR
  split
  · exact Or.inr ⟨1, by decide, by decide⟩
  · split
    · exact Or.inr ⟨6, by decide, by decide⟩
    · exact Or.inl rfl
theorem shR_0 {w : Int32} (h : shR w = 0) : 0 < w.toInt ∧ w.toInt < 4096 ∧ popN (tn w) ≤ 8 := by
  unfold shR at h
  split at h
  · exact absurd h (by decide)
  · split at h
    · exact absurd h (by decide)
    · omega
theorem neg_nI {q : Nat} : -(-(nI q)) = nI q := by
  apply Int32.toBitVec_inj.mp
  show -(-(BitVec.ofNat 32 q)) = BitVec.ofNat 32 q
  exact BitVec.neg_neg
/-- the answers and the new data of the calls that change something -/
def spMeans (m : Nat → Nat) (w o : Int32) : Int32 × (Nat → Nat) :=
  if (0 ≤ w.toInt ∧ w.toInt < 20) ∧ (0 ≤ o.toInt ∧ o.toInt < 20) then (if w.toInt < o.toInt then (-4, m) else (nI (m (tn w)), un m (tn w) (tn o))) else (-1, m)
def spSense (m : Nat → Nat) (w : Int32) : Int32 := if 0 ≤ w.toInt ∧ w.toInt < 20 then nI (root m (tn w)) else -1
def spYear (ye : Nat → Nat) (c y : Int32) : Int32 × (Nat → Nat) :=
  if 0 ≤ c.toInt ∧ c.toInt < 4 then (if y.toInt < 1500 then (-4, ye) else if 1900 < y.toInt then (-6, ye) else (nI (ye (tn c)), un ye (tn c) (tn y))) else (-1, ye)
def spEntryC (fi : Nat → Nat) (c w s r u : Int32) : Int32 :=
  if (0 ≤ c.toInt ∧ c.toInt < 4) ∧ (0 ≤ w.toInt ∧ w.toInt < 1048576) then (if w.toInt = 0 ∨ s.toInt < 1 ∨ r.toInt < 0 ∨ u.toInt < 0 then -4 else if 200 < s.toInt ∨ 9 < r.toInt ∨ 99 < u.toInt ∨ 10 ≤ fi (tn c) then -6 else nI (fi (tn c))) else -1
def spUp (fi : Nat → Nat) (c : Int32) (ok : Prop) [Decidable ok] (f : Nat → Int32) (v : Int32) : Nat → Int32 := if ok then upd f (tn c * 10 + fi (tn c)) v else f
def spSet (sp fa : Nat) (q v : Int32) : Int32 × Nat × Nat :=
  if q.toInt = 0 ∨ q.toInt = 1 then (if v.toInt < 0 then (-4, sp, fa) else if (if q.toInt = 0 then 50 else 9) < v.toInt then (-6, sp, fa) else if q.toInt = 0 then (nI sp, tn v, fa) else (nI fa, sp, tn v)) else (-2, sp, fa)
def spPart (kd : Nat → Nat) (p k : Int32) : Int32 × (Nat → Nat) :=
  if 0 ≤ p.toInt ∧ p.toInt < 10 then (if k.toInt < 0 then (-4, kd) else if 6 ≤ k.toInt then (-6, kd) else (nI (kd (tn p)), un kd (tn p) (tn k))) else (-1, kd)
set_option maxHeartbeats 4000000 in
theorem bX8_isWord {l : Launch} {G : xG} {h : List va_E} {x : Int32}   : CD l G yX8_isWord cX8_isWord 1 (some .boolean) 0 0 0 [.int x] h (some (.int (if (0 ≤ x.toInt ∧ x.toInt < 20) then 1 else 0))) h := by
  refine cm_ofQ rfl (Nat.le_of_ble_eq_true rfl) [(0, .int x)] rfl (fun QF hQF => ?_)
  refine aw_iload_n 0 dX8_isWord_0 rfl rfl ?_
  refine aw_if_lt 14 dX8_isWord_1 (by decide) (fun c1 => ?_) (fun c1 => ?_)
  · have d1 := (j_lt (a := x.toInt) (b := (0)) (rfl) (rfl)).mp c1
    refine aw_iconst (0) dX8_isWord_14 (by decide) ?_
    subst hQF
    exact aw_zret rfl rfl dX8_isWord_15 (by decide) (by decide) ⟨by rw [if_neg (by omega)], rfl⟩
  · have d1 := mt (j_lt (a := x.toInt) (b := (0)) (rfl) (rfl)).mpr c1
    refine aw_iload_n 0 dX8_isWord_4 rfl rfl ?_
    refine aw_bipush (20) dX8_isWord_5 (by decide) ?_
    refine aw_icmp_ge 14 dX8_isWord_7 (by decide) (fun c7 => ?_) (fun c7 => ?_)
    · have d7 := (j_le (a := (20)) (b := x.toInt) (rfl) (rfl)).mp c7
      refine aw_iconst (0) dX8_isWord_14 (by decide) ?_
      subst hQF
      exact aw_zret rfl rfl dX8_isWord_15 (by decide) (by decide) ⟨by rw [if_neg (by omega)], rfl⟩
    · have d7 := mt (j_le (a := (20)) (b := x.toInt) (rfl) (rfl)).mpr c7
      refine aw_iconst (1) dX8_isWord_10 (by decide) ?_
      refine aw_goto 15 dX8_isWord_11 (by decide) ?_
      subst hQF
      exact aw_zret rfl rfl dX8_isWord_15 (by decide) (by decide) ⟨by rw [if_pos (by omega)], rfl⟩
set_option maxHeartbeats 4000000 in
theorem bX8_isCatalogue {l : Launch} {G : xG} {h : List va_E} {x : Int32}   : CD l G yX8_isCatalogue cX8_isCatalogue 1 (some .boolean) 0 0 0 [.int x] h (some (.int (if (0 ≤ x.toInt ∧ x.toInt < 4) then 1 else 0))) h := by
  refine cm_ofQ rfl (Nat.le_of_ble_eq_true rfl) [(0, .int x)] rfl (fun QF hQF => ?_)
  refine aw_iload_n 0 dX8_isCatalogue_0 rfl rfl ?_
  refine aw_if_lt 13 dX8_isCatalogue_1 (by decide) (fun c1 => ?_) (fun c1 => ?_)
  · have d1 := (j_lt (a := x.toInt) (b := (0)) (rfl) (rfl)).mp c1
    refine aw_iconst (0) dX8_isCatalogue_13 (by decide) ?_
    subst hQF
    exact aw_zret rfl rfl dX8_isCatalogue_14 (by decide) (by decide) ⟨by rw [if_neg (by omega)], rfl⟩
  · have d1 := mt (j_lt (a := x.toInt) (b := (0)) (rfl) (rfl)).mpr c1
    refine aw_iload_n 0 dX8_isCatalogue_4 rfl rfl ?_
    refine aw_iconst (4) dX8_isCatalogue_5 (by decide) ?_
    refine aw_icmp_ge 13 dX8_isCatalogue_6 (by decide) (fun c6 => ?_) (fun c6 => ?_)
    · have d6 := (j_le (a := (4)) (b := x.toInt) (rfl) (rfl)).mp c6
      refine aw_iconst (0) dX8_isCatalogue_13 (by decide) ?_
      subst hQF
      exact aw_zret rfl rfl dX8_isCatalogue_14 (by decide) (by decide) ⟨by rw [if_neg (by omega)], rfl⟩
    · have d6 := mt (j_le (a := (4)) (b := x.toInt) (rfl) (rfl)).mpr c6
      refine aw_iconst (1) dX8_isCatalogue_9 (by decide) ?_
      refine aw_goto 14 dX8_isCatalogue_10 (by decide) ?_
      subst hQF
      exact aw_zret rfl rfl dX8_isCatalogue_14 (by decide) (by decide) ⟨by rw [if_pos (by omega)], rfl⟩
set_option maxHeartbeats 4000000 in
theorem bX8_isThing {l : Launch} {G : xG} {h : List va_E} {x : Int32}   : CD l G yX8_isThing cX8_isThing 1 (some .boolean) 0 0 0 [.int x] h (some (.int (if (0 ≤ x.toInt ∧ x.toInt < 12) then 1 else 0))) h := by
  refine cm_ofQ rfl (Nat.le_of_ble_eq_true rfl) [(0, .int x)] rfl (fun QF hQF => ?_)
  refine aw_iload_n 0 dX8_isThing_0 rfl rfl ?_
  refine aw_if_lt 14 dX8_isThing_1 (by decide) (fun c1 => ?_) (fun c1 => ?_)
  · have d1 := (j_lt (a := x.toInt) (b := (0)) (rfl) (rfl)).mp c1
    refine aw_iconst (0) dX8_isThing_14 (by decide) ?_
    subst hQF
    exact aw_zret rfl rfl dX8_isThing_15 (by decide) (by decide) ⟨by rw [if_neg (by omega)], rfl⟩
  · have d1 := mt (j_lt (a := x.toInt) (b := (0)) (rfl) (rfl)).mpr c1
    refine aw_iload_n 0 dX8_isThing_4 rfl rfl ?_
    refine aw_bipush (12) dX8_isThing_5 (by decide) ?_
    refine aw_icmp_ge 14 dX8_isThing_7 (by decide) (fun c7 => ?_) (fun c7 => ?_)
    · have d7 := (j_le (a := (12)) (b := x.toInt) (rfl) (rfl)).mp c7
      refine aw_iconst (0) dX8_isThing_14 (by decide) ?_
      subst hQF
      exact aw_zret rfl rfl dX8_isThing_15 (by decide) (by decide) ⟨by rw [if_neg (by omega)], rfl⟩
    · have d7 := mt (j_le (a := (12)) (b := x.toInt) (rfl) (rfl)).mpr c7
      refine aw_iconst (1) dX8_isThing_10 (by decide) ?_
      refine aw_goto 15 dX8_isThing_11 (by decide) ?_
      subst hQF
      exact aw_zret rfl rfl dX8_isThing_15 (by decide) (by decide) ⟨by rw [if_pos (by omega)], rfl⟩
set_option maxHeartbeats 4000000 in
theorem bX8_needsTwo {l : Launch} {G : xG} {h : List va_E} {x : Int32}   : CD l G yX8_needsTwo cX8_needsTwo 1 (some .boolean) 0 0 0 [.int x] h (some (.int (if (x.toInt = 0 ∨ x.toInt = 1) then 1 else 0))) h := by
  refine cm_ofQ rfl (Nat.le_of_ble_eq_true rfl) [(0, .int x)] rfl (fun QF hQF => ?_)
  refine aw_iload_n 0 dX8_needsTwo_0 rfl rfl ?_
  refine aw_if_eq 9 dX8_needsTwo_1 (by decide) (fun c1 => ?_) (fun c1 => ?_)
  · have d1 := (j_eq (a := x.toInt) (b := (0)) (rfl) (rfl)).mp c1
    refine aw_iconst (1) dX8_needsTwo_9 (by decide) ?_
    refine aw_goto 14 dX8_needsTwo_10 (by decide) ?_
    subst hQF
    exact aw_zret rfl rfl dX8_needsTwo_14 (by decide) (by decide) ⟨by rw [if_pos (by omega)], rfl⟩
  · have d1 := mt (j_eq (a := x.toInt) (b := (0)) (rfl) (rfl)).mpr c1
    refine aw_iload_n 0 dX8_needsTwo_4 rfl rfl ?_
    refine aw_iconst (1) dX8_needsTwo_5 (by decide) ?_
    refine aw_icmp_ne 13 dX8_needsTwo_6 (by decide) (fun c6 => ?_) (fun c6 => ?_)
    · have d6 := mt (j_eq (a := x.toInt) (b := (1)) (rfl) (rfl)).mpr c6
      refine aw_iconst (0) dX8_needsTwo_13 (by decide) ?_
      subst hQF
      exact aw_zret rfl rfl dX8_needsTwo_14 (by decide) (by decide) ⟨by rw [if_neg (by omega)], rfl⟩
    · have d6 := (j_eq (a := x.toInt) (b := (1)) (rfl) (rfl)).mp c6
      refine aw_iconst (1) dX8_needsTwo_9 (by decide) ?_
      refine aw_goto 14 dX8_needsTwo_10 (by decide) ?_
      subst hQF
      exact aw_zret rfl rfl dX8_needsTwo_14 (by decide) (by decide) ⟨by rw [if_pos (by omega)], rfl⟩
set_option maxHeartbeats 4000000 in
theorem bX8_areTwo {l : Launch} {G : xG} {h : List va_E} {a b : Int32}   : CD l G yX8_areTwo cX8_areTwo 2 (some .boolean) 1 0 0 [.int a, .int b] h (some (.int (if ((0 ≤ a.toInt ∧ a.toInt < 4) ∧ (0 ≤ b.toInt ∧ b.toInt < 4) ∧ a.toInt ≠ b.toInt) then 1 else 0))) h := by
  refine cm_ofQ rfl (Nat.le_of_ble_eq_true rfl) [(0, .int a), (1, .int b)] rfl (fun QF hQF => ?_)
  refine aw_iload_n 0 dX8_areTwo_0 rfl rfl ?_
  refine aw_dS [.int a] [] lX8_81 sX8_isCatalogue mX8_isCatalogue dX8_areTwo_1 (bX8_isCatalogue (x := a) ) rfl (Nat.le_of_ble_eq_true rfl) (by decide) (by decide) rfl ?_
  refine aw_if_eq 23 dX8_areTwo_4 (by decide) (fun c4 => ?_) (fun c4 => ?_)
  · have t4 := ite_0 c4
    refine aw_iconst (0) dX8_areTwo_23 (by decide) ?_
    subst hQF
    exact aw_zret rfl rfl dX8_areTwo_24 (by decide) (by decide) ⟨by rw [if_neg (by omega)], rfl⟩
  · have t4 := ite_1 c4
    refine aw_iload_n 1 dX8_areTwo_7 rfl rfl ?_
    refine aw_dS [.int b] [] lX8_81 sX8_isCatalogue mX8_isCatalogue dX8_areTwo_8 (bX8_isCatalogue (x := b) ) rfl (Nat.le_of_ble_eq_true rfl) (by decide) (by decide) rfl ?_
    refine aw_if_eq 23 dX8_areTwo_11 (by decide) (fun c11 => ?_) (fun c11 => ?_)
    · have t11 := ite_0 c11
      refine aw_iconst (0) dX8_areTwo_23 (by decide) ?_
      subst hQF
      exact aw_zret rfl rfl dX8_areTwo_24 (by decide) (by decide) ⟨by rw [if_neg (by omega)], rfl⟩
    · have t11 := ite_1 c11
      refine aw_iload_n 0 dX8_areTwo_14 rfl rfl ?_
      refine aw_iload_n 1 dX8_areTwo_15 rfl rfl ?_
      refine aw_icmp_eq 23 dX8_areTwo_16 (by decide) (fun c16 => ?_) (fun c16 => ?_)
      · have d16 := (j_eq (a := a.toInt) (b := b.toInt) (rfl) (rfl)).mp c16
        refine aw_iconst (0) dX8_areTwo_23 (by decide) ?_
        subst hQF
        exact aw_zret rfl rfl dX8_areTwo_24 (by decide) (by decide) ⟨by rw [if_neg (by omega)], rfl⟩
      · have d16 := mt (j_eq (a := a.toInt) (b := b.toInt) (rfl) (rfl)).mpr c16
        refine aw_iconst (1) dX8_areTwo_19 (by decide) ?_
        refine aw_goto 24 dX8_areTwo_20 (by decide) ?_
        subst hQF
        exact aw_zret rfl rfl dX8_areTwo_24 (by decide) (by decide) ⟨by rw [if_pos (by omega)], rfl⟩
set_option maxHeartbeats 4000000 in
theorem bX8_hasOtherBits20 {l : Launch} {G : xG} {h : List va_E} {x : Int32}   : CD l G yX8_hasOtherBits cX8_hasOtherBits 2 (some .boolean) 0 0 0 [.int x, .int 20] h (some (.int (if (¬ (0 ≤ x.toInt ∧ x.toInt < 1048576)) then 1 else 0))) h := by
  refine cm_ofQ rfl (Nat.le_of_ble_eq_true rfl) [(0, .int x), (1, .int 20)] rfl (fun QF hQF => ?_)
  refine aw_iload_n 0 dX8_hasOtherBits_0 rfl rfl ?_
  refine aw_if_lt 11 dX8_hasOtherBits_1 (by decide) (fun c1 => ?_) (fun c1 => ?_)
  · have d1 := (j_lt (a := x.toInt) (b := (0)) (rfl) (rfl)).mp c1
    refine aw_iconst (1) dX8_hasOtherBits_11 (by decide) ?_
    refine aw_goto 16 dX8_hasOtherBits_12 (by decide) ?_
    subst hQF
    exact aw_zret rfl rfl dX8_hasOtherBits_16 (by decide) (by decide) ⟨by rw [if_pos (by omega)], rfl⟩
  · have d1 := mt (j_lt (a := x.toInt) (b := (0)) (rfl) (rfl)).mpr c1
    refine aw_iload_n 0 dX8_hasOtherBits_4 rfl rfl ?_
    refine aw_iconst (1) dX8_hasOtherBits_5 (by decide) ?_
    refine aw_iload_n 1 dX8_hasOtherBits_6 rfl rfl ?_
    refine aw_ishl dX8_hasOtherBits_7 ?_
    refine aw_toe 1048576 (by decide) ?_
    refine aw_icmp_lt 15 dX8_hasOtherBits_8 (by decide) (fun c8 => ?_) (fun c8 => ?_)
    · have d8 := (j_lt (a := x.toInt) (b := (1048576)) (rfl) (rfl)).mp c8
      refine aw_iconst (0) dX8_hasOtherBits_15 (by decide) ?_
      subst hQF
      exact aw_zret rfl rfl dX8_hasOtherBits_16 (by decide) (by decide) ⟨by rw [if_neg (by omega)], rfl⟩
    · have d8 := mt (j_lt (a := x.toInt) (b := (1048576)) (rfl) (rfl)).mpr c8
      refine aw_iconst (1) dX8_hasOtherBits_11 (by decide) ?_
      refine aw_goto 16 dX8_hasOtherBits_12 (by decide) ?_
      subst hQF
      exact aw_zret rfl rfl dX8_hasOtherBits_16 (by decide) (by decide) ⟨by rw [if_pos (by omega)], rfl⟩
set_option maxHeartbeats 4000000 in
theorem bX8_hasOtherBits12 {l : Launch} {G : xG} {h : List va_E} {x : Int32}   : CD l G yX8_hasOtherBits cX8_hasOtherBits 2 (some .boolean) 0 0 0 [.int x, .int 12] h (some (.int (if (¬ (0 ≤ x.toInt ∧ x.toInt < 4096)) then 1 else 0))) h := by
  refine cm_ofQ rfl (Nat.le_of_ble_eq_true rfl) [(0, .int x), (1, .int 12)] rfl (fun QF hQF => ?_)
  refine aw_iload_n 0 dX8_hasOtherBits_0 rfl rfl ?_
  refine aw_if_lt 11 dX8_hasOtherBits_1 (by decide) (fun c1 => ?_) (fun c1 => ?_)
  · have d1 := (j_lt (a := x.toInt) (b := (0)) (rfl) (rfl)).mp c1
    refine aw_iconst (1) dX8_hasOtherBits_11 (by decide) ?_
    refine aw_goto 16 dX8_hasOtherBits_12 (by decide) ?_
    subst hQF
    exact aw_zret rfl rfl dX8_hasOtherBits_16 (by decide) (by decide) ⟨by rw [if_pos (by omega)], rfl⟩
  · have d1 := mt (j_lt (a := x.toInt) (b := (0)) (rfl) (rfl)).mpr c1
    refine aw_iload_n 0 dX8_hasOtherBits_4 rfl rfl ?_
    refine aw_iconst (1) dX8_hasOtherBits_5 (by decide) ?_
    refine aw_iload_n 1 dX8_hasOtherBits_6 rfl rfl ?_
    refine aw_ishl dX8_hasOtherBits_7 ?_
    refine aw_toe 4096 (by decide) ?_
    refine aw_icmp_lt 15 dX8_hasOtherBits_8 (by decide) (fun c8 => ?_) (fun c8 => ?_)
    · have d8 := (j_lt (a := x.toInt) (b := (4096)) (rfl) (rfl)).mp c8
      refine aw_iconst (0) dX8_hasOtherBits_15 (by decide) ?_
      subst hQF
      exact aw_zret rfl rfl dX8_hasOtherBits_16 (by decide) (by decide) ⟨by rw [if_neg (by omega)], rfl⟩
    · have d8 := mt (j_lt (a := x.toInt) (b := (4096)) (rfl) (rfl)).mpr c8
      refine aw_iconst (1) dX8_hasOtherBits_11 (by decide) ?_
      refine aw_goto 16 dX8_hasOtherBits_12 (by decide) ?_
      subst hQF
      exact aw_zret rfl rfl dX8_hasOtherBits_16 (by decide) (by decide) ⟨by rw [if_pos (by omega)], rfl⟩
set_option maxHeartbeats 4000000 in
theorem bX8_hasOtherBits10 {l : Launch} {G : xG} {h : List va_E} {x : Int32}   : CD l G yX8_hasOtherBits cX8_hasOtherBits 2 (some .boolean) 0 0 0 [.int x, .int 10] h (some (.int (if (¬ (0 ≤ x.toInt ∧ x.toInt < 1024)) then 1 else 0))) h := by
  refine cm_ofQ rfl (Nat.le_of_ble_eq_true rfl) [(0, .int x), (1, .int 10)] rfl (fun QF hQF => ?_)
  refine aw_iload_n 0 dX8_hasOtherBits_0 rfl rfl ?_
  refine aw_if_lt 11 dX8_hasOtherBits_1 (by decide) (fun c1 => ?_) (fun c1 => ?_)
  · have d1 := (j_lt (a := x.toInt) (b := (0)) (rfl) (rfl)).mp c1
    refine aw_iconst (1) dX8_hasOtherBits_11 (by decide) ?_
    refine aw_goto 16 dX8_hasOtherBits_12 (by decide) ?_
    subst hQF
    exact aw_zret rfl rfl dX8_hasOtherBits_16 (by decide) (by decide) ⟨by rw [if_pos (by omega)], rfl⟩
  · have d1 := mt (j_lt (a := x.toInt) (b := (0)) (rfl) (rfl)).mpr c1
    refine aw_iload_n 0 dX8_hasOtherBits_4 rfl rfl ?_
    refine aw_iconst (1) dX8_hasOtherBits_5 (by decide) ?_
    refine aw_iload_n 1 dX8_hasOtherBits_6 rfl rfl ?_
    refine aw_ishl dX8_hasOtherBits_7 ?_
    refine aw_toe 1024 (by decide) ?_
    refine aw_icmp_lt 15 dX8_hasOtherBits_8 (by decide) (fun c8 => ?_) (fun c8 => ?_)
    · have d8 := (j_lt (a := x.toInt) (b := (1024)) (rfl) (rfl)).mp c8
      refine aw_iconst (0) dX8_hasOtherBits_15 (by decide) ?_
      subst hQF
      exact aw_zret rfl rfl dX8_hasOtherBits_16 (by decide) (by decide) ⟨by rw [if_neg (by omega)], rfl⟩
    · have d8 := mt (j_lt (a := x.toInt) (b := (1024)) (rfl) (rfl)).mpr c8
      refine aw_iconst (1) dX8_hasOtherBits_11 (by decide) ?_
      refine aw_goto 16 dX8_hasOtherBits_12 (by decide) ?_
      subst hQF
      exact aw_zret rfl rfl dX8_hasOtherBits_16 (by decide) (by decide) ⟨by rw [if_pos (by omega)], rfl⟩
set_option maxHeartbeats 4000000 in
theorem bX8_daysRefusal {l : Launch} {G : xG} {h : List va_E} {x k : Int32}   : CD l G yX8_daysRefusal cX8_daysRefusal 2 (some .int) 0 0 0 [.int x, .int k] h (some (.int (dyF x k))) h := by
  refine cm_ofQ rfl (Nat.le_of_ble_eq_true rfl) [(0, .int x), (1, .int k)] rfl (fun QF hQF => ?_)
  refine aw_iload_n 0 dX8_daysRefusal_0 rfl rfl ?_
  refine aw_if_lt 8 dX8_daysRefusal_1 (by decide) (fun c1 => ?_) (fun c1 => ?_)
  · have d1 := (j_lt (a := x.toInt) (b := (0)) (rfl) (rfl)).mp c1
    refine aw_bipush (-4) dX8_daysRefusal_8 (by decide) ?_
    subst hQF
    exact aw_iret rfl dX8_daysRefusal_10 (by decide) (by decide) ⟨by unfold dyF; repeat (first | rw [if_pos (by omega)] | rw [if_neg (by omega)]), rfl⟩
  · have d1 := mt (j_lt (a := x.toInt) (b := (0)) (rfl) (rfl)).mpr c1
    refine aw_iload_n 1 dX8_daysRefusal_4 rfl rfl ?_
    refine aw_if_ge 11 dX8_daysRefusal_5 (by decide) (fun c5 => ?_) (fun c5 => ?_)
    · have d5 := (j_le (a := (0)) (b := k.toInt) (rfl) (rfl)).mp c5
      refine aw_iload_n 0 dX8_daysRefusal_11 rfl rfl ?_
      refine aw_ldc (80000) kX8_172 dX8_daysRefusal_12 ?_
      refine aw_icmp_gt 23 dX8_daysRefusal_14 (by decide) (fun c14 => ?_) (fun c14 => ?_)
      · have d14 := (j_lt (a := (80000)) (b := x.toInt) (rfl) (rfl)).mp c14
        refine aw_bipush (-6) dX8_daysRefusal_23 (by decide) ?_
        refine aw_goto 29 dX8_daysRefusal_25 (by decide) ?_
        subst hQF
        exact aw_iret rfl dX8_daysRefusal_29 (by decide) (by decide) ⟨by unfold dyF; repeat (first | rw [if_pos (by omega)] | rw [if_neg (by omega)]), rfl⟩
      · have d14 := mt (j_lt (a := (80000)) (b := x.toInt) (rfl) (rfl)).mpr c14
        refine aw_iload_n 1 dX8_daysRefusal_17 rfl rfl ?_
        refine aw_ldc (80000) kX8_172 dX8_daysRefusal_18 ?_
        refine aw_icmp_le 28 dX8_daysRefusal_20 (by decide) (fun c20 => ?_) (fun c20 => ?_)
        · have d20 := (j_le (a := k.toInt) (b := (80000)) (rfl) (rfl)).mp c20
          refine aw_iconst (0) dX8_daysRefusal_28 (by decide) ?_
          subst hQF
          exact aw_iret rfl dX8_daysRefusal_29 (by decide) (by decide) ⟨by unfold dyF; repeat (first | rw [if_pos (by omega)] | rw [if_neg (by omega)]), rfl⟩
        · have d20 := mt (j_le (a := k.toInt) (b := (80000)) (rfl) (rfl)).mpr c20
          refine aw_bipush (-6) dX8_daysRefusal_23 (by decide) ?_
          refine aw_goto 29 dX8_daysRefusal_25 (by decide) ?_
          subst hQF
          exact aw_iret rfl dX8_daysRefusal_29 (by decide) (by decide) ⟨by unfold dyF; repeat (first | rw [if_pos (by omega)] | rw [if_neg (by omega)]), rfl⟩
    · have d5 := mt (j_le (a := (0)) (b := k.toInt) (rfl) (rfl)).mpr c5
      refine aw_bipush (-4) dX8_daysRefusal_8 (by decide) ?_
      subst hQF
      exact aw_iret rfl dX8_daysRefusal_10 (by decide) (by decide) ⟨by unfold dyF; repeat (first | rw [if_pos (by omega)] | rw [if_neg (by omega)]), rfl⟩
set_option maxHeartbeats 4000000 in
theorem bX9_wrongDays {l : Launch} {G : xG} {h : List va_E} {x k : Int32}   : CD l G yX9_wrongDays cX9_wrongDays 2 (some .int) 0 0 0 [.int x, .int k] h (some (.int (dyF x k))) h := by
  refine cm_ofQ rfl (Nat.le_of_ble_eq_true rfl) [(0, .int x), (1, .int k)] rfl (fun QF hQF => ?_)
  refine aw_iload_n 0 dX9_wrongDays_0 rfl rfl ?_
  refine aw_if_lt 8 dX9_wrongDays_1 (by decide) (fun c1 => ?_) (fun c1 => ?_)
  · have d1 := (j_lt (a := x.toInt) (b := (0)) (rfl) (rfl)).mp c1
    refine aw_bipush (-4) dX9_wrongDays_8 (by decide) ?_
    subst hQF
    exact aw_iret rfl dX9_wrongDays_10 (by decide) (by decide) ⟨by unfold dyF; repeat (first | rw [if_pos (by omega)] | rw [if_neg (by omega)]), rfl⟩
  · have d1 := mt (j_lt (a := x.toInt) (b := (0)) (rfl) (rfl)).mpr c1
    refine aw_iload_n 1 dX9_wrongDays_4 rfl rfl ?_
    refine aw_if_ge 11 dX9_wrongDays_5 (by decide) (fun c5 => ?_) (fun c5 => ?_)
    · have d5 := (j_le (a := (0)) (b := k.toInt) (rfl) (rfl)).mp c5
      refine aw_iload_n 0 dX9_wrongDays_11 rfl rfl ?_
      refine aw_ldc (80000) kX9_194 dX9_wrongDays_12 ?_
      refine aw_icmp_gt 23 dX9_wrongDays_14 (by decide) (fun c14 => ?_) (fun c14 => ?_)
      · have d14 := (j_lt (a := (80000)) (b := x.toInt) (rfl) (rfl)).mp c14
        refine aw_bipush (-6) dX9_wrongDays_23 (by decide) ?_
        refine aw_goto 29 dX9_wrongDays_25 (by decide) ?_
        subst hQF
        exact aw_iret rfl dX9_wrongDays_29 (by decide) (by decide) ⟨by unfold dyF; repeat (first | rw [if_pos (by omega)] | rw [if_neg (by omega)]), rfl⟩
      · have d14 := mt (j_lt (a := (80000)) (b := x.toInt) (rfl) (rfl)).mpr c14
        refine aw_iload_n 1 dX9_wrongDays_17 rfl rfl ?_
        refine aw_ldc (80000) kX9_194 dX9_wrongDays_18 ?_
        refine aw_icmp_le 28 dX9_wrongDays_20 (by decide) (fun c20 => ?_) (fun c20 => ?_)
        · have d20 := (j_le (a := k.toInt) (b := (80000)) (rfl) (rfl)).mp c20
          refine aw_iconst (0) dX9_wrongDays_28 (by decide) ?_
          subst hQF
          exact aw_iret rfl dX9_wrongDays_29 (by decide) (by decide) ⟨by unfold dyF; repeat (first | rw [if_pos (by omega)] | rw [if_neg (by omega)]), rfl⟩
        · have d20 := mt (j_le (a := k.toInt) (b := (80000)) (rfl) (rfl)).mpr c20
          refine aw_bipush (-6) dX9_wrongDays_23 (by decide) ?_
          refine aw_goto 29 dX9_wrongDays_25 (by decide) ?_
          subst hQF
          exact aw_iret rfl dX9_wrongDays_29 (by decide) (by decide) ⟨by unfold dyF; repeat (first | rw [if_pos (by omega)] | rw [if_neg (by omega)]), rfl⟩
    · have d5 := mt (j_le (a := (0)) (b := k.toInt) (rfl) (rfl)).mpr c5
      refine aw_bipush (-4) dX9_wrongDays_8 (by decide) ?_
      subst hQF
      exact aw_iret rfl dX9_wrongDays_10 (by decide) (by decide) ⟨by unfold dyF; repeat (first | rw [if_pos (by omega)] | rw [if_neg (by omega)]), rfl⟩
set_option maxHeartbeats 4000000 in
theorem bX9_wrong {l : Launch} {G : xG} {h : List va_E} {x y z : Int32}   : CD l G yX9_wrong cX9_wrong 3 (some .int) 0 0 0 [.int x, .int y, .int z] h (some (.int (wrF x y z))) h := by
  refine cm_ofQ rfl (Nat.le_of_ble_eq_true rfl) [(0, .int x), (1, .int y), (2, .int z)] rfl (fun QF hQF => ?_)
  refine aw_iload_n 0 dX9_wrong_0 rfl rfl ?_
  refine aw_iload_n 1 dX9_wrong_1 rfl rfl ?_
  refine aw_icmp_ge 10 dX9_wrong_2 (by decide) (fun c2 => ?_) (fun c2 => ?_)
  · have d2 := (j_le (a := y.toInt) (b := x.toInt) (rfl) (rfl)).mp c2
    refine aw_iload_n 0 dX9_wrong_10 rfl rfl ?_
    refine aw_iload_n 2 dX9_wrong_11 rfl rfl ?_
    refine aw_icmp_le 20 dX9_wrong_12 (by decide) (fun c12 => ?_) (fun c12 => ?_)
    · have d12 := (j_le (a := x.toInt) (b := z.toInt) (rfl) (rfl)).mp c12
      refine aw_iconst (0) dX9_wrong_20 (by decide) ?_
      subst hQF
      exact aw_iret rfl dX9_wrong_21 (by decide) (by decide) ⟨by unfold wrF; repeat (first | rw [if_pos (by omega)] | rw [if_neg (by omega)]), rfl⟩
    · have d12 := mt (j_le (a := x.toInt) (b := z.toInt) (rfl) (rfl)).mpr c12
      refine aw_bipush (-6) dX9_wrong_15 (by decide) ?_
      refine aw_goto 21 dX9_wrong_17 (by decide) ?_
      subst hQF
      exact aw_iret rfl dX9_wrong_21 (by decide) (by decide) ⟨by unfold wrF; repeat (first | rw [if_pos (by omega)] | rw [if_neg (by omega)]), rfl⟩
  · have d2 := mt (j_le (a := y.toInt) (b := x.toInt) (rfl) (rfl)).mpr c2
    refine aw_bipush (-4) dX9_wrong_5 (by decide) ?_
    refine aw_goto 21 dX9_wrong_7 (by decide) ?_
    subst hQF
    exact aw_iret rfl dX9_wrong_21 (by decide) (by decide) ⟨by unfold wrF; repeat (first | rw [if_pos (by omega)] | rw [if_neg (by omega)]), rfl⟩
set_option maxHeartbeats 4000000 in
theorem bX9_isIn {l : Launch} {G : xG} {h : List va_E} {x : Int32} {n : Nat}  (bn : n < 2 ^ 31) : CD l G yX9_isIn cX9_isIn 2 (some .boolean) 0 0 0 [.int x, .int (nI n)] h (some (.int (if (0 ≤ x.toInt ∧ x.toInt < (n : Int)) then 1 else 0))) h := by
  refine cm_ofQ rfl (Nat.le_of_ble_eq_true rfl) [(0, .int x), (1, .int (nI n))] rfl (fun QF hQF => ?_)
  refine aw_iload_n 0 dX9_isIn_0 rfl rfl ?_
  refine aw_if_lt 13 dX9_isIn_1 (by decide) (fun c1 => ?_) (fun c1 => ?_)
  · have d1 := (j_lt (a := x.toInt) (b := (0)) (rfl) (rfl)).mp c1
    refine aw_iconst (0) dX9_isIn_13 (by decide) ?_
    subst hQF
    exact aw_zret rfl rfl dX9_isIn_14 (by decide) (by decide) ⟨by rw [if_neg (by omega)], rfl⟩
  · have d1 := mt (j_lt (a := x.toInt) (b := (0)) (rfl) (rfl)).mpr c1
    refine aw_iload_n 0 dX9_isIn_4 rfl rfl ?_
    refine aw_iload_n 1 dX9_isIn_5 rfl rfl ?_
    refine aw_icmp_ge 13 dX9_isIn_6 (by decide) (fun c6 => ?_) (fun c6 => ?_)
    · have d6 := (j_le (a := ((n : Nat) : Int)) (b := x.toInt) (i_toNat (rfl) (by omega)) (rfl)).mp c6
      refine aw_iconst (0) dX9_isIn_13 (by decide) ?_
      subst hQF
      exact aw_zret rfl rfl dX9_isIn_14 (by decide) (by decide) ⟨by rw [if_neg (by omega)], rfl⟩
    · have d6 := mt (j_le (a := ((n : Nat) : Int)) (b := x.toInt) (i_toNat (rfl) (by omega)) (rfl)).mpr c6
      refine aw_iconst (1) dX9_isIn_9 (by decide) ?_
      refine aw_goto 14 dX9_isIn_10 (by decide) ?_
      subst hQF
      exact aw_zret rfl rfl dX9_isIn_14 (by decide) (by decide) ⟨by rw [if_pos (by omega)], rfl⟩
set_option maxHeartbeats 4000000 in
theorem bX9_isBeast {l : Launch} {G : xG} {h : List va_E} {x : Int32}   : CD l G yX9_isBeast cX9_isBeast 1 (some .boolean) 0 0 0 [.int x] h (some (.int (if (0 ≤ x.toInt ∧ x.toInt < 1024) then 1 else 0))) h := by
  refine cm_ofQ rfl (Nat.le_of_ble_eq_true rfl) [(0, .int x)] rfl (fun QF hQF => ?_)
  refine aw_iload_n 0 dX9_isBeast_0 rfl rfl ?_
  refine aw_if_lt 15 dX9_isBeast_1 (by decide) (fun c1 => ?_) (fun c1 => ?_)
  · have d1 := (j_lt (a := x.toInt) (b := (0)) (rfl) (rfl)).mp c1
    refine aw_iconst (0) dX9_isBeast_15 (by decide) ?_
    subst hQF
    exact aw_zret rfl rfl dX9_isBeast_16 (by decide) (by decide) ⟨by rw [if_neg (by omega)], rfl⟩
  · have d1 := mt (j_lt (a := x.toInt) (b := (0)) (rfl) (rfl)).mpr c1
    refine aw_iload_n 0 dX9_isBeast_4 rfl rfl ?_
    refine aw_sipush (1024) dX9_isBeast_5 (by decide) ?_
    refine aw_icmp_ge 15 dX9_isBeast_8 (by decide) (fun c8 => ?_) (fun c8 => ?_)
    · have d8 := (j_le (a := (1024)) (b := x.toInt) (rfl) (rfl)).mp c8
      refine aw_iconst (0) dX9_isBeast_15 (by decide) ?_
      subst hQF
      exact aw_zret rfl rfl dX9_isBeast_16 (by decide) (by decide) ⟨by rw [if_neg (by omega)], rfl⟩
    · have d8 := mt (j_le (a := (1024)) (b := x.toInt) (rfl) (rfl)).mpr c8
      refine aw_iconst (1) dX9_isBeast_11 (by decide) ?_
      refine aw_goto 16 dX9_isBeast_12 (by decide) ?_
      subst hQF
      exact aw_zret rfl rfl dX9_isBeast_16 (by decide) (by decide) ⟨by rw [if_pos (by omega)], rfl⟩
set_option maxHeartbeats 4000000 in
theorem bX9_areBooks {l : Launch} {G : xG} {h : List va_E} {a b : Int32}   : CD l G yX9_areBooks cX9_areBooks 3 (some .boolean) 1 0 0 [.ref (G.1 + 88), .int a, .int b] h (some (.int (if ((0 ≤ a.toInt ∧ a.toInt < 4) ∧ (0 ≤ b.toInt ∧ b.toInt < 4) ∧ a.toInt ≠ b.toInt) then 1 else 0))) h := by
  refine cm_ofQ rfl (Nat.le_of_ble_eq_true rfl) [(0, .ref (G.1 + 88)), (1, .int a), (2, .int b)] rfl (fun QF hQF => ?_)
  refine aw_iload_n 1 dX9_areBooks_0 rfl rfl ?_
  refine aw_iconst (4) dX9_areBooks_1 (by decide) ?_
  refine aw_dS [.int a, .int 4] [] lX9_126 sX9_isIn mX9_isIn dX9_areBooks_2 (bX9_isIn (x := a) (n := 4) (by decide)) rfl (Nat.le_of_ble_eq_true rfl) (by decide) (by decide) rfl ?_
  refine aw_if_eq 25 dX9_areBooks_5 (by decide) (fun c5 => ?_) (fun c5 => ?_)
  · have t5 := ite_0 c5
    refine aw_iconst (0) dX9_areBooks_25 (by decide) ?_
    subst hQF
    exact aw_zret rfl rfl dX9_areBooks_26 (by decide) (by decide) ⟨by rw [if_neg (by omega)], rfl⟩
  · have t5 := ite_1 c5
    refine aw_iload_n 2 dX9_areBooks_8 rfl rfl ?_
    refine aw_iconst (4) dX9_areBooks_9 (by decide) ?_
    refine aw_dS [.int b, .int 4] [] lX9_126 sX9_isIn mX9_isIn dX9_areBooks_10 (bX9_isIn (x := b) (n := 4) (by decide)) rfl (Nat.le_of_ble_eq_true rfl) (by decide) (by decide) rfl ?_
    refine aw_if_eq 25 dX9_areBooks_13 (by decide) (fun c13 => ?_) (fun c13 => ?_)
    · have t13 := ite_0 c13
      refine aw_iconst (0) dX9_areBooks_25 (by decide) ?_
      subst hQF
      exact aw_zret rfl rfl dX9_areBooks_26 (by decide) (by decide) ⟨by rw [if_neg (by omega)], rfl⟩
    · have t13 := ite_1 c13
      refine aw_iload_n 1 dX9_areBooks_16 rfl rfl ?_
      refine aw_iload_n 2 dX9_areBooks_17 rfl rfl ?_
      refine aw_icmp_eq 25 dX9_areBooks_18 (by decide) (fun c18 => ?_) (fun c18 => ?_)
      · have d18 := (j_eq (a := a.toInt) (b := b.toInt) (rfl) (rfl)).mp c18
        refine aw_iconst (0) dX9_areBooks_25 (by decide) ?_
        subst hQF
        exact aw_zret rfl rfl dX9_areBooks_26 (by decide) (by decide) ⟨by rw [if_neg (by omega)], rfl⟩
      · have d18 := mt (j_eq (a := a.toInt) (b := b.toInt) (rfl) (rfl)).mpr c18
        refine aw_iconst (1) dX9_areBooks_21 (by decide) ?_
        refine aw_goto 26 dX9_areBooks_22 (by decide) ?_
        subst hQF
        exact aw_zret rfl rfl dX9_areBooks_26 (by decide) (by decide) ⟨by rw [if_pos (by omega)], rfl⟩
set_option maxHeartbeats 4000000 in
theorem bX8_shelfRefusal {l : Launch} {G : xG} {h : List va_E} {x : Int32}   : CD l G yX8_shelfRefusal cX8_shelfRefusal 1 (some .int) 1 0 0 [.int x] h (some (.int (shR x))) h := by
  refine cm_ofQ rfl (Nat.le_of_ble_eq_true rfl) [(0, .int x)] rfl (fun QF hQF => ?_)
  refine aw_iload_n 0 dX8_shelfRefusal_0 rfl rfl ?_
  refine aw_if_eq 13 dX8_shelfRefusal_1 (by decide) (fun c1 => ?_) (fun c1 => ?_)
  · have d1 := (j_eq (a := x.toInt) (b := (0)) (rfl) (rfl)).mp c1
    refine aw_iconst (-1) dX8_shelfRefusal_13 (by decide) ?_
    subst hQF
    exact aw_iret rfl dX8_shelfRefusal_14 (by decide) (by decide) ⟨by unfold shR; repeat (first | rw [if_pos (by omega)] | rw [if_neg (by omega)]), rfl⟩
  · have d1 := mt (j_eq (a := x.toInt) (b := (0)) (rfl) (rfl)).mpr c1
    refine aw_iload_n 0 dX8_shelfRefusal_4 rfl rfl ?_
    refine aw_bipush (12) dX8_shelfRefusal_5 (by decide) ?_
    refine aw_dS [.int x, .int 12] [] lX8_87 sX8_hasOtherBits mX8_hasOtherBits dX8_shelfRefusal_7 (bX8_hasOtherBits12 (x := x) ) rfl (Nat.le_of_ble_eq_true rfl) (by decide) (by decide) rfl ?_
    refine aw_if_eq 15 dX8_shelfRefusal_10 (by decide) (fun c10 => ?_) (fun c10 => ?_)
    · have t10 := ite_0 c10
      obtain ⟨xa, bb_xa, ee_xa⟩ := i_nat (x := x) (N := 4096) (by omega) (by omega)
      subst ee_xa
      have tt_xa : (nI xa).toInt = (xa : Int) := nI_toInt (by omega)
      have nn_xa : tn (nI xa) = xa := tn_nI (by omega)
      refine aw_iload_n 0 dX8_shelfRefusal_15 rfl rfl ?_
      refine aw_dS [.int (nI xa)] [] lX8_246 sJ6_bitCount_0f7a4 mJ6_bitCount_0f7a4 dX8_shelfRefusal_16 (J6_bitCount_g (x := (nI xa)) ) rfl (Nat.le_of_ble_eq_true rfl) (by decide) (by decide) rfl ?_
      refine aw_toe (nI (popN xa)) (bc_pop bb_xa) ?_
      have bpx := popN_le xa
      refine aw_bipush (8) dX8_shelfRefusal_19 (by decide) ?_
      refine aw_icmp_le 29 dX8_shelfRefusal_21 (by decide) (fun c21 => ?_) (fun c21 => ?_)
      · have d21 := (nv_le (a := popN xa) (b := 8) (rfl) (rfl) (by omega) (by omega)).mp c21
        refine aw_iconst (0) dX8_shelfRefusal_29 (by decide) ?_
        subst hQF
        exact aw_iret rfl dX8_shelfRefusal_30 (by decide) (by decide) ⟨by unfold shR; rw [nn_xa]; repeat (first | rw [if_pos (by omega)] | rw [if_neg (by omega)]), rfl⟩
      · have d21 := mt (nv_le (a := popN xa) (b := 8) (rfl) (rfl) (by omega) (by omega)).mpr c21
        refine aw_bipush (-6) dX8_shelfRefusal_24 (by decide) ?_
        refine aw_goto 30 dX8_shelfRefusal_26 (by decide) ?_
        subst hQF
        exact aw_iret rfl dX8_shelfRefusal_30 (by decide) (by decide) ⟨by unfold shR; rw [nn_xa]; repeat (first | rw [if_pos (by omega)] | rw [if_neg (by omega)]), rfl⟩
    · have t10 := ite_1 c10
      refine aw_iconst (-1) dX8_shelfRefusal_13 (by decide) ?_
      subst hQF
      exact aw_iret rfl dX8_shelfRefusal_14 (by decide) (by decide) ⟨by unfold shR; repeat (first | rw [if_pos (by omega)] | rw [if_neg (by omega)]), rfl⟩
set_option maxHeartbeats 4000000 in
theorem bX8_refuse {l : Launch} {G : xG} {h : List va_E} {jv bv : Value} {rf : Nat → Int32} {x : Int32} {q : Nat} (h0 : h[0]? = some (oB 8 (lX G (jv) (bv)))) (h87 : h[87]? = some (aI 7 rf)) (bq : q < 7) (eq : x = -(nI q)) : CE l G yX8_refuse cX8_refuse 2 (some .int) 0 0 0 [.ref (G.1 + 0), .int x] h (some (.int x)) (fun h1 => ∃ rf1 : Nat → Int32, h1[87]? = some (aI 7 rf1) ∧ rng 87 87 h h1) := by
  refine cm_ofQ rfl (Nat.le_of_ble_eq_true rfl) [(0, .ref (G.1 + 0)), (1, .int x)] rfl (fun QF hQF => ?_)
  refine aw_aload_n 0 dX8_refuse_0 rfl rfl ?_
  refine aw_get fX8_62 dX8_refuse_1 h0 rfl ?_
  refine aw_iload_n 1 dX8_refuse_4 rfl rfl ?_
  refine aw_ineg dX8_refuse_5 ?_
  refine aw_toe (nI q) (by rw [eq]; exact neg_nI) ?_
  refine aw_dup2 dX8_refuse_6 rfl rfl ?_
  refine aw_iald q (rfl) (by omega) (by decide) dX8_refuse_7 h87 ?_
  refine aw_iconst (1) dX8_refuse_8 (by decide) ?_
  refine aw_iadd dX8_refuse_9 ?_
  refine aw_iast q (rfl) (by omega) (by decide) dX8_refuse_10 h87 ?_
  refine aw_iload_n 1 dX8_refuse_11 rfl rfl ?_
  subst hQF
  exact aw_iret rfl dX8_refuse_12 (by decide) (by decide) ⟨rfl, _, (gs h87), rng_set (rng_rf 87 87 h) (by decide) (by decide)⟩
theorem spUp_y {fi : Nat → Nat} {c : Int32} {ok : Prop} [Decidable ok] {f : Nat → Int32} {v : Int32} (h : ok) : spUp fi c ok f v = upd f (tn c * 10 + fi (tn c)) v := if_pos h
theorem spUp_n {fi : Nat → Nat} {c : Int32} {ok : Prop} [Decidable ok] {f : Nat → Int32} {v : Int32} (h : ¬ ok) : spUp fi c ok f v = f := if_neg h
def spUn (ok : Prop) [Decidable ok] (f : Nat → Nat) (i v : Nat) : Nat → Nat := if ok then un f i v else f
theorem spUn_y {ok : Prop} [Decidable ok] {f : Nat → Nat} {i v : Nat} (h : ok) : spUn ok f i v = un f i v := if_pos h
theorem spUn_n {ok : Prop} [Decidable ok] {f : Nat → Nat} {i v : Nat} (h : ¬ ok) : spUn ok f i v = f := if_neg h
def spN (ok : Prop) [Decidable ok] (n m : Nat) : Nat := if ok then m else n
theorem spN_y {ok : Prop} [Decidable ok] {n m : Nat} (h : ok) : spN ok n m = m := if_pos h
theorem spN_n {ok : Prop} [Decidable ok] {n m : Nat} (h : ¬ ok) : spN ok n m = n := if_neg h
def spClashF (fo : Nat → Nat) (a b : Int32) (on : Bool) : Int32 × (Nat → Nat) :=
  if a.toInt < 0 ∨ b.toInt < 0 then (-4, fo) else if 6 ≤ a.toInt ∨ 6 ≤ b.toInt then (-6, fo) else if a.toInt = b.toInt then (-3, fo)
  else if (fo (tn a)).testBit (tn b) = on then (0, fo) else (1, un (un fo (tn a) (fo (tn a) ^^^ 2 ^ tn b)) (tn b) (un fo (tn a) (fo (tn a) ^^^ 2 ^ tn b) (tn b) ^^^ 2 ^ tn a))
def spVis (n : Nat) (s x y t : Int32) : Int32 :=
  if ¬ (0 ≤ s.toInt ∧ s.toInt < 4) then -2 else if ¬ (0 ≤ x.toInt ∧ x.toInt < 12) ∨ (s.toInt < 2 ∧ (¬ (0 ≤ y.toInt ∧ y.toInt < 12) ∨ x.toInt = y.toInt)) then -1
  else if t.toInt < 1 then -4 else if 9 < t.toInt ∨ 40 ≤ n then -6 else nI n
def spSight (n : Nat) (t p d k : Int32) : Int32 :=
  if ¬ ((0 ≤ t.toInt ∧ t.toInt < 12) ∧ (0 ≤ p.toInt ∧ p.toInt < 8)) then -1 else if dyF d k ≠ 0 then dyF d k else if 60 ≤ n then -6 else nI n
def spMove (n : Nat) (t p d s k : Int32) : Int32 :=
  if ¬ ((0 ≤ t.toInt ∧ t.toInt < 12) ∧ (0 ≤ p.toInt ∧ p.toInt < 8)) then -1 else if ¬ (0 ≤ s.toInt ∧ s.toInt < 5) then -2 else if dyF d k ≠ 0 then dyF d k else if 60 ≤ n then -6 else nI n
/-- taking back: the records' number, their known days, whether each is gone -/
def spBack (n : Nat) (kn go : Nat → Nat) (q k : Int32) : Int32 :=
  if ¬ (0 ≤ q.toInt ∧ q.toInt < (n : Int)) then -1 else if go (tn q) ≠ 80001 then -3 else if k.toInt < (kn (tn q) : Int) then -4 else if 80000 < k.toInt then -6 else 1
theorem dyF_neg {d k : Int32} (h : ¬ dyF d k = 0) : (dyF d k).toInt < 0 := by
  revert h; unfold dyF
  split
  · intro _; decide
  · split
    · intro _; decide
    · intro h; exact absurd rfl h
set_option maxHeartbeats 4000000 in
theorem oX8_means {l : Launch} {G : xG} {h : List va_E} {jv bv : Value} {rf : Nat → Int32} {m se ye fi : Nat → Nat} {W Sn Z Ro Co : Nat → Int32} {Ba : Nat → Int64} {nb sp fa ve : Nat} {w o : Int32} (h0 : h[0]? = some (oB 8 (lX G (jv) (bv)))) (h87 : h[87]? = some (aI 7 rf)) (h1 : h[1]? = some (oB 1 (lC G (nI nb) (nI sp) (nI fa) (nI ve)))) (h2 : h[2]? = some (aI 20 (nA m))) (h3 : h[3]? = some (aI 20 (nA se))) (h4 : h[4]? = some (aI 4 (nA ye))) (h5 : h[5]? = some (aI 4 (nA fi))) (h6 : h[6]? = some (aI 40 W)) (h7 : h[7]? = some (aI 40 Sn)) (h8 : h[8]? = some (aI 40 Z)) (h9 : h[9]? = some (aI 40 Ro)) (h10 : h[10]? = some (aI 40 Co)) (h11 : h[11]? = some (aL 40 Ba)) (hm : ∀ j, j < 20 → m j ≤ j) (hse : ∀ j, j < 20 → se j < 20) (hfi : ∀ j, j < 4 → fi j < 11) (hye : ∀ j, j < 4 → ye j < 1901) (hr : ∀ j, j < 20 → se j = root m j) (hS : ∀ j, j < 40 → Sn j = snF se (W j) 20) : CE l G yX8_means cX8_means 3 (some .int) 2 0 0 [.ref (G.1 + 0), .int w, .int o] h (some (.int ((spMeans m w o).1))) (fun h1 => ∃ se1 : Nat → Nat, ∃ Sn1 : Nat → Int32, ∃ ve1 : Nat, ∃ rf1 : Nat → Int32, h1[1]? = some (oB 1 (lC G (nI nb) (nI sp) (nI fa) (nI ve1))) ∧ h1[2]? = some (aI 20 (nA ((spMeans m w o).2))) ∧ h1[3]? = some (aI 20 (nA se1)) ∧ h1[4]? = some (aI 4 (nA ye)) ∧ h1[5]? = some (aI 4 (nA fi)) ∧ h1[6]? = some (aI 40 W) ∧ h1[7]? = some (aI 40 Sn1) ∧ h1[8]? = some (aI 40 Z) ∧ h1[9]? = some (aI 40 Ro) ∧ h1[10]? = some (aI 40 Co) ∧ h1[11]? = some (aL 40 Ba) ∧ h1[87]? = some (aI 7 rf1) ∧ rg2 1 11 87 87 h h1 ∧ (∀ j, j < 20 → se1 j = root (spMeans m w o).2 j) ∧ (∀ j, j < 40 → Sn1 j = snF se1 (W j) 20) ∧ (ve1 = ve + 1 ∨ (ve1 = ve ∧ (spMeans m w o).2 = m))) := by
  refine cm_ofQ rfl (Nat.le_of_ble_eq_true rfl) [(0, .ref (G.1 + 0)), (1, .int w), (2, .int o)] rfl (fun QF hQF => ?_)
  refine aw_iload_n 1 dX8_means_0 rfl rfl ?_
  refine aw_dS [.int w] [] lX8_66 sX8_isWord mX8_isWord dX8_means_1 (bX8_isWord (x := w) ) rfl (Nat.le_of_ble_eq_true rfl) (by decide) (by decide) rfl ?_
  refine aw_if_eq 14 dX8_means_4 (by decide) (fun c4 => ?_) (fun c4 => ?_)
  · have t4 := ite_0 c4
    refine aw_aload_n 0 dX8_means_14 rfl rfl ?_
    refine aw_iconst (-1) dX8_means_15 (by decide) ?_
    refine aw_eV [.int (-1)] [] lX8_70 vX8_refuse mX8_refuse dX8_means_16 (bX8_refuse (jv := jv) (bv := bv) (rf := rf) (x := (-1)) (q := 1) h0 h87 (by decide) (by decide)) h0 rfl rfl rfl (Nat.le_of_ble_eq_true rfl) (by decide) (by decide) rfl (fun h49 q48 => ?_)
    obtain ⟨rf147, f50, k51⟩ := q48
    have f52 := rng_at k51 (by decide) h0
    have f53 := rng_at k51 (by decide) h1
    have f54 := rng_at k51 (by decide) h2
    have f55 := rng_at k51 (by decide) h3
    have f56 := rng_at k51 (by decide) h4
    have f57 := rng_at k51 (by decide) h5
    have f58 := rng_at k51 (by decide) h6
    have f59 := rng_at k51 (by decide) h7
    have f60 := rng_at k51 (by decide) h8
    have f61 := rng_at k51 (by decide) h9
    have f62 := rng_at k51 (by decide) h10
    have f63 := rng_at k51 (by decide) h11
    subst hQF
    have eS : spMeans m w o = ((-1), m) := by unfold spMeans; (repeat' split) <;> first | (exfalso; omega) | rfl
    exact aw_iret rfl dX8_means_19 (by decide) (by decide) ⟨by rw [eS], _, _, _, _, f53, by rw [eS]; exact f54, f55, f56, f57, f58, f59, f60, f61, f62, f63, f50, rg2_tr (rg2_rf 1 11 87 87 h) (rg2_w k51 (by decide)), by rw [eS]; exact hr, hS, Or.inr ⟨rfl, by rw [eS]⟩⟩
  · have t4 := ite_1 c4
    refine aw_iload_n 2 dX8_means_7 rfl rfl ?_
    refine aw_dS [.int o] [] lX8_66 sX8_isWord mX8_isWord dX8_means_8 (bX8_isWord (x := o) ) rfl (Nat.le_of_ble_eq_true rfl) (by decide) (by decide) rfl ?_
    refine aw_if_ne 20 dX8_means_11 (by decide) (fun c11 => ?_) (fun c11 => ?_)
    · have t11 := ite_1 c11
      refine aw_iload_n 2 dX8_means_20 rfl rfl ?_
      refine aw_iload_n 1 dX8_means_21 rfl rfl ?_
      refine aw_icmp_le 32 dX8_means_22 (by decide) (fun c22 => ?_) (fun c22 => ?_)
      · have d22 := (j_le (a := o.toInt) (b := w.toInt) (rfl) (rfl)).mp c22
        obtain ⟨a, bb_a, ee_a⟩ := i_nat (x := w) (N := 20) (by omega) (by omega)
        subst ee_a
        have tt_a : (nI a).toInt = (a : Int) := nI_toInt (by omega)
        have nn_a : tn (nI a) = a := tn_nI (by omega)
        obtain ⟨b, bb_b, ee_b⟩ := i_nat (x := o) (N := 20) (by omega) (by omega)
        subst ee_b
        have tt_b : (nI b).toInt = (b : Int) := nI_toInt (by omega)
        have nn_b : tn (nI b) = b := tn_nI (by omega)
        refine aw_aload_n 0 dX8_means_32 rfl rfl ?_
        refine aw_get fX8_20 dX8_means_33 h0 rfl ?_
        refine aw_iload_n 1 dX8_means_36 rfl rfl ?_
        refine aw_iload_n 2 dX8_means_37 rfl rfl ?_
        refine aw_eV [.int (nI a), .int (nI b)] [] lX8_74 vX1_tellMeaning mX1_tellMeaning dX8_means_38 (aX1_tellMeaning (m := m) (se := se) (ye := ye) (fi := fi) (W := W) (Sn := Sn) (Z := Z) (Ro := Ro) (Co := Co) (Ba := Ba) (nb := nb) (sp := sp) (fa := fa) (ve := ve) (w := a) (o := b) h1 h2 h3 h4 h5 h6 h7 h8 h9 h10 h11 hm (by omega) (by omega)) h1 rfl rfl rfl (Nat.le_of_ble_eq_true rfl) (by decide) (by decide) rfl (fun h67 q66 => ?_)
        obtain ⟨se164, Sn165, f68, f69, f70, f71, f72, f73, f74, f75, f76, f77, f78, k79, p80, p81⟩ := q66
        have f82 := rng_at k79 (by decide) h0
        have f83 := rng_at k79 (by decide) h87
        subst hQF
        have eS : spMeans m (nI a) (nI b) = ((nI (m a)), un m a b) := by unfold spMeans; (repeat' split) <;> first | (exfalso; omega) | rfl | (simp only [nn_a, nn_b]; done)
        exact aw_iret rfl dX8_means_41 (by decide) (by decide) ⟨by rw [eS], _, _, _, _, f68, by rw [eS]; exact f69, f70, f71, f72, f73, f74, f75, f76, f77, f78, f83, rg2_tr (rg2_rf 1 11 87 87 h) (rg2_w k79 (by decide)), by rw [eS]; exact p80, p81, Or.inl rfl⟩
      · have d22 := mt (j_le (a := o.toInt) (b := w.toInt) (rfl) (rfl)).mpr c22
        refine aw_aload_n 0 dX8_means_25 rfl rfl ?_
        refine aw_bipush (-4) dX8_means_26 (by decide) ?_
        refine aw_eV [.int (-4)] [] lX8_70 vX8_refuse mX8_refuse dX8_means_28 (bX8_refuse (jv := jv) (bv := bv) (rf := rf) (x := (-4)) (q := 4) h0 h87 (by decide) (by decide)) h0 rfl rfl rfl (Nat.le_of_ble_eq_true rfl) (by decide) (by decide) rfl (fun h86 q85 => ?_)
        obtain ⟨rf184, f87, k88⟩ := q85
        have f89 := rng_at k88 (by decide) h0
        have f90 := rng_at k88 (by decide) h1
        have f91 := rng_at k88 (by decide) h2
        have f92 := rng_at k88 (by decide) h3
        have f93 := rng_at k88 (by decide) h4
        have f94 := rng_at k88 (by decide) h5
        have f95 := rng_at k88 (by decide) h6
        have f96 := rng_at k88 (by decide) h7
        have f97 := rng_at k88 (by decide) h8
        have f98 := rng_at k88 (by decide) h9
        have f99 := rng_at k88 (by decide) h10
        have f100 := rng_at k88 (by decide) h11
        subst hQF
        have eS : spMeans m w o = ((-4), m) := by unfold spMeans; (repeat' split) <;> first | (exfalso; omega) | rfl
        exact aw_iret rfl dX8_means_31 (by decide) (by decide) ⟨by rw [eS], _, _, _, _, f90, by rw [eS]; exact f91, f92, f93, f94, f95, f96, f97, f98, f99, f100, f87, rg2_tr (rg2_rf 1 11 87 87 h) (rg2_w k88 (by decide)), by rw [eS]; exact hr, hS, Or.inr ⟨rfl, by rw [eS]⟩⟩
    · have t11 := ite_0 c11
      refine aw_aload_n 0 dX8_means_14 rfl rfl ?_
      refine aw_iconst (-1) dX8_means_15 (by decide) ?_
      refine aw_eV [.int (-1)] [] lX8_70 vX8_refuse mX8_refuse dX8_means_16 (bX8_refuse (jv := jv) (bv := bv) (rf := rf) (x := (-1)) (q := 1) h0 h87 (by decide) (by decide)) h0 rfl rfl rfl (Nat.le_of_ble_eq_true rfl) (by decide) (by decide) rfl (fun h103 q102 => ?_)
      obtain ⟨rf1101, f104, k105⟩ := q102
      have f106 := rng_at k105 (by decide) h0
      have f107 := rng_at k105 (by decide) h1
      have f108 := rng_at k105 (by decide) h2
      have f109 := rng_at k105 (by decide) h3
      have f110 := rng_at k105 (by decide) h4
      have f111 := rng_at k105 (by decide) h5
      have f112 := rng_at k105 (by decide) h6
      have f113 := rng_at k105 (by decide) h7
      have f114 := rng_at k105 (by decide) h8
      have f115 := rng_at k105 (by decide) h9
      have f116 := rng_at k105 (by decide) h10
      have f117 := rng_at k105 (by decide) h11
      subst hQF
      have eS : spMeans m w o = ((-1), m) := by unfold spMeans; (repeat' split) <;> first | (exfalso; omega) | rfl
      exact aw_iret rfl dX8_means_19 (by decide) (by decide) ⟨by rw [eS], _, _, _, _, f107, by rw [eS]; exact f108, f109, f110, f111, f112, f113, f114, f115, f116, f117, f104, rg2_tr (rg2_rf 1 11 87 87 h) (rg2_w k105 (by decide)), by rw [eS]; exact hr, hS, Or.inr ⟨rfl, by rw [eS]⟩⟩
set_option maxHeartbeats 4000000 in
theorem oX8_sense {l : Launch} {G : xG} {h : List va_E} {jv bv : Value} {rf : Nat → Int32} {m se ye fi : Nat → Nat} {W Sn Z Ro Co : Nat → Int32} {Ba : Nat → Int64} {nb sp fa ve : Nat} {w : Int32} (h0 : h[0]? = some (oB 8 (lX G (jv) (bv)))) (h87 : h[87]? = some (aI 7 rf)) (h1 : h[1]? = some (oB 1 (lC G (nI nb) (nI sp) (nI fa) (nI ve)))) (h2 : h[2]? = some (aI 20 (nA m))) (h3 : h[3]? = some (aI 20 (nA se))) (h4 : h[4]? = some (aI 4 (nA ye))) (h5 : h[5]? = some (aI 4 (nA fi))) (h6 : h[6]? = some (aI 40 W)) (h7 : h[7]? = some (aI 40 Sn)) (h8 : h[8]? = some (aI 40 Z)) (h9 : h[9]? = some (aI 40 Ro)) (h10 : h[10]? = some (aI 40 Co)) (h11 : h[11]? = some (aL 40 Ba)) (hm : ∀ j, j < 20 → m j ≤ j) (hse : ∀ j, j < 20 → se j < 20) (hfi : ∀ j, j < 4 → fi j < 11) (hye : ∀ j, j < 4 → ye j < 1901) (hr : ∀ j, j < 20 → se j = root m j) (hS : ∀ j, j < 40 → Sn j = snF se (W j) 20) : CE l G yX8_sense cX8_sense 2 (some .int) 2 0 0 [.ref (G.1 + 0), .int w] h (some (.int (spSense m w))) (fun h1 => ∃ rf1 : Nat → Int32, h1[87]? = some (aI 7 rf1) ∧ rng 87 87 h h1) := by
  refine cm_ofQ rfl (Nat.le_of_ble_eq_true rfl) [(0, .ref (G.1 + 0)), (1, .int w)] rfl (fun QF hQF => ?_)
  refine aw_iload_n 1 dX8_sense_0 rfl rfl ?_
  refine aw_dS [.int w] [] lX8_66 sX8_isWord mX8_isWord dX8_sense_1 (bX8_isWord (x := w) ) rfl (Nat.le_of_ble_eq_true rfl) (by decide) (by decide) rfl ?_
  refine aw_if_ne 13 dX8_sense_4 (by decide) (fun c4 => ?_) (fun c4 => ?_)
  · have t4 := ite_1 c4
    obtain ⟨a, bb_a, ee_a⟩ := i_nat (x := w) (N := 20) (by omega) (by omega)
    subst ee_a
    have tt_a : (nI a).toInt = (a : Int) := nI_toInt (by omega)
    have nn_a : tn (nI a) = a := tn_nI (by omega)
    refine aw_aload_n 0 dX8_sense_13 rfl rfl ?_
    refine aw_get fX8_20 dX8_sense_14 h0 rfl ?_
    refine aw_get fX8_78 dX8_sense_17 h1 rfl ?_
    refine aw_iload_n 1 dX8_sense_20 rfl rfl ?_
    refine aw_iald a (rfl) (by omega) (by decide) dX8_sense_21 h3 ?_
    refine aw_toe (nI (se a)) (rfl) ?_
    subst hQF
    exact aw_iret rfl dX8_sense_22 (by decide) (by decide) ⟨by unfold spSense; rw [if_pos (by omega), nn_a, ← hr a (by omega)], _, h87, rng_rf 87 87 h⟩
  · have t4 := ite_0 c4
    refine aw_aload_n 0 dX8_sense_7 rfl rfl ?_
    refine aw_iconst (-1) dX8_sense_8 (by decide) ?_
    refine aw_eV [.int (-1)] [] lX8_70 vX8_refuse mX8_refuse dX8_sense_9 (bX8_refuse (jv := jv) (bv := bv) (rf := rf) (x := (-1)) (q := 1) h0 h87 (by decide) (by decide)) h0 rfl rfl rfl (Nat.le_of_ble_eq_true rfl) (by decide) (by decide) rfl (fun h120 q119 => ?_)
    obtain ⟨rf1118, f121, k122⟩ := q119
    have f123 := rng_at k122 (by decide) h0
    have f124 := rng_at k122 (by decide) h1
    have f125 := rng_at k122 (by decide) h2
    have f126 := rng_at k122 (by decide) h3
    have f127 := rng_at k122 (by decide) h4
    have f128 := rng_at k122 (by decide) h5
    have f129 := rng_at k122 (by decide) h6
    have f130 := rng_at k122 (by decide) h7
    have f131 := rng_at k122 (by decide) h8
    have f132 := rng_at k122 (by decide) h9
    have f133 := rng_at k122 (by decide) h10
    have f134 := rng_at k122 (by decide) h11
    subst hQF
    exact aw_iret rfl dX8_sense_12 (by decide) (by decide) ⟨by unfold spSense; rw [if_neg (by omega)], _, f121, rng_tr (rng_rf 87 87 h) (rng_w k122 (by decide) (by decide))⟩
set_option maxHeartbeats 4000000 in
theorem oX8_year {l : Launch} {G : xG} {h : List va_E} {jv bv : Value} {rf : Nat → Int32} {m se ye fi : Nat → Nat} {W Sn Z Ro Co : Nat → Int32} {Ba : Nat → Int64} {nb sp fa ve : Nat} {c y : Int32} (h0 : h[0]? = some (oB 8 (lX G (jv) (bv)))) (h87 : h[87]? = some (aI 7 rf)) (h1 : h[1]? = some (oB 1 (lC G (nI nb) (nI sp) (nI fa) (nI ve)))) (h2 : h[2]? = some (aI 20 (nA m))) (h3 : h[3]? = some (aI 20 (nA se))) (h4 : h[4]? = some (aI 4 (nA ye))) (h5 : h[5]? = some (aI 4 (nA fi))) (h6 : h[6]? = some (aI 40 W)) (h7 : h[7]? = some (aI 40 Sn)) (h8 : h[8]? = some (aI 40 Z)) (h9 : h[9]? = some (aI 40 Ro)) (h10 : h[10]? = some (aI 40 Co)) (h11 : h[11]? = some (aL 40 Ba)) (hm : ∀ j, j < 20 → m j ≤ j) (hse : ∀ j, j < 20 → se j < 20) (hfi : ∀ j, j < 4 → fi j < 11) (hye : ∀ j, j < 4 → ye j < 1901) : CE l G yX8_year cX8_year 3 (some .int) 2 0 0 [.ref (G.1 + 0), .int c, .int y] h (some (.int ((spYear ye c y).1))) (fun h1 => ∃ ve1 : Nat, ∃ rf1 : Nat → Int32, h1[1]? = some (oB 1 (lC G (nI nb) (nI sp) (nI fa) (nI ve1))) ∧ h1[2]? = some (aI 20 (nA m)) ∧ h1[3]? = some (aI 20 (nA se)) ∧ h1[4]? = some (aI 4 (nA ((spYear ye c y).2))) ∧ h1[5]? = some (aI 4 (nA fi)) ∧ h1[6]? = some (aI 40 W) ∧ h1[7]? = some (aI 40 Sn) ∧ h1[8]? = some (aI 40 Z) ∧ h1[9]? = some (aI 40 Ro) ∧ h1[10]? = some (aI 40 Co) ∧ h1[11]? = some (aL 40 Ba) ∧ h1[87]? = some (aI 7 rf1) ∧ rg2 1 11 87 87 h h1 ∧ (ve1 = ve + 1 ∨ (ve1 = ve ∧ (spYear ye c y).2 = ye))) := by
  refine cm_ofQ rfl (Nat.le_of_ble_eq_true rfl) [(0, .ref (G.1 + 0)), (1, .int c), (2, .int y)] rfl (fun QF hQF => ?_)
  refine aw_iload_n 1 dX8_year_0 rfl rfl ?_
  refine aw_dS [.int c] [] lX8_81 sX8_isCatalogue mX8_isCatalogue dX8_year_1 (bX8_isCatalogue (x := c) ) rfl (Nat.le_of_ble_eq_true rfl) (by decide) (by decide) rfl ?_
  refine aw_if_ne 13 dX8_year_4 (by decide) (fun c4 => ?_) (fun c4 => ?_)
  · have t4 := ite_1 c4
    refine aw_iload_n 2 dX8_year_13 rfl rfl ?_
    refine aw_sipush (1500) dX8_year_14 (by decide) ?_
    refine aw_icmp_ge 27 dX8_year_17 (by decide) (fun c17 => ?_) (fun c17 => ?_)
    · have d17 := (j_le (a := (1500)) (b := y.toInt) (rfl) (rfl)).mp c17
      refine aw_iload_n 2 dX8_year_27 rfl rfl ?_
      refine aw_sipush (1900) dX8_year_28 (by decide) ?_
      refine aw_icmp_le 41 dX8_year_31 (by decide) (fun c31 => ?_) (fun c31 => ?_)
      · have d31 := (j_le (a := y.toInt) (b := (1900)) (rfl) (rfl)).mp c31
        obtain ⟨a, bb_a, ee_a⟩ := i_nat (x := c) (N := 4) (by omega) (by omega)
        subst ee_a
        have tt_a : (nI a).toInt = (a : Int) := nI_toInt (by omega)
        have nn_a : tn (nI a) = a := tn_nI (by omega)
        obtain ⟨b, bb_b, ee_b⟩ := i_nat (x := y) (N := 1901) (by omega) (by omega)
        subst ee_b
        have tt_b : (nI b).toInt = (b : Int) := nI_toInt (by omega)
        have nn_b : tn (nI b) = b := tn_nI (by omega)
        refine aw_aload_n 0 dX8_year_41 rfl rfl ?_
        refine aw_get fX8_20 dX8_year_42 h0 rfl ?_
        refine aw_iload_n 1 dX8_year_45 rfl rfl ?_
        refine aw_iload_n 2 dX8_year_46 rfl rfl ?_
        refine aw_eV [.int (nI a), .int (nI b)] [] lX8_84 vX1_tellYear mX1_tellYear dX8_year_47 (aX1_tellYear (m := m) (se := se) (ye := ye) (fi := fi) (W := W) (Sn := Sn) (Z := Z) (Ro := Ro) (Co := Co) (Ba := Ba) (nb := nb) (sp := sp) (fa := fa) (ve := ve) (c := a) (y := b) h1 h2 h3 h4 h5 h6 h7 h8 h9 h10 h11 (by omega)) h1 rfl rfl rfl (Nat.le_of_ble_eq_true rfl) (by decide) (by decide) rfl (fun h136 q135 => ?_)
        obtain ⟨f137, f138, f139, f140, f141, f142, f143, f144, f145, f146, f147, k148⟩ := q135
        have f149 := rng_at k148 (by decide) h0
        have f150 := rng_at k148 (by decide) h87
        subst hQF
        have eS : spYear ye (nI a) (nI b) = ((nI (ye a)), un ye a b) := by unfold spYear; (repeat' split) <;> first | (exfalso; omega) | rfl | (simp only [nn_a, nn_b]; done)
        exact aw_iret rfl dX8_year_50 (by decide) (by decide) ⟨by rw [eS], _, _, f137, f138, f139, by rw [eS]; exact f140, f141, f142, f143, f144, f145, f146, f147, f150, rg2_tr (rg2_rf 1 11 87 87 h) (rg2_w k148 (by decide)), Or.inl rfl⟩
      · have d31 := mt (j_le (a := y.toInt) (b := (1900)) (rfl) (rfl)).mpr c31
        refine aw_aload_n 0 dX8_year_34 rfl rfl ?_
        refine aw_bipush (-6) dX8_year_35 (by decide) ?_
        refine aw_eV [.int (-6)] [] lX8_70 vX8_refuse mX8_refuse dX8_year_37 (bX8_refuse (jv := jv) (bv := bv) (rf := rf) (x := (-6)) (q := 6) h0 h87 (by decide) (by decide)) h0 rfl rfl rfl (Nat.le_of_ble_eq_true rfl) (by decide) (by decide) rfl (fun h153 q152 => ?_)
        obtain ⟨rf1151, f154, k155⟩ := q152
        have f156 := rng_at k155 (by decide) h0
        have f157 := rng_at k155 (by decide) h1
        have f158 := rng_at k155 (by decide) h2
        have f159 := rng_at k155 (by decide) h3
        have f160 := rng_at k155 (by decide) h4
        have f161 := rng_at k155 (by decide) h5
        have f162 := rng_at k155 (by decide) h6
        have f163 := rng_at k155 (by decide) h7
        have f164 := rng_at k155 (by decide) h8
        have f165 := rng_at k155 (by decide) h9
        have f166 := rng_at k155 (by decide) h10
        have f167 := rng_at k155 (by decide) h11
        subst hQF
        have eS : spYear ye c y = ((-6), ye) := by unfold spYear; (repeat' split) <;> first | (exfalso; omega) | rfl
        exact aw_iret rfl dX8_year_40 (by decide) (by decide) ⟨by rw [eS], _, _, f157, f158, f159, by rw [eS]; exact f160, f161, f162, f163, f164, f165, f166, f167, f154, rg2_tr (rg2_rf 1 11 87 87 h) (rg2_w k155 (by decide)), Or.inr ⟨rfl, by rw [eS]⟩⟩
    · have d17 := mt (j_le (a := (1500)) (b := y.toInt) (rfl) (rfl)).mpr c17
      refine aw_aload_n 0 dX8_year_20 rfl rfl ?_
      refine aw_bipush (-4) dX8_year_21 (by decide) ?_
      refine aw_eV [.int (-4)] [] lX8_70 vX8_refuse mX8_refuse dX8_year_23 (bX8_refuse (jv := jv) (bv := bv) (rf := rf) (x := (-4)) (q := 4) h0 h87 (by decide) (by decide)) h0 rfl rfl rfl (Nat.le_of_ble_eq_true rfl) (by decide) (by decide) rfl (fun h170 q169 => ?_)
      obtain ⟨rf1168, f171, k172⟩ := q169
      have f173 := rng_at k172 (by decide) h0
      have f174 := rng_at k172 (by decide) h1
      have f175 := rng_at k172 (by decide) h2
      have f176 := rng_at k172 (by decide) h3
      have f177 := rng_at k172 (by decide) h4
      have f178 := rng_at k172 (by decide) h5
      have f179 := rng_at k172 (by decide) h6
      have f180 := rng_at k172 (by decide) h7
      have f181 := rng_at k172 (by decide) h8
      have f182 := rng_at k172 (by decide) h9
      have f183 := rng_at k172 (by decide) h10
      have f184 := rng_at k172 (by decide) h11
      subst hQF
      have eS : spYear ye c y = ((-4), ye) := by unfold spYear; (repeat' split) <;> first | (exfalso; omega) | rfl
      exact aw_iret rfl dX8_year_26 (by decide) (by decide) ⟨by rw [eS], _, _, f174, f175, f176, by rw [eS]; exact f177, f178, f179, f180, f181, f182, f183, f184, f171, rg2_tr (rg2_rf 1 11 87 87 h) (rg2_w k172 (by decide)), Or.inr ⟨rfl, by rw [eS]⟩⟩
  · have t4 := ite_0 c4
    refine aw_aload_n 0 dX8_year_7 rfl rfl ?_
    refine aw_iconst (-1) dX8_year_8 (by decide) ?_
    refine aw_eV [.int (-1)] [] lX8_70 vX8_refuse mX8_refuse dX8_year_9 (bX8_refuse (jv := jv) (bv := bv) (rf := rf) (x := (-1)) (q := 1) h0 h87 (by decide) (by decide)) h0 rfl rfl rfl (Nat.le_of_ble_eq_true rfl) (by decide) (by decide) rfl (fun h187 q186 => ?_)
    obtain ⟨rf1185, f188, k189⟩ := q186
    have f190 := rng_at k189 (by decide) h0
    have f191 := rng_at k189 (by decide) h1
    have f192 := rng_at k189 (by decide) h2
    have f193 := rng_at k189 (by decide) h3
    have f194 := rng_at k189 (by decide) h4
    have f195 := rng_at k189 (by decide) h5
    have f196 := rng_at k189 (by decide) h6
    have f197 := rng_at k189 (by decide) h7
    have f198 := rng_at k189 (by decide) h8
    have f199 := rng_at k189 (by decide) h9
    have f200 := rng_at k189 (by decide) h10
    have f201 := rng_at k189 (by decide) h11
    subst hQF
    have eS : spYear ye c y = ((-1), ye) := by unfold spYear; (repeat' split) <;> first | (exfalso; omega) | rfl
    exact aw_iret rfl dX8_year_12 (by decide) (by decide) ⟨by rw [eS], _, _, f191, f192, f193, by rw [eS]; exact f194, f195, f196, f197, f198, f199, f200, f201, f188, rg2_tr (rg2_rf 1 11 87 87 h) (rg2_w k189 (by decide)), Or.inr ⟨rfl, by rw [eS]⟩⟩
set_option maxHeartbeats 4000000 in
theorem oX8_entry {l : Launch} {G : xG} {h : List va_E} {jv bv : Value} {rf : Nat → Int32} {m se ye fi : Nat → Nat} {W Sn Z Ro Co : Nat → Int32} {Ba : Nat → Int64} {nb sp fa ve : Nat} {c w s r u : Int32} (h0 : h[0]? = some (oB 8 (lX G (jv) (bv)))) (h87 : h[87]? = some (aI 7 rf)) (h1 : h[1]? = some (oB 1 (lC G (nI nb) (nI sp) (nI fa) (nI ve)))) (h2 : h[2]? = some (aI 20 (nA m))) (h3 : h[3]? = some (aI 20 (nA se))) (h4 : h[4]? = some (aI 4 (nA ye))) (h5 : h[5]? = some (aI 4 (nA fi))) (h6 : h[6]? = some (aI 40 W)) (h7 : h[7]? = some (aI 40 Sn)) (h8 : h[8]? = some (aI 40 Z)) (h9 : h[9]? = some (aI 40 Ro)) (h10 : h[10]? = some (aI 40 Co)) (h11 : h[11]? = some (aL 40 Ba)) (hm : ∀ j, j < 20 → m j ≤ j) (hse : ∀ j, j < 20 → se j < 20) (hfi : ∀ j, j < 4 → fi j < 11) (hye : ∀ j, j < 4 → ye j < 1901) : CE l G yX8_entry cX8_entry 6 (some .int) 2 0 0 [.ref (G.1 + 0), .int c, .int w, .int s, .int r, .int u] h (some (.int (spEntryC fi c w s r u))) (fun h1 => ∃ ve1 : Nat, ∃ rf1 : Nat → Int32, h1[1]? = some (oB 1 (lC G (nI nb) (nI sp) (nI fa) (nI ve1))) ∧ h1[2]? = some (aI 20 (nA m)) ∧ h1[3]? = some (aI 20 (nA se)) ∧ h1[4]? = some (aI 4 (nA ye)) ∧ h1[5]? = some (aI 4 (nA (spUn (0 ≤ (spEntryC fi c w s r u).toInt) fi (tn c) (fi (tn c) + 1)))) ∧ h1[6]? = some (aI 40 (spUp fi c (0 ≤ (spEntryC fi c w s r u).toInt) W w)) ∧ h1[7]? = some (aI 40 (spUp fi c (0 ≤ (spEntryC fi c w s r u).toInt) Sn (snF se w 20))) ∧ h1[8]? = some (aI 40 (spUp fi c (0 ≤ (spEntryC fi c w s r u).toInt) Z s)) ∧ h1[9]? = some (aI 40 (spUp fi c (0 ≤ (spEntryC fi c w s r u).toInt) Ro r)) ∧ h1[10]? = some (aI 40 (spUp fi c (0 ≤ (spEntryC fi c w s r u).toInt) Co u)) ∧ h1[11]? = some (aL 40 Ba) ∧ h1[87]? = some (aI 7 rf1) ∧ rg2 1 11 87 87 h h1 ∧ (ve1 = ve + 1 ∨ (ve1 = ve ∧ ¬ (0 ≤ (spEntryC fi c w s r u).toInt)))) := by
  refine cm_ofQ rfl (Nat.le_of_ble_eq_true rfl) [(0, .ref (G.1 + 0)), (1, .int c), (2, .int w), (3, .int s), (4, .int r), (5, .int u)] rfl (fun QF hQF => ?_)
  refine aw_iload_n 1 dX8_entry_0 rfl rfl ?_
  refine aw_dS [.int c] [] lX8_81 sX8_isCatalogue mX8_isCatalogue dX8_entry_1 (bX8_isCatalogue (x := c) ) rfl (Nat.le_of_ble_eq_true rfl) (by decide) (by decide) rfl ?_
  refine aw_if_eq 16 dX8_entry_4 (by decide) (fun c4 => ?_) (fun c4 => ?_)
  · have t4 := ite_0 c4
    refine aw_aload_n 0 dX8_entry_16 rfl rfl ?_
    refine aw_iconst (-1) dX8_entry_17 (by decide) ?_
    refine aw_eV [.int (-1)] [] lX8_70 vX8_refuse mX8_refuse dX8_entry_18 (bX8_refuse (jv := jv) (bv := bv) (rf := rf) (x := (-1)) (q := 1) h0 h87 (by decide) (by decide)) h0 rfl rfl rfl (Nat.le_of_ble_eq_true rfl) (by decide) (by decide) rfl (fun h204 q203 => ?_)
    obtain ⟨rf1202, f205, k206⟩ := q203
    have f207 := rng_at k206 (by decide) h0
    have f208 := rng_at k206 (by decide) h1
    have f209 := rng_at k206 (by decide) h2
    have f210 := rng_at k206 (by decide) h3
    have f211 := rng_at k206 (by decide) h4
    have f212 := rng_at k206 (by decide) h5
    have f213 := rng_at k206 (by decide) h6
    have f214 := rng_at k206 (by decide) h7
    have f215 := rng_at k206 (by decide) h8
    have f216 := rng_at k206 (by decide) h9
    have f217 := rng_at k206 (by decide) h10
    have f218 := rng_at k206 (by decide) h11
    subst hQF
    have eS : (spEntryC fi c w s r u) = (-1) := by unfold spEntryC; (repeat' split) <;> first | (exfalso; omega) | rfl
    have ok9 : ¬ 0 ≤ (spEntryC fi c w s r u).toInt := by rw [eS]; decide
    exact aw_iret rfl dX8_entry_21 (by decide) (by decide) ⟨by rw [eS], _, _, f208, f209, f210, f211, by rw [spUn_n ok9]; exact f212, by rw [spUp_n ok9]; exact f213, by rw [spUp_n ok9]; exact f214, by rw [spUp_n ok9]; exact f215, by rw [spUp_n ok9]; exact f216, by rw [spUp_n ok9]; exact f217, f218, f205, rg2_tr (rg2_rf 1 11 87 87 h) (rg2_w k206 (by decide)), Or.inr ⟨rfl, ok9⟩⟩
  · have t4 := ite_1 c4
    refine aw_iload_n 2 dX8_entry_7 rfl rfl ?_
    refine aw_bipush (20) dX8_entry_8 (by decide) ?_
    refine aw_dS [.int w, .int 20] [] lX8_87 sX8_hasOtherBits mX8_hasOtherBits dX8_entry_10 (bX8_hasOtherBits20 (x := w) ) rfl (Nat.le_of_ble_eq_true rfl) (by decide) (by decide) rfl ?_
    refine aw_if_eq 22 dX8_entry_13 (by decide) (fun c13 => ?_) (fun c13 => ?_)
    · have t13 := ite_0 c13
      refine aw_iload_n 2 dX8_entry_22 rfl rfl ?_
      refine aw_if_eq 41 dX8_entry_23 (by decide) (fun c23 => ?_) (fun c23 => ?_)
      · have d23 := (j_eq (a := w.toInt) (b := (0)) (rfl) (rfl)).mp c23
        refine aw_aload_n 0 dX8_entry_41 rfl rfl ?_
        refine aw_bipush (-4) dX8_entry_42 (by decide) ?_
        refine aw_eV [.int (-4)] [] lX8_70 vX8_refuse mX8_refuse dX8_entry_44 (bX8_refuse (jv := jv) (bv := bv) (rf := rf) (x := (-4)) (q := 4) h0 h87 (by decide) (by decide)) h0 rfl rfl rfl (Nat.le_of_ble_eq_true rfl) (by decide) (by decide) rfl (fun h221 q220 => ?_)
        obtain ⟨rf1219, f222, k223⟩ := q220
        have f224 := rng_at k223 (by decide) h0
        have f225 := rng_at k223 (by decide) h1
        have f226 := rng_at k223 (by decide) h2
        have f227 := rng_at k223 (by decide) h3
        have f228 := rng_at k223 (by decide) h4
        have f229 := rng_at k223 (by decide) h5
        have f230 := rng_at k223 (by decide) h6
        have f231 := rng_at k223 (by decide) h7
        have f232 := rng_at k223 (by decide) h8
        have f233 := rng_at k223 (by decide) h9
        have f234 := rng_at k223 (by decide) h10
        have f235 := rng_at k223 (by decide) h11
        subst hQF
        have eS : (spEntryC fi c w s r u) = (-4) := by unfold spEntryC; (repeat' split) <;> first | (exfalso; omega) | rfl
        have ok9 : ¬ 0 ≤ (spEntryC fi c w s r u).toInt := by rw [eS]; decide
        exact aw_iret rfl dX8_entry_47 (by decide) (by decide) ⟨by rw [eS], _, _, f225, f226, f227, f228, by rw [spUn_n ok9]; exact f229, by rw [spUp_n ok9]; exact f230, by rw [spUp_n ok9]; exact f231, by rw [spUp_n ok9]; exact f232, by rw [spUp_n ok9]; exact f233, by rw [spUp_n ok9]; exact f234, f235, f222, rg2_tr (rg2_rf 1 11 87 87 h) (rg2_w k223 (by decide)), Or.inr ⟨rfl, ok9⟩⟩
      · have d23 := mt (j_eq (a := w.toInt) (b := (0)) (rfl) (rfl)).mpr c23
        refine aw_iload_n 3 dX8_entry_26 rfl rfl ?_
        refine aw_iconst (1) dX8_entry_27 (by decide) ?_
        refine aw_icmp_lt 41 dX8_entry_28 (by decide) (fun c28 => ?_) (fun c28 => ?_)
        · have d28 := (j_lt (a := s.toInt) (b := (1)) (rfl) (rfl)).mp c28
          refine aw_aload_n 0 dX8_entry_41 rfl rfl ?_
          refine aw_bipush (-4) dX8_entry_42 (by decide) ?_
          refine aw_eV [.int (-4)] [] lX8_70 vX8_refuse mX8_refuse dX8_entry_44 (bX8_refuse (jv := jv) (bv := bv) (rf := rf) (x := (-4)) (q := 4) h0 h87 (by decide) (by decide)) h0 rfl rfl rfl (Nat.le_of_ble_eq_true rfl) (by decide) (by decide) rfl (fun h238 q237 => ?_)
          obtain ⟨rf1236, f239, k240⟩ := q237
          have f241 := rng_at k240 (by decide) h0
          have f242 := rng_at k240 (by decide) h1
          have f243 := rng_at k240 (by decide) h2
          have f244 := rng_at k240 (by decide) h3
          have f245 := rng_at k240 (by decide) h4
          have f246 := rng_at k240 (by decide) h5
          have f247 := rng_at k240 (by decide) h6
          have f248 := rng_at k240 (by decide) h7
          have f249 := rng_at k240 (by decide) h8
          have f250 := rng_at k240 (by decide) h9
          have f251 := rng_at k240 (by decide) h10
          have f252 := rng_at k240 (by decide) h11
          subst hQF
          have eS : (spEntryC fi c w s r u) = (-4) := by unfold spEntryC; (repeat' split) <;> first | (exfalso; omega) | rfl
          have ok9 : ¬ 0 ≤ (spEntryC fi c w s r u).toInt := by rw [eS]; decide
          exact aw_iret rfl dX8_entry_47 (by decide) (by decide) ⟨by rw [eS], _, _, f242, f243, f244, f245, by rw [spUn_n ok9]; exact f246, by rw [spUp_n ok9]; exact f247, by rw [spUp_n ok9]; exact f248, by rw [spUp_n ok9]; exact f249, by rw [spUp_n ok9]; exact f250, by rw [spUp_n ok9]; exact f251, f252, f239, rg2_tr (rg2_rf 1 11 87 87 h) (rg2_w k240 (by decide)), Or.inr ⟨rfl, ok9⟩⟩
        · have d28 := mt (j_lt (a := s.toInt) (b := (1)) (rfl) (rfl)).mpr c28
          refine aw_iload 4 dX8_entry_31 rfl ?_
          refine aw_if_lt 41 dX8_entry_33 (by decide) (fun c33 => ?_) (fun c33 => ?_)
          · have d33 := (j_lt (a := r.toInt) (b := (0)) (rfl) (rfl)).mp c33
            refine aw_aload_n 0 dX8_entry_41 rfl rfl ?_
            refine aw_bipush (-4) dX8_entry_42 (by decide) ?_
            refine aw_eV [.int (-4)] [] lX8_70 vX8_refuse mX8_refuse dX8_entry_44 (bX8_refuse (jv := jv) (bv := bv) (rf := rf) (x := (-4)) (q := 4) h0 h87 (by decide) (by decide)) h0 rfl rfl rfl (Nat.le_of_ble_eq_true rfl) (by decide) (by decide) rfl (fun h255 q254 => ?_)
            obtain ⟨rf1253, f256, k257⟩ := q254
            have f258 := rng_at k257 (by decide) h0
            have f259 := rng_at k257 (by decide) h1
            have f260 := rng_at k257 (by decide) h2
            have f261 := rng_at k257 (by decide) h3
            have f262 := rng_at k257 (by decide) h4
            have f263 := rng_at k257 (by decide) h5
            have f264 := rng_at k257 (by decide) h6
            have f265 := rng_at k257 (by decide) h7
            have f266 := rng_at k257 (by decide) h8
            have f267 := rng_at k257 (by decide) h9
            have f268 := rng_at k257 (by decide) h10
            have f269 := rng_at k257 (by decide) h11
            subst hQF
            have eS : (spEntryC fi c w s r u) = (-4) := by unfold spEntryC; (repeat' split) <;> first | (exfalso; omega) | rfl
            have ok9 : ¬ 0 ≤ (spEntryC fi c w s r u).toInt := by rw [eS]; decide
            exact aw_iret rfl dX8_entry_47 (by decide) (by decide) ⟨by rw [eS], _, _, f259, f260, f261, f262, by rw [spUn_n ok9]; exact f263, by rw [spUp_n ok9]; exact f264, by rw [spUp_n ok9]; exact f265, by rw [spUp_n ok9]; exact f266, by rw [spUp_n ok9]; exact f267, by rw [spUp_n ok9]; exact f268, f269, f256, rg2_tr (rg2_rf 1 11 87 87 h) (rg2_w k257 (by decide)), Or.inr ⟨rfl, ok9⟩⟩
          · have d33 := mt (j_lt (a := r.toInt) (b := (0)) (rfl) (rfl)).mpr c33
            refine aw_iload 5 dX8_entry_36 rfl ?_
            refine aw_if_ge 48 dX8_entry_38 (by decide) (fun c38 => ?_) (fun c38 => ?_)
            · have d38 := (j_le (a := (0)) (b := u.toInt) (rfl) (rfl)).mp c38
              obtain ⟨a, bb_a, ee_a⟩ := i_nat (x := c) (N := 4) (by omega) (by omega)
              subst ee_a
              have tt_a : (nI a).toInt = (a : Int) := nI_toInt (by omega)
              have nn_a : tn (nI a) = a := tn_nI (by omega)
              refine aw_iload_n 3 dX8_entry_48 rfl rfl ?_
              refine aw_sipush (200) dX8_entry_49 (by decide) ?_
              refine aw_icmp_gt 83 dX8_entry_52 (by decide) (fun c52 => ?_) (fun c52 => ?_)
              · have d52 := (j_lt (a := (200)) (b := s.toInt) (rfl) (rfl)).mp c52
                refine aw_aload_n 0 dX8_entry_83 rfl rfl ?_
                refine aw_bipush (-6) dX8_entry_84 (by decide) ?_
                refine aw_eV [.int (-6)] [] lX8_70 vX8_refuse mX8_refuse dX8_entry_86 (bX8_refuse (jv := jv) (bv := bv) (rf := rf) (x := (-6)) (q := 6) h0 h87 (by decide) (by decide)) h0 rfl rfl rfl (Nat.le_of_ble_eq_true rfl) (by decide) (by decide) rfl (fun h272 q271 => ?_)
                obtain ⟨rf1270, f273, k274⟩ := q271
                have f275 := rng_at k274 (by decide) h0
                have f276 := rng_at k274 (by decide) h1
                have f277 := rng_at k274 (by decide) h2
                have f278 := rng_at k274 (by decide) h3
                have f279 := rng_at k274 (by decide) h4
                have f280 := rng_at k274 (by decide) h5
                have f281 := rng_at k274 (by decide) h6
                have f282 := rng_at k274 (by decide) h7
                have f283 := rng_at k274 (by decide) h8
                have f284 := rng_at k274 (by decide) h9
                have f285 := rng_at k274 (by decide) h10
                have f286 := rng_at k274 (by decide) h11
                subst hQF
                have eS : (spEntryC fi (nI a) w s r u) = (-6) := by unfold spEntryC; simp only [nn_a]; (repeat' split) <;> first | (exfalso; omega) | rfl
                have ok9 : ¬ 0 ≤ (spEntryC fi (nI a) w s r u).toInt := by rw [eS]; decide
                exact aw_iret rfl dX8_entry_89 (by decide) (by decide) ⟨by rw [eS], _, _, f276, f277, f278, f279, by rw [spUn_n ok9]; exact f280, by rw [spUp_n ok9]; exact f281, by rw [spUp_n ok9]; exact f282, by rw [spUp_n ok9]; exact f283, by rw [spUp_n ok9]; exact f284, by rw [spUp_n ok9]; exact f285, f286, f273, rg2_tr (rg2_rf 1 11 87 87 h) (rg2_w k274 (by decide)), Or.inr ⟨rfl, ok9⟩⟩
              · have d52 := mt (j_lt (a := (200)) (b := s.toInt) (rfl) (rfl)).mpr c52
                refine aw_iload 4 dX8_entry_55 rfl ?_
                refine aw_bipush (9) dX8_entry_57 (by decide) ?_
                refine aw_icmp_gt 83 dX8_entry_59 (by decide) (fun c59 => ?_) (fun c59 => ?_)
                · have d59 := (j_lt (a := (9)) (b := r.toInt) (rfl) (rfl)).mp c59
                  refine aw_aload_n 0 dX8_entry_83 rfl rfl ?_
                  refine aw_bipush (-6) dX8_entry_84 (by decide) ?_
                  refine aw_eV [.int (-6)] [] lX8_70 vX8_refuse mX8_refuse dX8_entry_86 (bX8_refuse (jv := jv) (bv := bv) (rf := rf) (x := (-6)) (q := 6) h0 h87 (by decide) (by decide)) h0 rfl rfl rfl (Nat.le_of_ble_eq_true rfl) (by decide) (by decide) rfl (fun h289 q288 => ?_)
                  obtain ⟨rf1287, f290, k291⟩ := q288
                  have f292 := rng_at k291 (by decide) h0
                  have f293 := rng_at k291 (by decide) h1
                  have f294 := rng_at k291 (by decide) h2
                  have f295 := rng_at k291 (by decide) h3
                  have f296 := rng_at k291 (by decide) h4
                  have f297 := rng_at k291 (by decide) h5
                  have f298 := rng_at k291 (by decide) h6
                  have f299 := rng_at k291 (by decide) h7
                  have f300 := rng_at k291 (by decide) h8
                  have f301 := rng_at k291 (by decide) h9
                  have f302 := rng_at k291 (by decide) h10
                  have f303 := rng_at k291 (by decide) h11
                  subst hQF
                  have eS : (spEntryC fi (nI a) w s r u) = (-6) := by unfold spEntryC; simp only [nn_a]; (repeat' split) <;> first | (exfalso; omega) | rfl
                  have ok9 : ¬ 0 ≤ (spEntryC fi (nI a) w s r u).toInt := by rw [eS]; decide
                  exact aw_iret rfl dX8_entry_89 (by decide) (by decide) ⟨by rw [eS], _, _, f293, f294, f295, f296, by rw [spUn_n ok9]; exact f297, by rw [spUp_n ok9]; exact f298, by rw [spUp_n ok9]; exact f299, by rw [spUp_n ok9]; exact f300, by rw [spUp_n ok9]; exact f301, by rw [spUp_n ok9]; exact f302, f303, f290, rg2_tr (rg2_rf 1 11 87 87 h) (rg2_w k291 (by decide)), Or.inr ⟨rfl, ok9⟩⟩
                · have d59 := mt (j_lt (a := (9)) (b := r.toInt) (rfl) (rfl)).mpr c59
                  refine aw_iload 5 dX8_entry_62 rfl ?_
                  refine aw_bipush (99) dX8_entry_64 (by decide) ?_
                  refine aw_icmp_gt 83 dX8_entry_66 (by decide) (fun c66 => ?_) (fun c66 => ?_)
                  · have d66 := (j_lt (a := (99)) (b := u.toInt) (rfl) (rfl)).mp c66
                    refine aw_aload_n 0 dX8_entry_83 rfl rfl ?_
                    refine aw_bipush (-6) dX8_entry_84 (by decide) ?_
                    refine aw_eV [.int (-6)] [] lX8_70 vX8_refuse mX8_refuse dX8_entry_86 (bX8_refuse (jv := jv) (bv := bv) (rf := rf) (x := (-6)) (q := 6) h0 h87 (by decide) (by decide)) h0 rfl rfl rfl (Nat.le_of_ble_eq_true rfl) (by decide) (by decide) rfl (fun h306 q305 => ?_)
                    obtain ⟨rf1304, f307, k308⟩ := q305
                    have f309 := rng_at k308 (by decide) h0
                    have f310 := rng_at k308 (by decide) h1
                    have f311 := rng_at k308 (by decide) h2
                    have f312 := rng_at k308 (by decide) h3
                    have f313 := rng_at k308 (by decide) h4
                    have f314 := rng_at k308 (by decide) h5
                    have f315 := rng_at k308 (by decide) h6
                    have f316 := rng_at k308 (by decide) h7
                    have f317 := rng_at k308 (by decide) h8
                    have f318 := rng_at k308 (by decide) h9
                    have f319 := rng_at k308 (by decide) h10
                    have f320 := rng_at k308 (by decide) h11
                    subst hQF
                    have eS : (spEntryC fi (nI a) w s r u) = (-6) := by unfold spEntryC; simp only [nn_a]; (repeat' split) <;> first | (exfalso; omega) | rfl
                    have ok9 : ¬ 0 ≤ (spEntryC fi (nI a) w s r u).toInt := by rw [eS]; decide
                    exact aw_iret rfl dX8_entry_89 (by decide) (by decide) ⟨by rw [eS], _, _, f310, f311, f312, f313, by rw [spUn_n ok9]; exact f314, by rw [spUp_n ok9]; exact f315, by rw [spUp_n ok9]; exact f316, by rw [spUp_n ok9]; exact f317, by rw [spUp_n ok9]; exact f318, by rw [spUp_n ok9]; exact f319, f320, f307, rg2_tr (rg2_rf 1 11 87 87 h) (rg2_w k308 (by decide)), Or.inr ⟨rfl, ok9⟩⟩
                  · have d66 := mt (j_lt (a := (99)) (b := u.toInt) (rfl) (rfl)).mpr c66
                    refine aw_aload_n 0 dX8_entry_69 rfl rfl ?_
                    refine aw_get fX8_20 dX8_entry_70 h0 rfl ?_
                    refine aw_get fX8_91 dX8_entry_73 h1 rfl ?_
                    refine aw_iload_n 1 dX8_entry_76 rfl rfl ?_
                    refine aw_iald a (rfl) (by omega) (by decide) dX8_entry_77 h5 ?_
                    refine aw_toe (nI (fi a)) (rfl) ?_
                    have b321 := hfi a (by omega)
                    refine aw_bipush (10) dX8_entry_78 (by decide) ?_
                    refine aw_icmp_lt 90 dX8_entry_80 (by decide) (fun c80 => ?_) (fun c80 => ?_)
                    · have d80 := (nv_lt (a := fi a) (b := 10) (rfl) (rfl) (by omega) (by omega)).mp c80
                      refine aw_aload_n 0 dX8_entry_90 rfl rfl ?_
                      refine aw_get fX8_20 dX8_entry_91 h0 rfl ?_
                      refine aw_iload_n 1 dX8_entry_94 rfl rfl ?_
                      refine aw_iload_n 2 dX8_entry_95 rfl rfl ?_
                      refine aw_iload_n 3 dX8_entry_96 rfl rfl ?_
                      refine aw_iload 4 dX8_entry_97 rfl ?_
                      refine aw_iload 5 dX8_entry_99 rfl ?_
                      refine aw_eV [.int (nI a), .int w, .int s, .int r, .int u] [] lX8_94 vX1_addEntry mX1_addEntry dX8_entry_101 (aX1_addEntry (m := m) (se := se) (ye := ye) (fi := fi) (W := W) (Sn := Sn) (Z := Z) (Ro := Ro) (Co := Co) (Ba := Ba) (nb := nb) (sp := sp) (fa := fa) (ve := ve) (c := a) (w := w) (s := s) (r := r) (u := u) h1 h2 h3 h4 h5 h6 h7 h8 h9 h10 h11 (by omega) (by omega)) h1 rfl rfl rfl (Nat.le_of_ble_eq_true rfl) (by decide) (by decide) rfl (fun h323 q322 => ?_)
                      obtain ⟨f324, f325, f326, f327, f328, f329, f330, f331, f332, f333, f334, k335⟩ := q322
                      have f336 := rng_at k335 (by decide) h0
                      have f337 := rng_at k335 (by decide) h87
                      subst hQF
                      have eS : (spEntryC fi (nI a) w s r u) = (nI (fi a)) := by unfold spEntryC; simp only [nn_a]; (repeat' split) <;> first | (exfalso; omega) | rfl
                      have ok9 : 0 ≤ (spEntryC fi (nI a) w s r u).toInt := by rw [eS, nI_toInt (by omega)]; omega
                      exact aw_iret rfl dX8_entry_104 (by decide) (by decide) ⟨by rw [eS], _, _, f324, f325, f326, f327, by rw [spUn_y ok9, nn_a]; exact f328, by rw [spUp_y ok9, nn_a]; exact f329, by rw [spUp_y ok9, nn_a]; exact f330, by rw [spUp_y ok9, nn_a]; exact f331, by rw [spUp_y ok9, nn_a]; exact f332, by rw [spUp_y ok9, nn_a]; exact f333, f334, f337, rg2_tr (rg2_rf 1 11 87 87 h) (rg2_w k335 (by decide)), Or.inl rfl⟩
                    · have d80 := mt (nv_lt (a := fi a) (b := 10) (rfl) (rfl) (by omega) (by omega)).mpr c80
                      refine aw_aload_n 0 dX8_entry_83 rfl rfl ?_
                      refine aw_bipush (-6) dX8_entry_84 (by decide) ?_
                      refine aw_eV [.int (-6)] [] lX8_70 vX8_refuse mX8_refuse dX8_entry_86 (bX8_refuse (jv := jv) (bv := bv) (rf := rf) (x := (-6)) (q := 6) h0 h87 (by decide) (by decide)) h0 rfl rfl rfl (Nat.le_of_ble_eq_true rfl) (by decide) (by decide) rfl (fun h340 q339 => ?_)
                      obtain ⟨rf1338, f341, k342⟩ := q339
                      have f343 := rng_at k342 (by decide) h0
                      have f344 := rng_at k342 (by decide) h1
                      have f345 := rng_at k342 (by decide) h2
                      have f346 := rng_at k342 (by decide) h3
                      have f347 := rng_at k342 (by decide) h4
                      have f348 := rng_at k342 (by decide) h5
                      have f349 := rng_at k342 (by decide) h6
                      have f350 := rng_at k342 (by decide) h7
                      have f351 := rng_at k342 (by decide) h8
                      have f352 := rng_at k342 (by decide) h9
                      have f353 := rng_at k342 (by decide) h10
                      have f354 := rng_at k342 (by decide) h11
                      subst hQF
                      have eS : (spEntryC fi (nI a) w s r u) = (-6) := by unfold spEntryC; simp only [nn_a]; (repeat' split) <;> first | (exfalso; omega) | rfl
                      have ok9 : ¬ 0 ≤ (spEntryC fi (nI a) w s r u).toInt := by rw [eS]; decide
                      exact aw_iret rfl dX8_entry_89 (by decide) (by decide) ⟨by rw [eS], _, _, f344, f345, f346, f347, by rw [spUn_n ok9]; exact f348, by rw [spUp_n ok9]; exact f349, by rw [spUp_n ok9]; exact f350, by rw [spUp_n ok9]; exact f351, by rw [spUp_n ok9]; exact f352, by rw [spUp_n ok9]; exact f353, f354, f341, rg2_tr (rg2_rf 1 11 87 87 h) (rg2_w k342 (by decide)), Or.inr ⟨rfl, ok9⟩⟩
            · have d38 := mt (j_le (a := (0)) (b := u.toInt) (rfl) (rfl)).mpr c38
              refine aw_aload_n 0 dX8_entry_41 rfl rfl ?_
              refine aw_bipush (-4) dX8_entry_42 (by decide) ?_
              refine aw_eV [.int (-4)] [] lX8_70 vX8_refuse mX8_refuse dX8_entry_44 (bX8_refuse (jv := jv) (bv := bv) (rf := rf) (x := (-4)) (q := 4) h0 h87 (by decide) (by decide)) h0 rfl rfl rfl (Nat.le_of_ble_eq_true rfl) (by decide) (by decide) rfl (fun h357 q356 => ?_)
              obtain ⟨rf1355, f358, k359⟩ := q356
              have f360 := rng_at k359 (by decide) h0
              have f361 := rng_at k359 (by decide) h1
              have f362 := rng_at k359 (by decide) h2
              have f363 := rng_at k359 (by decide) h3
              have f364 := rng_at k359 (by decide) h4
              have f365 := rng_at k359 (by decide) h5
              have f366 := rng_at k359 (by decide) h6
              have f367 := rng_at k359 (by decide) h7
              have f368 := rng_at k359 (by decide) h8
              have f369 := rng_at k359 (by decide) h9
              have f370 := rng_at k359 (by decide) h10
              have f371 := rng_at k359 (by decide) h11
              subst hQF
              have eS : (spEntryC fi c w s r u) = (-4) := by unfold spEntryC; (repeat' split) <;> first | (exfalso; omega) | rfl
              have ok9 : ¬ 0 ≤ (spEntryC fi c w s r u).toInt := by rw [eS]; decide
              exact aw_iret rfl dX8_entry_47 (by decide) (by decide) ⟨by rw [eS], _, _, f361, f362, f363, f364, by rw [spUn_n ok9]; exact f365, by rw [spUp_n ok9]; exact f366, by rw [spUp_n ok9]; exact f367, by rw [spUp_n ok9]; exact f368, by rw [spUp_n ok9]; exact f369, by rw [spUp_n ok9]; exact f370, f371, f358, rg2_tr (rg2_rf 1 11 87 87 h) (rg2_w k359 (by decide)), Or.inr ⟨rfl, ok9⟩⟩
    · have t13 := ite_1 c13
      refine aw_aload_n 0 dX8_entry_16 rfl rfl ?_
      refine aw_iconst (-1) dX8_entry_17 (by decide) ?_
      refine aw_eV [.int (-1)] [] lX8_70 vX8_refuse mX8_refuse dX8_entry_18 (bX8_refuse (jv := jv) (bv := bv) (rf := rf) (x := (-1)) (q := 1) h0 h87 (by decide) (by decide)) h0 rfl rfl rfl (Nat.le_of_ble_eq_true rfl) (by decide) (by decide) rfl (fun h374 q373 => ?_)
      obtain ⟨rf1372, f375, k376⟩ := q373
      have f377 := rng_at k376 (by decide) h0
      have f378 := rng_at k376 (by decide) h1
      have f379 := rng_at k376 (by decide) h2
      have f380 := rng_at k376 (by decide) h3
      have f381 := rng_at k376 (by decide) h4
      have f382 := rng_at k376 (by decide) h5
      have f383 := rng_at k376 (by decide) h6
      have f384 := rng_at k376 (by decide) h7
      have f385 := rng_at k376 (by decide) h8
      have f386 := rng_at k376 (by decide) h9
      have f387 := rng_at k376 (by decide) h10
      have f388 := rng_at k376 (by decide) h11
      subst hQF
      have eS : (spEntryC fi c w s r u) = (-1) := by unfold spEntryC; (repeat' split) <;> first | (exfalso; omega) | rfl
      have ok9 : ¬ 0 ≤ (spEntryC fi c w s r u).toInt := by rw [eS]; decide
      exact aw_iret rfl dX8_entry_21 (by decide) (by decide) ⟨by rw [eS], _, _, f378, f379, f380, f381, by rw [spUn_n ok9]; exact f382, by rw [spUp_n ok9]; exact f383, by rw [spUp_n ok9]; exact f384, by rw [spUp_n ok9]; exact f385, by rw [spUp_n ok9]; exact f386, by rw [spUp_n ok9]; exact f387, f388, f375, rg2_tr (rg2_rf 1 11 87 87 h) (rg2_w k376 (by decide)), Or.inr ⟨rfl, ok9⟩⟩
