set_option maxHeartbeats 4000000 in
theorem aX3_tellWays {l : Launch} {G : xG} {h : List va_E} {J u v ro co : Nat} {rc : Nat → Nat} {lk bs wy nw : Nat → Int32} {P pv : Nat} {su wa : Int32} {pt ce : Nat → Int32} {lx : Nat → Nat → Nat} (hJ : h[J]? = some (oB 3 (lJ G J (.ref (G.1 + u)) (.ref (G.1 + v)) (nI ro) (nI co)))) (hJ_1 : h[J + 1]? = some (aI 100 lk)) (hJ_2 : h[J + 2]? = some (aI 11 (nA rc))) (hJ_3 : h[J + 3]? = some (aI 11264 bs)) (hu : h[u]? = some (aI 1024 wy)) (hv : h[v]? = some (aI 1024 nw)) (hP : h[P]? = some (oB 4 (lG G P su wa (nI pv)))) (hP_1 : h[P + 1]? = some (aI 10 pt)) (hP_2 : h[P + 2]? = some (aZ 10 ce)) (qu : J + 4 ≤ u ∧ u ≤ J + 5) (qv : J + 4 ≤ v ∧ v ≤ J + 5) (hro : ro ≤ 10) (hco : co ≤ 10) (hrc : ∀ j, j < 11 → rc j < 1024) (quv : (u ≠ v ∧ wZ wy nw)) (qP : P + 2 < J) (hL : jL lx ro co lk) (hR : jR lx ro co rc) (hlx3 : ∀ i k, lx i k ≤ 300) (hB : jB lx ro co rc 0 bs) : CE l G yX3_tellWays cX3_tellWays 6 none 3 0 0 [.ref (G.1 + J), .ref (G.1 + P)] h none (fun h1 => ∃ u1 : Nat, ∃ v1 : Nat, ∃ wy1 : Nat → Int32, ∃ nw1 : Nat → Int32, ∃ wa1 : Int32, ∃ ce1 : Nat → Int32, h1[J]? = some (oB 3 (lJ G J (.ref (G.1 + u1)) (.ref (G.1 + v1)) (nI ro) (nI co))) ∧ h1[J + 1]? = some (aI 100 lk) ∧ h1[J + 2]? = some (aI 11 (nA rc)) ∧ h1[J + 3]? = some (aI 11264 bs) ∧ h1[u1]? = some (aI 1024 wy1) ∧ h1[v1]? = some (aI 1024 nw1) ∧ h1[P]? = some (oB 4 (lG G P su wa1 (nI pv))) ∧ h1[P + 1]? = some (aI 10 pt) ∧ h1[P + 2]? = some (aZ 10 ce1) ∧ rg2 P (P + 2) J (J + 5) h h1 ∧ (J + 4 ≤ u1 ∧ u1 ≤ J + 5) ∧ (J + 4 ≤ v1 ∧ v1 ≤ J + 5) ∧ (u1 ≠ v1 ∧ wZ wy1 nw1) ∧ wa1 = nI (min 1000000 (jC lx co ro 0 0)) ∧ (∀ j, j < ro → ce1 j = if jU lx co ro j then 1 else 0)) := by
  refine cm_ofQ rfl (Nat.le_of_ble_eq_true rfl) [(0, .ref (G.1 + J)), (1, .ref (G.1 + P))] rfl (fun QF hQF => ?_)
  refine aw_aload_n 0 dX3_tellWays_0 rfl rfl ?_
  refine aw_get fX3_21 dX3_tellWays_1 hJ rfl ?_
  refine aw_iconst (0) dX3_tellWays_4 (by decide) ?_
  refine aw_iconst (1) dX3_tellWays_5 (by decide) ?_
  refine aw_iast 0 (rfl) (by decide) (by decide) dX3_tellWays_6 hu ?_
  refine aw_iconst (0) dX3_tellWays_7 (by decide) ?_
  refine aw_istore_n [(2, .int 0), (0, .ref (G.1 + J)), (1, .ref (G.1 + P))] dX3_tellWays_8 rfl (by decide) rfl ?_
  refine aw_lv [(2, .int 0), (1, .ref (G.1 + P)), (0, .ref (G.1 + J))] [0, 2, 1] rfl ?_
  suffices L163 : ∀ (mm : Nat) (i : Nat) (u1 : Nat) (v1 : Nat) (wy1 : Nat → Int32) (nw1 : Nat → Int32) (ce1 : Nat → Int32) (f1 : Nat → Nat) (h152 : List va_E), ro - i < mm → (i ≤ ro) → (J + 4 ≤ u1 ∧ u1 ≤ J + 5) → (J + 4 ≤ v1 ∧ v1 ≤ J + 5) → (u1 ≠ v1) → (yF lx co ro i f1) → (wX wy1 f1) → (∀ t, t < 1024 → nw1 t = 0) → (∀ j, j < i → ce1 j = if jU lx co ro j then 1 else 0) → h152[J]? = some (oB 3 (lJ G J (.ref (G.1 + u1)) (.ref (G.1 + v1)) (nI ro) (nI co))) → h152[J + 1]? = some (aI 100 lk) → h152[J + 2]? = some (aI 11 (nA rc)) → h152[J + 3]? = some (aI 11264 bs) → h152[u1]? = some (aI 1024 wy1) → h152[v1]? = some (aI 1024 nw1) → h152[P]? = some (oB 4 (lG G P su wa (nI pv))) → h152[P + 1]? = some (aI 10 pt) → h152[P + 2]? = some (aZ 10 ce1) → rg2 P (P + 2) J (J + 5) h h152 → AW l G yX3_tellWays cX3_tellWays 6 none (xR 3 0 0) (fun _ _ => True) QF 0 0 9 [(2, .int (nI i)), (1, .ref (G.1 + P)), (0, .ref (G.1 + J))] [] h152 from L163 (ro - 0 + 1) 0 u v (upd wy 0 1) nw ce (un (fun _ => 0) 0 1) _ (Nat.lt_succ_self _) (Nat.zero_le _) (qu) (qv) (by omega) (yF_0) (wX_u (wX_0 quv.2.1) (by decide)) (quv.2.2) (fun q h8 => absurd h8 (Nat.not_lt_zero _)) (gn (by omega) (hJ)) (gn (by omega) (hJ_1)) (gn (by omega) (hJ_2)) (gn (by omega) (hJ_3)) (gs hu) (gn (by omega) (hv)) (gn (by omega) (hP)) (gn (by omega) (hP_1)) (gn (by omega) (hP_2)) (rg2_set (rg2_rf P (P + 2) J (J + 5) h) (by omega))
  intro mm
  induction mm with
  | zero =>
    intro i u1 v1 wy1 nw1 ce1 f1 h152 hmm hi hu1 hv1 huv1 hF hw hz hc f153 f154 f155 f156 f157 f158 f159 f160 f161 k162
    exact absurd hmm (Nat.not_lt_zero _)
  | succ mm ih163 =>
    intro i u1 v1 wy1 nw1 ce1 f1 h152 hmm hi hu1 hv1 huv1 hF hw hz hc f153 f154 f155 f156 f157 f158 f159 f160 f161 k162
    refine aw_iload_n 0 dX3_tellWays_9 rfl rfl ?_
    refine aw_aload_n 2 dX3_tellWays_10 rfl rfl ?_
    refine aw_get fX3_27 dX3_tellWays_11 f153 rfl ?_
    refine aw_icmp_ge 137 dX3_tellWays_14 (by decide) (fun c14 => ?_) (fun c14 => ?_)
    · have d14 := (nv_le (a := ro) (b := i) (rfl) (rfl) (by omega) (by omega)).mp c14
      refine aw_aload_n 1 dX3_tellWays_137 rfl rfl ?_
      refine aw_aload_n 2 dX3_tellWays_138 rfl rfl ?_
      refine aw_aload_n 2 dX3_tellWays_139 rfl rfl ?_
      refine aw_get fX3_15 dX3_tellWays_140 f153 rfl ?_
      refine aw_aload_n 2 dX3_tellWays_143 rfl rfl ?_
      refine aw_get fX3_27 dX3_tellWays_144 f153 rfl ?_
      refine aw_iald ro (rfl) (by omega) (by decide) dX3_tellWays_147 f155 ?_
      refine aw_toe (nI (rc ro)) (rfl) ?_
      have b164 := hrc ro (by omega)
      refine aw_eV [.int (nI (rc ro))] [.ref (G.1 + P)] lX3_90 vX3_sumWays mX3_sumWays dX3_tellWays_148 (aX3_sumWays (J := J) (u := u1) (v := v1) (ro := ro) (co := co) (rc := rc) (lk := lk) (bs := bs) (wy := wy1) (nw := nw1) (f := f1) (lx := lx) f153 f154 f155 f156 f157 f158 hu1 hv1 huv1 (by omega) (by omega) hrc hR (by rw [show i = ro by omega] at hF; exact hF) hw) f153 rfl rfl rfl (Nat.le_of_ble_eq_true rfl) (by decide) (by decide) rfl (fun h167 q166 => ?_)
      obtain ⟨wy1165, f168, f169, f170, f171, f172, f173, k174, p175⟩ := q166
      have f176 := rng_at k174 (by omega) f159
      have f177 := rng_at k174 (by omega) f160
      have f178 := rng_at k174 (by omega) f161
      refine aw_putQ fX3_93 dX3_tellWays_151 (lG G P su (nI (min 1000000 (jC lx co ro 0 0))) (nI pv)) f176 rfl rfl rfl (Nat.le_of_ble_eq_true rfl) rfl ?_
      subst hQF
      exact aw_vret rfl dX3_tellWays_154 (by decide) (by decide) ⟨rfl, _, _, _, _, _, _, (gn (by omega) (f168)), (gn (by omega) (f169)), (gn (by omega) (f170)), (gn (by omega) (f171)), (gn (by omega) (f172)), (gn (by omega) (f173)), (gs f176), (gn (by omega) (f177)), (gn (by omega) (f178)), rg2_set (rg2_tr (k162) (rg2_w k174 (by omega))) (by omega), hu1, hv1, ⟨huv1, p175, hz⟩, rfl, fun j hj => hc j (by omega)⟩
    · have d14 := mt (nv_le (a := ro) (b := i) (rfl) (rfl) (by omega) (by omega)).mpr c14
      refine aw_iconst (0) dX3_tellWays_17 (by decide) ?_
      refine aw_istore_n [(3, .int 0), (2, .int (nI i)), (1, .ref (G.1 + P)), (0, .ref (G.1 + J))] dX3_tellWays_18 rfl (by decide) rfl ?_
      refine aw_aload_n 3 dX3_tellWays_19 rfl rfl ?_
      refine aw_get fX3_15 dX3_tellWays_20 f153 rfl ?_
      refine aw_iload_n 1 dX3_tellWays_23 rfl rfl ?_
      refine aw_iald i (rfl) (by omega) (by decide) dX3_tellWays_24 f155 ?_
      refine aw_toe (nI (rc i)) (rfl) ?_
      have b179 := hrc i (by omega)
      refine aw_istore [(4, .int (nI (rc i))), (3, .int 0), (2, .int (nI i)), (1, .ref (G.1 + P)), (0, .ref (G.1 + J))] dX3_tellWays_25 (by decide) rfl ?_
      refine aw_iload 0 dX3_tellWays_27 rfl ?_
      refine aw_istore [(5, .int (nI (rc i))), (4, .int (nI (rc i))), (3, .int 0), (2, .int (nI i)), (1, .ref (G.1 + P)), (0, .ref (G.1 + J))] dX3_tellWays_29 (by decide) rfl ?_
      refine aw_lv [(5, .int (nI (rc i))), (4, .int (nI (rc i))), (3, .int 0), (2, .int (nI i)), (1, .ref (G.1 + P)), (0, .ref (G.1 + J))] [0, 1, 2, 3, 4, 5] rfl ?_
      suffices L191 : ∀ (mm : Nat) (t : Nat) (tv : Int32) (cm : Nat) (wy2 : Nat → Int32) (nw2 : Nat → Int32) (f2 : Nat → Nat) (g2 : Nat → Nat) (h180 : List va_E), t < mm → ((t = 0 ∧ tv = -1) ∨ (∃ s, s < 1024 ∧ tv = nI s ∧ t = s + 1 ∧ s &&& rc i = s)) → (yI lx co ro i t f2 g2 cm) → (wX wy2 f2) → (wX nw2 g2) → h180[J]? = some (oB 3 (lJ G J (.ref (G.1 + u1)) (.ref (G.1 + v1)) (nI ro) (nI co))) → h180[J + 1]? = some (aI 100 lk) → h180[J + 2]? = some (aI 11 (nA rc)) → h180[J + 3]? = some (aI 11264 bs) → h180[u1]? = some (aI 1024 wy2) → h180[v1]? = some (aI 1024 nw2) → h180[P]? = some (oB 4 (lG G P su wa (nI pv))) → h180[P + 1]? = some (aI 10 pt) → h180[P + 2]? = some (aZ 10 ce1) → rg2 P (P + 2) J (J + 5) h h180 → AW l G yX3_tellWays cX3_tellWays 6 none (xR 3 0 0) (fun _ _ => True) QF 0 0 31 [(5, .int tv), (4, .int (nI (rc i))), (3, .int (nI cm)), (2, .int (nI i)), (1, .ref (G.1 + P)), (0, .ref (G.1 + J))] [] h180 from L191 ((rc i + 1) + 1) (rc i + 1) (nI (rc i)) 0 wy1 nw1 f1 (fun _ => 0) _ (Nat.lt_succ_self _) (Or.inr ⟨_, by omega, rfl, rfl, Nat.and_self _⟩) (yI_0 hR hco (by omega) hF) (hw) (wX_0 hz) f153 f154 f155 f156 f157 f158 f159 f160 f161 (k162)
      intro mm
      induction mm with
      | zero =>
        intro t tv cm wy2 nw2 f2 g2 h180 hmm ht hY hw2 hn2 f181 f182 f183 f184 f185 f186 f187 f188 f189 k190
        exact absurd hmm (Nat.not_lt_zero _)
      | succ mm ih191 =>
        intro t tv cm wy2 nw2 f2 g2 h180 hmm ht hY hw2 hn2 f181 f182 f183 f184 f185 f186 f187 f188 f189 k190
        rcases ht with ⟨rfl, rfl⟩ | ⟨s, bs_, rfl, rfl, hss⟩
        · refine aw_iload 0 dX3_tellWays_31 rfl ?_
          refine aw_if_lt 85 dX3_tellWays_33 (by decide) (fun c33 => ?_) (fun c33 => absurd (by decide) c33)
          refine aw_aload_n 4 dX3_tellWays_85 rfl rfl ?_
          refine aw_get fX3_86 dX3_tellWays_86 f187 rfl ?_
          refine aw_iload_n 3 dX3_tellWays_89 rfl rfl ?_
          refine aw_iload_n 2 dX3_tellWays_90 rfl rfl ?_
          refine aw_dS [.int (nI cm)] [.int (nI i), .ref (G.1 + (P + 2))] lX3_62 sJ6_bitCount_0f7a4 mJ6_bitCount_0f7a4 dX3_tellWays_91 (J6_bitCount_g (x := (nI cm)) ) rfl (Nat.le_of_ble_eq_true rfl) (by decide) (by decide) rfl ?_
          have bcm := hY.2.2.2.1
          refine aw_toe (nI (popN cm)) (bc_pop (by omega)) ?_
          have bpn := popN_le cm
          refine aw_iconst (1) dX3_tellWays_94 (by decide) ?_
          refine aw_icmp_ne 109 dX3_tellWays_95 (by decide) (fun c95 => ?_) (fun c95 => ?_)
          · have d95 := mt (nv_eq (a := popN cm) (b := 1) (rfl) (rfl) (by omega) (by omega)).mpr c95
            refine aw_iconst (0) dX3_tellWays_109 (by decide) ?_
            refine aw_zast i (rfl) (by omega) (by decide) dX3_tellWays_110 f189 ?_
            refine aw_aload_n 5 dX3_tellWays_111 rfl rfl ?_
            refine aw_get fX3_21 dX3_tellWays_112 (gn (by omega) (f181)) rfl ?_
            refine aw_astore [(5, .ref (G.1 + u1)), (4, .int (nI (rc i))), (3, .int (nI cm)), (2, .int (nI i)), (1, .ref (G.1 + P)), (0, .ref (G.1 + J))] dX3_tellWays_115 (by decide) rfl ?_
            refine aw_aload_n 5 dX3_tellWays_117 rfl rfl ?_
            refine aw_aload_n 5 dX3_tellWays_118 rfl rfl ?_
            refine aw_get fX3_24 dX3_tellWays_119 (gn (by omega) (f181)) rfl ?_
            refine aw_putQ fX3_21 dX3_tellWays_122 (lJ G J (.ref (G.1 + v1)) (.ref (G.1 + v1)) (nI ro) (nI co)) (gn (by omega) (f181)) rfl rfl rfl (Nat.le_of_ble_eq_true rfl) rfl ?_
            refine aw_aload_n 5 dX3_tellWays_125 rfl rfl ?_
            refine aw_aload 0 dX3_tellWays_126 rfl ?_
            refine aw_putQ fX3_24 dX3_tellWays_128 (lJ G J (.ref (G.1 + v1)) (.ref (G.1 + u1)) (nI ro) (nI co)) (gs (gn (by omega) (f181))) rfl rfl rfl (Nat.le_of_ble_eq_true rfl) rfl ?_
            refine aw_iinc (j := 3) (nI (i + 1)) [(2, .int (nI (i + 1))), (5, .ref (G.1 + u1)), (4, .int (nI (rc i))), (3, .int (nI cm)), (1, .ref (G.1 + P)), (0, .ref (G.1 + J))] dX3_tellWays_131 rfl (nv_inc (rfl)) (by decide) rfl ?_
            refine aw_goto 9 dX3_tellWays_134 (by decide) ?_
            refine aw_lv [(2, .int (nI (i + 1))), (1, .ref (G.1 + P)), (0, .ref (G.1 + J))] [0, 4, 5] rfl ?_
            exact ih163 (i + 1) v1 u1 nw2 wy2 (upd ce1 i (vp_nar .boolean 0)) g2 _ (by omega) (by omega) (by omega) (by omega) (by omega) (yI_g (by omega) hY) (hn2) (wX_z hw2 (yI_f hY)) (ce_u hc (by rw [if_neg (fun w9 => by have w8 := (yI_c (by omega) hco hY).mpr w9; omega)]; rfl)) (gs (gs (gn (by omega) (f181)))) (gn (by omega) (gn (by omega) (gn (by omega) (f182)))) (gn (by omega) (gn (by omega) (gn (by omega) (f183)))) (gn (by omega) (gn (by omega) (gn (by omega) (f184)))) (gn (by omega) (gn (by omega) (gn (by omega) (f186)))) (gn (by omega) (gn (by omega) (gn (by omega) (f185)))) (gn (by omega) (gn (by omega) (gn (by omega) (f187)))) (gn (by omega) (gn (by omega) (gn (by omega) (f188)))) (gn (by omega) (gn (by omega) (gs f189))) (rg2_set (rg2_set (rg2_set (k190) (by omega)) (by omega)) (by omega))
          · have d95 := (nv_eq (a := popN cm) (b := 1) (rfl) (rfl) (by omega) (by omega)).mp c95
            refine aw_iload_n 2 dX3_tellWays_98 rfl rfl ?_
            refine aw_sipush (1024) dX3_tellWays_99 (by decide) ?_
            refine aw_icmp_ge 109 dX3_tellWays_102 (by decide) (fun c102 => ?_) (fun c102 => ?_)
            · have d102 := (nv_le (a := 1024) (b := cm) (rfl) (rfl) (by omega) (by omega)).mp c102
              refine aw_iconst (0) dX3_tellWays_109 (by decide) ?_
              refine aw_zast i (rfl) (by omega) (by decide) dX3_tellWays_110 f189 ?_
              refine aw_aload_n 5 dX3_tellWays_111 rfl rfl ?_
              refine aw_get fX3_21 dX3_tellWays_112 (gn (by omega) (f181)) rfl ?_
              refine aw_astore [(5, .ref (G.1 + u1)), (4, .int (nI (rc i))), (3, .int (nI cm)), (2, .int (nI i)), (1, .ref (G.1 + P)), (0, .ref (G.1 + J))] dX3_tellWays_115 (by decide) rfl ?_
              refine aw_aload_n 5 dX3_tellWays_117 rfl rfl ?_
              refine aw_aload_n 5 dX3_tellWays_118 rfl rfl ?_
              refine aw_get fX3_24 dX3_tellWays_119 (gn (by omega) (f181)) rfl ?_
              refine aw_putQ fX3_21 dX3_tellWays_122 (lJ G J (.ref (G.1 + v1)) (.ref (G.1 + v1)) (nI ro) (nI co)) (gn (by omega) (f181)) rfl rfl rfl (Nat.le_of_ble_eq_true rfl) rfl ?_
              refine aw_aload_n 5 dX3_tellWays_125 rfl rfl ?_
              refine aw_aload 0 dX3_tellWays_126 rfl ?_
              refine aw_putQ fX3_24 dX3_tellWays_128 (lJ G J (.ref (G.1 + v1)) (.ref (G.1 + u1)) (nI ro) (nI co)) (gs (gn (by omega) (f181))) rfl rfl rfl (Nat.le_of_ble_eq_true rfl) rfl ?_
              refine aw_iinc (j := 3) (nI (i + 1)) [(2, .int (nI (i + 1))), (5, .ref (G.1 + u1)), (4, .int (nI (rc i))), (3, .int (nI cm)), (1, .ref (G.1 + P)), (0, .ref (G.1 + J))] dX3_tellWays_131 rfl (nv_inc (rfl)) (by decide) rfl ?_
              refine aw_goto 9 dX3_tellWays_134 (by decide) ?_
              refine aw_lv [(2, .int (nI (i + 1))), (1, .ref (G.1 + P)), (0, .ref (G.1 + J))] [0, 4, 5] rfl ?_
              exact ih163 (i + 1) v1 u1 nw2 wy2 (upd ce1 i (vp_nar .boolean 0)) g2 _ (by omega) (by omega) (by omega) (by omega) (by omega) (yI_g (by omega) hY) (hn2) (wX_z hw2 (yI_f hY)) (ce_u hc (by rw [if_neg (fun w9 => by have w8 := (yI_c (by omega) hco hY).mpr w9; omega)]; rfl)) (gs (gs (gn (by omega) (f181)))) (gn (by omega) (gn (by omega) (gn (by omega) (f182)))) (gn (by omega) (gn (by omega) (gn (by omega) (f183)))) (gn (by omega) (gn (by omega) (gn (by omega) (f184)))) (gn (by omega) (gn (by omega) (gn (by omega) (f186)))) (gn (by omega) (gn (by omega) (gn (by omega) (f185)))) (gn (by omega) (gn (by omega) (gn (by omega) (f187)))) (gn (by omega) (gn (by omega) (gn (by omega) (f188)))) (gn (by omega) (gn (by omega) (gs f189))) (rg2_set (rg2_set (rg2_set (k190) (by omega)) (by omega)) (by omega))
            · have d102 := mt (nv_le (a := 1024) (b := cm) (rfl) (rfl) (by omega) (by omega)).mpr c102
              refine aw_iconst (1) dX3_tellWays_105 (by decide) ?_
              refine aw_goto 110 dX3_tellWays_106 (by decide) ?_
              refine aw_zast i (rfl) (by omega) (by decide) dX3_tellWays_110 f189 ?_
              refine aw_aload_n 5 dX3_tellWays_111 rfl rfl ?_
              refine aw_get fX3_21 dX3_tellWays_112 (gn (by omega) (f181)) rfl ?_
              refine aw_astore [(5, .ref (G.1 + u1)), (4, .int (nI (rc i))), (3, .int (nI cm)), (2, .int (nI i)), (1, .ref (G.1 + P)), (0, .ref (G.1 + J))] dX3_tellWays_115 (by decide) rfl ?_
              refine aw_aload_n 5 dX3_tellWays_117 rfl rfl ?_
              refine aw_aload_n 5 dX3_tellWays_118 rfl rfl ?_
              refine aw_get fX3_24 dX3_tellWays_119 (gn (by omega) (f181)) rfl ?_
              refine aw_putQ fX3_21 dX3_tellWays_122 (lJ G J (.ref (G.1 + v1)) (.ref (G.1 + v1)) (nI ro) (nI co)) (gn (by omega) (f181)) rfl rfl rfl (Nat.le_of_ble_eq_true rfl) rfl ?_
              refine aw_aload_n 5 dX3_tellWays_125 rfl rfl ?_
              refine aw_aload 0 dX3_tellWays_126 rfl ?_
              refine aw_putQ fX3_24 dX3_tellWays_128 (lJ G J (.ref (G.1 + v1)) (.ref (G.1 + u1)) (nI ro) (nI co)) (gs (gn (by omega) (f181))) rfl rfl rfl (Nat.le_of_ble_eq_true rfl) rfl ?_
              refine aw_iinc (j := 3) (nI (i + 1)) [(2, .int (nI (i + 1))), (5, .ref (G.1 + u1)), (4, .int (nI (rc i))), (3, .int (nI cm)), (1, .ref (G.1 + P)), (0, .ref (G.1 + J))] dX3_tellWays_131 rfl (nv_inc (rfl)) (by decide) rfl ?_
              refine aw_goto 9 dX3_tellWays_134 (by decide) ?_
              refine aw_lv [(2, .int (nI (i + 1))), (1, .ref (G.1 + P)), (0, .ref (G.1 + J))] [0, 4, 5] rfl ?_
              exact ih163 (i + 1) v1 u1 nw2 wy2 (upd ce1 i (vp_nar .boolean 1)) g2 _ (by omega) (by omega) (by omega) (by omega) (by omega) (yI_g (by omega) hY) (hn2) (wX_z hw2 (yI_f hY)) (ce_u hc (by rw [if_pos ((yI_c (by omega) hco hY).mp ⟨by omega, by omega⟩)]; rfl)) (gs (gs (gn (by omega) (f181)))) (gn (by omega) (gn (by omega) (gn (by omega) (f182)))) (gn (by omega) (gn (by omega) (gn (by omega) (f183)))) (gn (by omega) (gn (by omega) (gn (by omega) (f184)))) (gn (by omega) (gn (by omega) (gn (by omega) (f186)))) (gn (by omega) (gn (by omega) (gn (by omega) (f185)))) (gn (by omega) (gn (by omega) (gn (by omega) (f187)))) (gn (by omega) (gn (by omega) (gn (by omega) (f188)))) (gn (by omega) (gn (by omega) (gs f189))) (rg2_set (rg2_set (rg2_set (k190) (by omega)) (by omega)) (by omega))
        · refine aw_iload 0 dX3_tellWays_31 rfl ?_
          refine aw_if_lt 85 dX3_tellWays_33 (by decide) (fun c33 => absurd c33 (by simp only [i_lt, (nI_toInt (n := s) (by omega)), (show (0 : Int32).toInt = 0 from rfl)] <;> omega)) (fun c33 => ?_)
          refine aw_aload_n 5 dX3_tellWays_36 rfl rfl ?_
          refine aw_get fX3_21 dX3_tellWays_37 f181 rfl ?_
          refine aw_iload 0 dX3_tellWays_40 rfl ?_
          refine aw_iald s (rfl) (by omega) (by decide) dX3_tellWays_42 f185 ?_
          refine aw_toe (nI (min 1000000 (f2 s))) (hw2 s bs_) ?_
          refine aw_if_le 64 dX3_tellWays_43 (by decide) (fun c43 => ?_) (fun c43 => ?_)
          · have d43 := (nv_le (a := min 1000000 (f2 s)) (b := 0) (rfl) (rfl) (by omega) (by omega)).mp c43
            refine aw_iload 0 dX3_tellWays_64 rfl ?_
            refine aw_if_ne 73 dX3_tellWays_66 (by decide) (fun c66 => ?_) (fun c66 => ?_)
            · have d66 := mt (nv_eq (a := s) (b := 0) (rfl) (rfl) (by omega) (by omega)).mpr c66
              refine aw_iload 0 dX3_tellWays_73 rfl ?_
              refine aw_iconst (1) dX3_tellWays_75 (by decide) ?_
              refine aw_isub dX3_tellWays_76 ?_
              refine aw_toe (nI (s - 1)) (nv_sub (rfl) (rfl) (by omega)) ?_
              refine aw_iload 1 dX3_tellWays_77 rfl ?_
              refine aw_iand dX3_tellWays_79 ?_
              refine aw_toe (nI ((s - 1) &&& (rc i))) (nv_and (rfl) (rfl)) ?_
              refine aw_istore [(5, .int (nI ((s - 1) &&& (rc i)))), (4, .int (nI (rc i))), (3, .int (nI cm)), (2, .int (nI i)), (1, .ref (G.1 + P)), (0, .ref (G.1 + J))] dX3_tellWays_80 (by decide) rfl ?_
              refine aw_goto 31 dX3_tellWays_82 (by decide) ?_
              refine aw_lv [(5, .int (nI ((s - 1) &&& (rc i)))), (4, .int (nI (rc i))), (3, .int (nI cm)), (2, .int (nI i)), (1, .ref (G.1 + P)), (0, .ref (G.1 + J))] [0, 1, 2, 3, 4, 5] rfl ?_
              have bq : (s - 1) &&& (rc i) ≤ (s - 1) := Nat.and_le_left
              exact ih191 (((s - 1) &&& (rc i)) + 1) (nI ((s - 1) &&& (rc i))) cm wy2 nw2 f2 g2 _ (by omega) (Or.inr ⟨_, by omega, rfl, rfl, sub_in _ _⟩) (yI_n (yI_nx hR hco (by omega) hss (Or.inr ⟨by omega, rfl⟩)) hY (by omega)) (hw2) (hn2) f181 f182 f183 f184 f185 f186 f187 f188 f189 (k190)
            · have d66 := (nv_eq (a := s) (b := 0) (rfl) (rfl) (by omega) (by omega)).mp c66
              refine aw_iconst (-1) dX3_tellWays_69 (by decide) ?_
              refine aw_goto 80 dX3_tellWays_70 (by decide) ?_
              refine aw_istore [(5, .int (-1)), (4, .int (nI (rc i))), (3, .int (nI cm)), (2, .int (nI i)), (1, .ref (G.1 + P)), (0, .ref (G.1 + J))] dX3_tellWays_80 (by decide) rfl ?_
              refine aw_goto 31 dX3_tellWays_82 (by decide) ?_
              refine aw_lv [(5, .int (-1)), (4, .int (nI (rc i))), (3, .int (nI cm)), (2, .int (nI i)), (1, .ref (G.1 + P)), (0, .ref (G.1 + J))] [0, 1, 2, 3, 4, 5] rfl ?_
              exact ih191 0 (-1) cm wy2 nw2 f2 g2 _ (by omega) (Or.inl ⟨rfl, rfl⟩) (yI_n (yI_nx hR hco (by omega) hss (Or.inl ⟨by omega, rfl⟩)) hY (by omega)) (hw2) (hn2) f181 f182 f183 f184 f185 f186 f187 f188 f189 (k190)
          · have d43 := mt (nv_le (a := min 1000000 (f2 s)) (b := 0) (rfl) (rfl) (by omega) (by omega)).mpr c43
            have hO := jO_ok hR hco i (by omega) s ((hY.1 s).mp (by omega)).2
            refine aw_iload_n 2 dX3_tellWays_46 rfl rfl ?_
            refine aw_aload_n 5 dX3_tellWays_47 rfl rfl ?_
            refine aw_iload_n 3 dX3_tellWays_48 rfl rfl ?_
            refine aw_iload 0 dX3_tellWays_49 rfl ?_
            refine aw_eV [.int (nI i), .int (nI s)] [.int (nI cm)] lX3_83 vX3_passOn mX3_passOn dX3_tellWays_51 (aX3_passOn (J := J) (u := u1) (v := v1) (ro := ro) (co := co) (rc := rc) (lk := lk) (bs := bs) (wy := wy2) (nw := nw2) (i := i) (s := s) (x := f2 s) (g := g2) (lx := lx) f181 f182 f183 f184 f185 f186 hu1 hv1 huv1 (by omega) (by omega) hrc hL hR hlx3 hB (by omega) (by omega) hss hO.2.2 (hw2 s bs_) hn2) f181 rfl rfl rfl (Nat.le_of_ble_eq_true rfl) (by decide) (by decide) rfl (fun h194 q193 => ?_)
            obtain ⟨nw1192, f195, f196, f197, f198, f199, f200, k201, p202⟩ := q193
            have f203 := rng_at k201 (by omega) f187
            have f204 := rng_at k201 (by omega) f188
            have f205 := rng_at k201 (by omega) f189
            refine aw_ior dX3_tellWays_54 ?_
            refine aw_toe (nI (cm ||| (jHH lx (jS lx co (ro - i - 1) (i + 1)) i s (jS lx co (ro - i) i s) co))) (nv_or (rfl) (rfl)) ?_
            refine aw_istore_n [(3, .int (nI (cm ||| (jHH lx (jS lx co (ro - i - 1) (i + 1)) i s (jS lx co (ro - i) i s) co)))), (5, .int (nI s)), (4, .int (nI (rc i))), (2, .int (nI i)), (1, .ref (G.1 + P)), (0, .ref (G.1 + J))] dX3_tellWays_55 rfl (by decide) rfl ?_
            refine aw_aload_n 5 dX3_tellWays_56 rfl rfl ?_
            refine aw_get fX3_21 dX3_tellWays_57 f195 rfl ?_
            refine aw_iload 1 dX3_tellWays_60 rfl ?_
            refine aw_iconst (0) dX3_tellWays_62 (by decide) ?_
            refine aw_iast s (rfl) (by omega) (by decide) dX3_tellWays_63 f199 ?_
            refine aw_iload 1 dX3_tellWays_64 rfl ?_
            refine aw_if_ne 73 dX3_tellWays_66 (by decide) (fun c66 => ?_) (fun c66 => ?_)
            · have d66 := mt (nv_eq (a := s) (b := 0) (rfl) (rfl) (by omega) (by omega)).mpr c66
              refine aw_iload 1 dX3_tellWays_73 rfl ?_
              refine aw_iconst (1) dX3_tellWays_75 (by decide) ?_
              refine aw_isub dX3_tellWays_76 ?_
              refine aw_toe (nI (s - 1)) (nv_sub (rfl) (rfl) (by omega)) ?_
              refine aw_iload 2 dX3_tellWays_77 rfl ?_
              refine aw_iand dX3_tellWays_79 ?_
              refine aw_toe (nI ((s - 1) &&& (rc i))) (nv_and (rfl) (rfl)) ?_
              refine aw_istore [(5, .int (nI ((s - 1) &&& (rc i)))), (3, .int (nI (cm ||| (jHH lx (jS lx co (ro - i - 1) (i + 1)) i s (jS lx co (ro - i) i s) co)))), (4, .int (nI (rc i))), (2, .int (nI i)), (1, .ref (G.1 + P)), (0, .ref (G.1 + J))] dX3_tellWays_80 (by decide) rfl ?_
              refine aw_goto 31 dX3_tellWays_82 (by decide) ?_
              refine aw_lv [(5, .int (nI ((s - 1) &&& (rc i)))), (4, .int (nI (rc i))), (3, .int (nI (cm ||| (jHH lx (jS lx co (ro - i - 1) (i + 1)) i s (jS lx co (ro - i) i s) co)))), (2, .int (nI i)), (1, .ref (G.1 + P)), (0, .ref (G.1 + J))] [0, 2, 1, 3, 4, 5] rfl ?_
              have bq : (s - 1) &&& (rc i) ≤ (s - 1) := Nat.and_le_left
              exact ih191 (((s - 1) &&& (rc i)) + 1) (nI ((s - 1) &&& (rc i))) (cm ||| (jHH lx (jS lx co (ro - i - 1) (i + 1)) i s (jS lx co (ro - i) i s) co)) (upd wy2 s 0) nw1192 (un f2 s 0) (gP lx (jS lx co (ro - i - 1) (i + 1)) i s (jS lx co (ro - i) i s) (f2 s) g2 co) _ (by omega) (Or.inr ⟨_, by omega, rfl, rfl, sub_in _ _⟩) (yI_s (yI_nx hR hco (by omega) hss (Or.inr ⟨by omega, rfl⟩)) bs_ hco (by omega) hY (by omega)) (wX_u hw2 (by decide)) (p202) (gn (by omega) (f195)) (gn (by omega) (f196)) (gn (by omega) (f197)) (gn (by omega) (f198)) (gs f199) (gn (by omega) (f200)) (gn (by omega) (f203)) (gn (by omega) (f204)) (gn (by omega) (f205)) (rg2_set (rg2_tr (k190) (rg2_w k201 (by omega))) (by omega))
            · have d66 := (nv_eq (a := s) (b := 0) (rfl) (rfl) (by omega) (by omega)).mp c66
              refine aw_iconst (-1) dX3_tellWays_69 (by decide) ?_
              refine aw_goto 80 dX3_tellWays_70 (by decide) ?_
              refine aw_istore [(5, .int (-1)), (3, .int (nI (cm ||| (jHH lx (jS lx co (ro - i - 1) (i + 1)) i s (jS lx co (ro - i) i s) co)))), (4, .int (nI (rc i))), (2, .int (nI i)), (1, .ref (G.1 + P)), (0, .ref (G.1 + J))] dX3_tellWays_80 (by decide) rfl ?_
              refine aw_goto 31 dX3_tellWays_82 (by decide) ?_
              refine aw_lv [(5, .int (-1)), (4, .int (nI (rc i))), (3, .int (nI (cm ||| (jHH lx (jS lx co (ro - i - 1) (i + 1)) i s (jS lx co (ro - i) i s) co)))), (2, .int (nI i)), (1, .ref (G.1 + P)), (0, .ref (G.1 + J))] [0, 2, 1, 3, 4, 5] rfl ?_
              exact ih191 0 (-1) (cm ||| (jHH lx (jS lx co (ro - i - 1) (i + 1)) i s (jS lx co (ro - i) i s) co)) (upd wy2 s 0) nw1192 (un f2 s 0) (gP lx (jS lx co (ro - i - 1) (i + 1)) i s (jS lx co (ro - i) i s) (f2 s) g2 co) _ (by omega) (Or.inl ⟨rfl, rfl⟩) (yI_s (yI_nx hR hco (by omega) hss (Or.inl ⟨by omega, rfl⟩)) bs_ hco (by omega) hY (by omega)) (wX_u hw2 (by decide)) (p202) (gn (by omega) (f195)) (gn (by omega) (f196)) (gn (by omega) (f197)) (gn (by omega) (f198)) (gs f199) (gn (by omega) (f200)) (gn (by omega) (f203)) (gn (by omega) (f204)) (gn (by omega) (f205)) (rg2_set (rg2_tr (k190) (rg2_w k201 (by omega))) (by omega))
