set_option maxHeartbeats 4000000 in
theorem aX3_tellWays {l : Launch} {G : xG} {h : List va_E} {J u v ro co : Nat} {rc : Nat → Nat} {lk bs wy nw : Nat → Int32} {P pv : Nat} {su wa : Int32} {pt ce : Nat → Int32} (hJ : h[J]? = some (oB 3 (lJ G J (.ref (G.1 + u)) (.ref (G.1 + v)) (nI ro) (nI co)))) (hJ_1 : h[J + 1]? = some (aI 100 lk)) (hJ_2 : h[J + 2]? = some (aI 11 (nA rc))) (hJ_3 : h[J + 3]? = some (aI 11264 bs)) (hu : h[u]? = some (aI 1024 wy)) (hv : h[v]? = some (aI 1024 nw)) (hP : h[P]? = some (oB 4 (lG G P su wa (nI pv)))) (hP_1 : h[P + 1]? = some (aI 10 pt)) (hP_2 : h[P + 2]? = some (aZ 10 ce)) (qu : J + 4 ≤ u ∧ u ≤ J + 5) (qv : J + 4 ≤ v ∧ v ≤ J + 5) (quv : u ≠ v) (hro : ro ≤ 10) (hco : co ≤ 10) (hrc : ∀ j, j < 11 → rc j < 1024) (qP : P + 2 < J) : CE l G yX3_tellWays cX3_tellWays 6 none 3 0 0 [.ref (G.1 + J), .ref (G.1 + P)] h none (fun h1 => ∃ u1 : Nat, ∃ v1 : Nat, ∃ wy1 : Nat → Int32, ∃ nw1 : Nat → Int32, ∃ wa1 : Int32, ∃ ce1 : Nat → Int32, h1[J]? = some (oB 3 (lJ G J (.ref (G.1 + u1)) (.ref (G.1 + v1)) (nI ro) (nI co))) ∧ h1[J + 1]? = some (aI 100 lk) ∧ h1[J + 2]? = some (aI 11 (nA rc)) ∧ h1[J + 3]? = some (aI 11264 bs) ∧ h1[u1]? = some (aI 1024 wy1) ∧ h1[v1]? = some (aI 1024 nw1) ∧ h1[P]? = some (oB 4 (lG G P su wa1 (nI pv))) ∧ h1[P + 1]? = some (aI 10 pt) ∧ h1[P + 2]? = some (aZ 10 ce1) ∧ rg2 P (P + 2) J (J + 5) h h1 ∧ (J + 4 ≤ u1 ∧ u1 ≤ J + 5) ∧ (J + 4 ≤ v1 ∧ v1 ≤ J + 5) ∧ u1 ≠ v1) := by
  refine cm_ofQ rfl (Nat.le_of_ble_eq_true rfl) [(0, .ref (G.1 + J)), (1, .ref (G.1 + P))] rfl (fun QF hQF => ?_)
  refine aw_aload_n 0 dX3_tellWays_0 rfl rfl ?_
  refine aw_get fX3_21 dX3_tellWays_1 hJ rfl ?_
  refine aw_iconst (0) dX3_tellWays_4 (by decide) ?_
  refine aw_iconst (1) dX3_tellWays_5 (by decide) ?_
  refine aw_iast 0 (rfl) (by decide) (by decide) dX3_tellWays_6 hu ?_
  refine aw_iconst (0) dX3_tellWays_7 (by decide) ?_
  refine aw_istore_n [(2, .int 0), (0, .ref (G.1 + J)), (1, .ref (G.1 + P))] dX3_tellWays_8 rfl (by decide) rfl ?_
  refine aw_lv [(2, .int 0), (1, .ref (G.1 + P)), (0, .ref (G.1 + J))] [0, 2, 1] rfl ?_
  suffices L165 : ∀ (mm : Nat) (i : Nat) (u1 : Nat) (v1 : Nat) (wy1 : Nat → Int32) (nw1 : Nat → Int32) (ce1 : Nat → Int32) (h154 : List va_E), ro - i < mm → (i ≤ ro) → (J + 4 ≤ u1 ∧ u1 ≤ J + 5) → (J + 4 ≤ v1 ∧ v1 ≤ J + 5) → (u1 ≠ v1) → h154[J]? = some (oB 3 (lJ G J (.ref (G.1 + u1)) (.ref (G.1 + v1)) (nI ro) (nI co))) → h154[J + 1]? = some (aI 100 lk) → h154[J + 2]? = some (aI 11 (nA rc)) → h154[J + 3]? = some (aI 11264 bs) → h154[u1]? = some (aI 1024 wy1) → h154[v1]? = some (aI 1024 nw1) → h154[P]? = some (oB 4 (lG G P su wa (nI pv))) → h154[P + 1]? = some (aI 10 pt) → h154[P + 2]? = some (aZ 10 ce1) → rg2 P (P + 2) J (J + 5) h h154 → AW l G yX3_tellWays cX3_tellWays 6 none (xR 3 0 0) (fun _ _ => True) QF 0 0 9 [(2, .int (nI i)), (1, .ref (G.1 + P)), (0, .ref (G.1 + J))] [] h154 from L165 (ro - 0 + 1) 0 u v (upd wy 0 1) nw ce _ (Nat.lt_succ_self _) (Nat.zero_le _) (qu) (qv) (quv) (gn (by omega) (hJ)) (gn (by omega) (hJ_1)) (gn (by omega) (hJ_2)) (gn (by omega) (hJ_3)) (gs hu) (gn (by omega) (hv)) (gn (by omega) (hP)) (gn (by omega) (hP_1)) (gn (by omega) (hP_2)) (rg2_set (rg2_rf P (P + 2) J (J + 5) h) (by omega))
  intro mm
  induction mm with
  | zero =>
    intro i u1 v1 wy1 nw1 ce1 h154 hmm hi hu1 hv1 huv1 f155 f156 f157 f158 f159 f160 f161 f162 f163 k164
    exact absurd hmm (Nat.not_lt_zero _)
  | succ mm ih165 =>
    intro i u1 v1 wy1 nw1 ce1 h154 hmm hi hu1 hv1 huv1 f155 f156 f157 f158 f159 f160 f161 f162 f163 k164
    refine aw_iload_n 0 dX3_tellWays_9 rfl rfl ?_
    refine aw_aload_n 2 dX3_tellWays_10 rfl rfl ?_
    refine aw_get fX3_27 dX3_tellWays_11 f155 rfl ?_
    refine aw_icmp_ge 137 dX3_tellWays_14 (by decide) (fun c14 => ?_) (fun c14 => ?_)
    · have d14 := (nv_le (a := ro) (b := i) (rfl) (rfl) (by omega) (by omega)).mp c14
      refine aw_aload_n 1 dX3_tellWays_137 rfl rfl ?_
      refine aw_aload_n 2 dX3_tellWays_138 rfl rfl ?_
      refine aw_aload_n 2 dX3_tellWays_139 rfl rfl ?_
      refine aw_get fX3_15 dX3_tellWays_140 f155 rfl ?_
      refine aw_aload_n 2 dX3_tellWays_143 rfl rfl ?_
      refine aw_get fX3_27 dX3_tellWays_144 f155 rfl ?_
      refine aw_iald ro (rfl) (by omega) (by decide) dX3_tellWays_147 f157 ?_
      refine aw_toe (nI (rc ro)) (rfl) ?_
      have b166 := hrc ro (by omega)
      refine aw_uV [.int (nI (rc ro))] [.ref (G.1 + P)] lX3_90 vX3_sumWays mX3_sumWays dX3_tellWays_148 (aX3_sumWays (J := J) (u := u1) (v := v1) (ro := ro) (co := co) (rc := rc) (lk := lk) (bs := bs) (wy := wy1) (nw := nw1) (w := rc ro) f155 f156 f157 f158 f159 f160 (by omega) (by omega) (by omega) (by omega)) f155 rfl rfl rfl (Nat.le_of_ble_eq_true rfl) (by decide) (by decide) rfl (fun r169 h170 q168 => ?_)
      obtain ⟨wy1167, f171, f172, f173, f174, f175, f176, k177, u178⟩ := q168
      have f179 := rng_at k177 (by omega) f161
      have f180 := rng_at k177 (by omega) f162
      have f181 := rng_at k177 (by omega) f163
      refine aw_putQ fX3_93 dX3_tellWays_151 (lG G P su r169 (nI pv)) f179 rfl rfl rfl (Nat.le_of_ble_eq_true rfl) rfl ?_
      subst hQF
      exact aw_vret rfl dX3_tellWays_154 (by decide) (by decide) ⟨rfl, _, _, _, _, _, _, (gn (by omega) (f171)), (gn (by omega) (f172)), (gn (by omega) (f173)), (gn (by omega) (f174)), (gn (by omega) (f175)), (gn (by omega) (f176)), (gs f179), (gn (by omega) (f180)), (gn (by omega) (f181)), rg2_set (rg2_tr (k164) (rg2_w k177 (by omega))) (by omega), hu1, hv1, huv1⟩
    · have d14 := mt (nv_le (a := ro) (b := i) (rfl) (rfl) (by omega) (by omega)).mpr c14
      refine aw_iconst (0) dX3_tellWays_17 (by decide) ?_
      refine aw_istore_n [(3, .int 0), (2, .int (nI i)), (1, .ref (G.1 + P)), (0, .ref (G.1 + J))] dX3_tellWays_18 rfl (by decide) rfl ?_
      refine aw_aload_n 3 dX3_tellWays_19 rfl rfl ?_
      refine aw_get fX3_15 dX3_tellWays_20 f155 rfl ?_
      refine aw_iload_n 1 dX3_tellWays_23 rfl rfl ?_
      refine aw_iald i (rfl) (by omega) (by decide) dX3_tellWays_24 f157 ?_
      refine aw_toe (nI (rc i)) (rfl) ?_
      have b182 := hrc i (by omega)
      refine aw_istore [(4, .int (nI (rc i))), (3, .int 0), (2, .int (nI i)), (1, .ref (G.1 + P)), (0, .ref (G.1 + J))] dX3_tellWays_25 (by decide) rfl ?_
      refine aw_iload 0 dX3_tellWays_27 rfl ?_
      refine aw_istore [(5, .int (nI (rc i))), (4, .int (nI (rc i))), (3, .int 0), (2, .int (nI i)), (1, .ref (G.1 + P)), (0, .ref (G.1 + J))] dX3_tellWays_29 (by decide) rfl ?_
      refine aw_lv [(5, .int (nI (rc i))), (4, .int (nI (rc i))), (3, .int 0), (2, .int (nI i)), (1, .ref (G.1 + P)), (0, .ref (G.1 + J))] [0, 1, 2, 3, 4, 5] rfl ?_
      suffices L194 : ∀ (mm : Nat) (t : Nat) (tv : Int32) (ch : Int32) (wy2 : Nat → Int32) (nw2 : Nat → Int32) (h183 : List va_E), t < mm → ((t = 0 ∧ tv = -1) ∨ (∃ s, s < 1024 ∧ tv = nI s ∧ t = s + 1)) → h183[J]? = some (oB 3 (lJ G J (.ref (G.1 + u1)) (.ref (G.1 + v1)) (nI ro) (nI co))) → h183[J + 1]? = some (aI 100 lk) → h183[J + 2]? = some (aI 11 (nA rc)) → h183[J + 3]? = some (aI 11264 bs) → h183[u1]? = some (aI 1024 wy2) → h183[v1]? = some (aI 1024 nw2) → h183[P]? = some (oB 4 (lG G P su wa (nI pv))) → h183[P + 1]? = some (aI 10 pt) → h183[P + 2]? = some (aZ 10 ce1) → rg2 P (P + 2) J (J + 5) h h183 → AW l G yX3_tellWays cX3_tellWays 6 none (xR 3 0 0) (fun _ _ => True) QF 0 0 31 [(5, .int tv), (4, .int (nI (rc i))), (3, .int ch), (2, .int (nI i)), (1, .ref (G.1 + P)), (0, .ref (G.1 + J))] [] h183 from L194 ((rc i + 1) + 1) (rc i + 1) (nI (rc i)) 0 wy1 nw1 _ (Nat.lt_succ_self _) (Or.inr ⟨_, by omega, rfl, rfl⟩) f155 f156 f157 f158 f159 f160 f161 f162 f163 (k164)
      intro mm
      induction mm with
      | zero =>
        intro t tv ch wy2 nw2 h183 hmm ht f184 f185 f186 f187 f188 f189 f190 f191 f192 k193
        exact absurd hmm (Nat.not_lt_zero _)
      | succ mm ih194 =>
        intro t tv ch wy2 nw2 h183 hmm ht f184 f185 f186 f187 f188 f189 f190 f191 f192 k193
        rcases ht with ⟨rfl, rfl⟩ | ⟨s, bs_, rfl, rfl⟩
        · refine aw_iload 0 dX3_tellWays_31 rfl ?_
          refine aw_if_lt 85 dX3_tellWays_33 (by decide) (fun c33 => ?_) (fun c33 => absurd (by decide) c33)
          refine aw_aload_n 4 dX3_tellWays_85 rfl rfl ?_
          refine aw_get fX3_86 dX3_tellWays_86 f190 rfl ?_
          refine aw_iload_n 3 dX3_tellWays_89 rfl rfl ?_
          refine aw_iload_n 2 dX3_tellWays_90 rfl rfl ?_
          refine aw_dS [.int ch] [.int (nI i), .ref (G.1 + (P + 2))] lX3_62 sJ6_bitCount_0f7a4 mJ6_bitCount_0f7a4 dX3_tellWays_91 (J6_bitCount_g (x := ch) ) rfl (Nat.le_of_ble_eq_true rfl) (by decide) (by decide) rfl ?_
          refine aw_iconst (1) dX3_tellWays_94 (by decide) ?_
          refine aw_icmp_ne 109 dX3_tellWays_95 (by decide) (fun c95 => ?_) (fun c95 => ?_)
          · refine aw_iconst (0) dX3_tellWays_109 (by decide) ?_
            refine aw_zast i (rfl) (by omega) (by decide) dX3_tellWays_110 f192 ?_
            refine aw_aload_n 5 dX3_tellWays_111 rfl rfl ?_
            refine aw_get fX3_21 dX3_tellWays_112 (gn (by omega) (f184)) rfl ?_
            refine aw_astore [(5, .ref (G.1 + u1)), (4, .int (nI (rc i))), (3, .int ch), (2, .int (nI i)), (1, .ref (G.1 + P)), (0, .ref (G.1 + J))] dX3_tellWays_115 (by decide) rfl ?_
            refine aw_aload_n 5 dX3_tellWays_117 rfl rfl ?_
            refine aw_aload_n 5 dX3_tellWays_118 rfl rfl ?_
            refine aw_get fX3_24 dX3_tellWays_119 (gn (by omega) (f184)) rfl ?_
            refine aw_putQ fX3_21 dX3_tellWays_122 (lJ G J (.ref (G.1 + v1)) (.ref (G.1 + v1)) (nI ro) (nI co)) (gn (by omega) (f184)) rfl rfl rfl (Nat.le_of_ble_eq_true rfl) rfl ?_
            refine aw_aload_n 5 dX3_tellWays_125 rfl rfl ?_
            refine aw_aload 0 dX3_tellWays_126 rfl ?_
            refine aw_putQ fX3_24 dX3_tellWays_128 (lJ G J (.ref (G.1 + v1)) (.ref (G.1 + u1)) (nI ro) (nI co)) (gs (gn (by omega) (f184))) rfl rfl rfl (Nat.le_of_ble_eq_true rfl) rfl ?_
            refine aw_iinc (j := 3) (nI (i + 1)) [(2, .int (nI (i + 1))), (5, .ref (G.1 + u1)), (4, .int (nI (rc i))), (3, .int ch), (1, .ref (G.1 + P)), (0, .ref (G.1 + J))] dX3_tellWays_131 rfl (nv_inc (rfl)) (by decide) rfl ?_
            refine aw_goto 9 dX3_tellWays_134 (by decide) ?_
            refine aw_lv [(2, .int (nI (i + 1))), (1, .ref (G.1 + P)), (0, .ref (G.1 + J))] [0, 4, 5] rfl ?_
            exact ih165 (i + 1) v1 u1 nw2 wy2 (upd ce1 i (vp_nar .boolean 0)) _ (by omega) (by omega) (by omega) (by omega) (by omega) (gs (gs (gn (by omega) (f184)))) (gn (by omega) (gn (by omega) (gn (by omega) (f185)))) (gn (by omega) (gn (by omega) (gn (by omega) (f186)))) (gn (by omega) (gn (by omega) (gn (by omega) (f187)))) (gn (by omega) (gn (by omega) (gn (by omega) (f189)))) (gn (by omega) (gn (by omega) (gn (by omega) (f188)))) (gn (by omega) (gn (by omega) (gn (by omega) (f190)))) (gn (by omega) (gn (by omega) (gn (by omega) (f191)))) (gn (by omega) (gn (by omega) (gs f192))) (rg2_set (rg2_set (rg2_set (k193) (by omega)) (by omega)) (by omega))
          · refine aw_iload_n 2 dX3_tellWays_98 rfl rfl ?_
            refine aw_sipush (1024) dX3_tellWays_99 (by decide) ?_
            refine aw_icmp_ge 109 dX3_tellWays_102 (by decide) (fun c102 => ?_) (fun c102 => ?_)
            · refine aw_iconst (0) dX3_tellWays_109 (by decide) ?_
              refine aw_zast i (rfl) (by omega) (by decide) dX3_tellWays_110 f192 ?_
              refine aw_aload_n 5 dX3_tellWays_111 rfl rfl ?_
              refine aw_get fX3_21 dX3_tellWays_112 (gn (by omega) (f184)) rfl ?_
              refine aw_astore [(5, .ref (G.1 + u1)), (4, .int (nI (rc i))), (3, .int ch), (2, .int (nI i)), (1, .ref (G.1 + P)), (0, .ref (G.1 + J))] dX3_tellWays_115 (by decide) rfl ?_
              refine aw_aload_n 5 dX3_tellWays_117 rfl rfl ?_
              refine aw_aload_n 5 dX3_tellWays_118 rfl rfl ?_
              refine aw_get fX3_24 dX3_tellWays_119 (gn (by omega) (f184)) rfl ?_
              refine aw_putQ fX3_21 dX3_tellWays_122 (lJ G J (.ref (G.1 + v1)) (.ref (G.1 + v1)) (nI ro) (nI co)) (gn (by omega) (f184)) rfl rfl rfl (Nat.le_of_ble_eq_true rfl) rfl ?_
              refine aw_aload_n 5 dX3_tellWays_125 rfl rfl ?_
              refine aw_aload 0 dX3_tellWays_126 rfl ?_
              refine aw_putQ fX3_24 dX3_tellWays_128 (lJ G J (.ref (G.1 + v1)) (.ref (G.1 + u1)) (nI ro) (nI co)) (gs (gn (by omega) (f184))) rfl rfl rfl (Nat.le_of_ble_eq_true rfl) rfl ?_
              refine aw_iinc (j := 3) (nI (i + 1)) [(2, .int (nI (i + 1))), (5, .ref (G.1 + u1)), (4, .int (nI (rc i))), (3, .int ch), (1, .ref (G.1 + P)), (0, .ref (G.1 + J))] dX3_tellWays_131 rfl (nv_inc (rfl)) (by decide) rfl ?_
              refine aw_goto 9 dX3_tellWays_134 (by decide) ?_
              refine aw_lv [(2, .int (nI (i + 1))), (1, .ref (G.1 + P)), (0, .ref (G.1 + J))] [0, 4, 5] rfl ?_
              exact ih165 (i + 1) v1 u1 nw2 wy2 (upd ce1 i (vp_nar .boolean 0)) _ (by omega) (by omega) (by omega) (by omega) (by omega) (gs (gs (gn (by omega) (f184)))) (gn (by omega) (gn (by omega) (gn (by omega) (f185)))) (gn (by omega) (gn (by omega) (gn (by omega) (f186)))) (gn (by omega) (gn (by omega) (gn (by omega) (f187)))) (gn (by omega) (gn (by omega) (gn (by omega) (f189)))) (gn (by omega) (gn (by omega) (gn (by omega) (f188)))) (gn (by omega) (gn (by omega) (gn (by omega) (f190)))) (gn (by omega) (gn (by omega) (gn (by omega) (f191)))) (gn (by omega) (gn (by omega) (gs f192))) (rg2_set (rg2_set (rg2_set (k193) (by omega)) (by omega)) (by omega))
            · refine aw_iconst (1) dX3_tellWays_105 (by decide) ?_
              refine aw_goto 110 dX3_tellWays_106 (by decide) ?_
              refine aw_zast i (rfl) (by omega) (by decide) dX3_tellWays_110 f192 ?_
              refine aw_aload_n 5 dX3_tellWays_111 rfl rfl ?_
              refine aw_get fX3_21 dX3_tellWays_112 (gn (by omega) (f184)) rfl ?_
              refine aw_astore [(5, .ref (G.1 + u1)), (4, .int (nI (rc i))), (3, .int ch), (2, .int (nI i)), (1, .ref (G.1 + P)), (0, .ref (G.1 + J))] dX3_tellWays_115 (by decide) rfl ?_
              refine aw_aload_n 5 dX3_tellWays_117 rfl rfl ?_
              refine aw_aload_n 5 dX3_tellWays_118 rfl rfl ?_
              refine aw_get fX3_24 dX3_tellWays_119 (gn (by omega) (f184)) rfl ?_
              refine aw_putQ fX3_21 dX3_tellWays_122 (lJ G J (.ref (G.1 + v1)) (.ref (G.1 + v1)) (nI ro) (nI co)) (gn (by omega) (f184)) rfl rfl rfl (Nat.le_of_ble_eq_true rfl) rfl ?_
              refine aw_aload_n 5 dX3_tellWays_125 rfl rfl ?_
              refine aw_aload 0 dX3_tellWays_126 rfl ?_
              refine aw_putQ fX3_24 dX3_tellWays_128 (lJ G J (.ref (G.1 + v1)) (.ref (G.1 + u1)) (nI ro) (nI co)) (gs (gn (by omega) (f184))) rfl rfl rfl (Nat.le_of_ble_eq_true rfl) rfl ?_
              refine aw_iinc (j := 3) (nI (i + 1)) [(2, .int (nI (i + 1))), (5, .ref (G.1 + u1)), (4, .int (nI (rc i))), (3, .int ch), (1, .ref (G.1 + P)), (0, .ref (G.1 + J))] dX3_tellWays_131 rfl (nv_inc (rfl)) (by decide) rfl ?_
              refine aw_goto 9 dX3_tellWays_134 (by decide) ?_
              refine aw_lv [(2, .int (nI (i + 1))), (1, .ref (G.1 + P)), (0, .ref (G.1 + J))] [0, 4, 5] rfl ?_
              exact ih165 (i + 1) v1 u1 nw2 wy2 (upd ce1 i (vp_nar .boolean 1)) _ (by omega) (by omega) (by omega) (by omega) (by omega) (gs (gs (gn (by omega) (f184)))) (gn (by omega) (gn (by omega) (gn (by omega) (f185)))) (gn (by omega) (gn (by omega) (gn (by omega) (f186)))) (gn (by omega) (gn (by omega) (gn (by omega) (f187)))) (gn (by omega) (gn (by omega) (gn (by omega) (f189)))) (gn (by omega) (gn (by omega) (gn (by omega) (f188)))) (gn (by omega) (gn (by omega) (gn (by omega) (f190)))) (gn (by omega) (gn (by omega) (gn (by omega) (f191)))) (gn (by omega) (gn (by omega) (gs f192))) (rg2_set (rg2_set (rg2_set (k193) (by omega)) (by omega)) (by omega))
        · refine aw_iload 0 dX3_tellWays_31 rfl ?_
          refine aw_if_lt 85 dX3_tellWays_33 (by decide) (fun c33 => absurd c33 (by simp only [i_lt, (nI_toInt (n := s) (by omega)), (show (0 : Int32).toInt = 0 from rfl)] <;> omega)) (fun c33 => ?_)
          refine aw_aload_n 5 dX3_tellWays_36 rfl rfl ?_
          refine aw_get fX3_21 dX3_tellWays_37 f184 rfl ?_
          refine aw_iload 0 dX3_tellWays_40 rfl ?_
          refine aw_iald s (rfl) (by omega) (by decide) dX3_tellWays_42 f188 ?_
          refine aw_if_le 64 dX3_tellWays_43 (by decide) (fun c43 => ?_) (fun c43 => ?_)
          · refine aw_iload 0 dX3_tellWays_64 rfl ?_
            refine aw_if_ne 73 dX3_tellWays_66 (by decide) (fun c66 => ?_) (fun c66 => ?_)
            · have d66 := mt (nv_eq (a := s) (b := 0) (rfl) (rfl) (by omega) (by omega)).mpr c66
              refine aw_iload 0 dX3_tellWays_73 rfl ?_
              refine aw_iconst (1) dX3_tellWays_75 (by decide) ?_
              refine aw_isub dX3_tellWays_76 ?_
              refine aw_toe (nI (s - 1)) (nv_sub (rfl) (rfl) (by omega)) ?_
              refine aw_iload 1 dX3_tellWays_77 rfl ?_
              refine aw_iand dX3_tellWays_79 ?_
              refine aw_toe (nI ((s - 1) &&& (rc i))) (nv_and (rfl) (rfl)) ?_
              refine aw_istore [(5, .int (nI ((s - 1) &&& (rc i)))), (4, .int (nI (rc i))), (3, .int ch), (2, .int (nI i)), (1, .ref (G.1 + P)), (0, .ref (G.1 + J))] dX3_tellWays_80 (by decide) rfl ?_
              refine aw_goto 31 dX3_tellWays_82 (by decide) ?_
              refine aw_lv [(5, .int (nI ((s - 1) &&& (rc i)))), (4, .int (nI (rc i))), (3, .int ch), (2, .int (nI i)), (1, .ref (G.1 + P)), (0, .ref (G.1 + J))] [0, 1, 2, 3, 4, 5] rfl ?_
              have bq : (s - 1) &&& (rc i) ≤ (s - 1) := Nat.and_le_left
              exact ih194 (((s - 1) &&& (rc i)) + 1) (nI ((s - 1) &&& (rc i))) ch wy2 nw2 _ (by omega) (Or.inr ⟨_, by omega, rfl, rfl⟩) f184 f185 f186 f187 f188 f189 f190 f191 f192 (k193)
            · have d66 := (nv_eq (a := s) (b := 0) (rfl) (rfl) (by omega) (by omega)).mp c66
              refine aw_iconst (-1) dX3_tellWays_69 (by decide) ?_
              refine aw_goto 80 dX3_tellWays_70 (by decide) ?_
              refine aw_istore [(5, .int (-1)), (4, .int (nI (rc i))), (3, .int ch), (2, .int (nI i)), (1, .ref (G.1 + P)), (0, .ref (G.1 + J))] dX3_tellWays_80 (by decide) rfl ?_
              refine aw_goto 31 dX3_tellWays_82 (by decide) ?_
              refine aw_lv [(5, .int (-1)), (4, .int (nI (rc i))), (3, .int ch), (2, .int (nI i)), (1, .ref (G.1 + P)), (0, .ref (G.1 + J))] [0, 1, 2, 3, 4, 5] rfl ?_
              exact ih194 0 (-1) ch wy2 nw2 _ (by omega) (Or.inl ⟨rfl, rfl⟩) f184 f185 f186 f187 f188 f189 f190 f191 f192 (k193)
          · refine aw_iload_n 2 dX3_tellWays_46 rfl rfl ?_
            refine aw_aload_n 5 dX3_tellWays_47 rfl rfl ?_
            refine aw_iload_n 3 dX3_tellWays_48 rfl rfl ?_
            refine aw_iload 0 dX3_tellWays_49 rfl ?_
            refine aw_uV [.int (nI i), .int (nI s)] [.int ch] lX3_83 vX3_passOn mX3_passOn dX3_tellWays_51 (aX3_passOn (J := J) (u := u1) (v := v1) (ro := ro) (co := co) (rc := rc) (lk := lk) (bs := bs) (wy := wy2) (nw := nw2) (i := i) (s := s) f184 f185 f186 f187 f188 f189 (by omega) (by omega) (by omega) (by omega) (by omega) hrc (by omega) (by omega)) f184 rfl rfl rfl (Nat.le_of_ble_eq_true rfl) (by decide) (by decide) rfl (fun r197 h198 q196 => ?_)
            obtain ⟨nw1195, f199, f200, f201, f202, f203, f204, k205, u206⟩ := q196
            have f207 := rng_at k205 (by omega) f190
            have f208 := rng_at k205 (by omega) f191
            have f209 := rng_at k205 (by omega) f192
            refine aw_ior dX3_tellWays_54 ?_
            refine aw_istore_n [(3, .int (ch ||| r197)), (5, .int (nI s)), (4, .int (nI (rc i))), (2, .int (nI i)), (1, .ref (G.1 + P)), (0, .ref (G.1 + J))] dX3_tellWays_55 rfl (by decide) rfl ?_
            refine aw_aload_n 5 dX3_tellWays_56 rfl rfl ?_
            refine aw_get fX3_21 dX3_tellWays_57 f199 rfl ?_
            refine aw_iload 1 dX3_tellWays_60 rfl ?_
            refine aw_iconst (0) dX3_tellWays_62 (by decide) ?_
            refine aw_iast s (rfl) (by omega) (by decide) dX3_tellWays_63 f203 ?_
            refine aw_iload 1 dX3_tellWays_64 rfl ?_
            refine aw_if_ne 73 dX3_tellWays_66 (by decide) (fun c66 => ?_) (fun c66 => ?_)
            · have d66 := mt (nv_eq (a := s) (b := 0) (rfl) (rfl) (by omega) (by omega)).mpr c66
              refine aw_iload 1 dX3_tellWays_73 rfl ?_
              refine aw_iconst (1) dX3_tellWays_75 (by decide) ?_
              refine aw_isub dX3_tellWays_76 ?_
              refine aw_toe (nI (s - 1)) (nv_sub (rfl) (rfl) (by omega)) ?_
              refine aw_iload 2 dX3_tellWays_77 rfl ?_
              refine aw_iand dX3_tellWays_79 ?_
              refine aw_toe (nI ((s - 1) &&& (rc i))) (nv_and (rfl) (rfl)) ?_
              refine aw_istore [(5, .int (nI ((s - 1) &&& (rc i)))), (3, .int (ch ||| r197)), (4, .int (nI (rc i))), (2, .int (nI i)), (1, .ref (G.1 + P)), (0, .ref (G.1 + J))] dX3_tellWays_80 (by decide) rfl ?_
              refine aw_goto 31 dX3_tellWays_82 (by decide) ?_
              refine aw_lv [(5, .int (nI ((s - 1) &&& (rc i)))), (4, .int (nI (rc i))), (3, .int (ch ||| r197)), (2, .int (nI i)), (1, .ref (G.1 + P)), (0, .ref (G.1 + J))] [0, 2, 1, 3, 4, 5] rfl ?_
              have bq : (s - 1) &&& (rc i) ≤ (s - 1) := Nat.and_le_left
              exact ih194 (((s - 1) &&& (rc i)) + 1) (nI ((s - 1) &&& (rc i))) (ch ||| r197) (upd wy2 s 0) nw1195 _ (by omega) (Or.inr ⟨_, by omega, rfl, rfl⟩) (gn (by omega) (f199)) (gn (by omega) (f200)) (gn (by omega) (f201)) (gn (by omega) (f202)) (gs f203) (gn (by omega) (f204)) (gn (by omega) (f207)) (gn (by omega) (f208)) (gn (by omega) (f209)) (rg2_set (rg2_tr (k193) (rg2_w k205 (by omega))) (by omega))
            · have d66 := (nv_eq (a := s) (b := 0) (rfl) (rfl) (by omega) (by omega)).mp c66
              refine aw_iconst (-1) dX3_tellWays_69 (by decide) ?_
              refine aw_goto 80 dX3_tellWays_70 (by decide) ?_
              refine aw_istore [(5, .int (-1)), (3, .int (ch ||| r197)), (4, .int (nI (rc i))), (2, .int (nI i)), (1, .ref (G.1 + P)), (0, .ref (G.1 + J))] dX3_tellWays_80 (by decide) rfl ?_
              refine aw_goto 31 dX3_tellWays_82 (by decide) ?_
              refine aw_lv [(5, .int (-1)), (4, .int (nI (rc i))), (3, .int (ch ||| r197)), (2, .int (nI i)), (1, .ref (G.1 + P)), (0, .ref (G.1 + J))] [0, 2, 1, 3, 4, 5] rfl ?_
              exact ih194 0 (-1) (ch ||| r197) (upd wy2 s 0) nw1195 _ (by omega) (Or.inl ⟨rfl, rfl⟩) (gn (by omega) (f199)) (gn (by omega) (f200)) (gn (by omega) (f201)) (gn (by omega) (f202)) (gs f203) (gn (by omega) (f204)) (gn (by omega) (f207)) (gn (by omega) (f208)) (gn (by omega) (f209)) (rg2_set (rg2_tr (k193) (rg2_w k205 (by omega))) (by omega))
