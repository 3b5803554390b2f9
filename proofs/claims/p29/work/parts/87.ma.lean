set_option maxHeartbeats 4000000 in
theorem bX9_shelves {l : Launch} {G : xG} {h : List va_E} {sp fa nb ns nm nv sh : Nat} {ho ow sl : Int32} {so xx yy tr tg : Nat → Nat} {yM rs rw : Nat → Int32} {st : Nat} (h88 : h[88]? = some (oB 9 (lM G (nI sp) (nI fa) (nI nb) (nI ns) (nI nm) ho ow sl (nI nv) (nI sh)))) (h116 : h[116]? = some (aI 40 (nA so))) (h117 : h[117]? = some (aI 40 (nA xx))) (h118 : h[118]? = some (aI 40 yM)) (h119 : h[119]? = some (aI 40 (nA tr))) (h120 : h[120]? = some (aI 8 (nA tg))) (h121 : h[121]? = some (aI 2304 rs)) (h122 : h[122]? = some (aI 8 rw)) (htg : ∀ j, j < 8 → tg j < 12) (hsh : sh ≤ 8) (hnv : nv ≤ 40) (bso : ∀ j, j < 40 → so j < 4) (bxx : ∀ j, j < 40 → xx j < 12) (byy : ∀ j, j < 40 → yy j < 12) (btr : ∀ j, j < 40 → tr j ≤ 9) (hyM : ∀ j, j < nv → so j < 2 → yM j = nI (yy j)) (bst : st < 4096) (bpop : popN st ≤ 8) : CE l G yX9_shelves cX9_shelves 7 (some .int) 2 0 0 [.ref (G.1 + 88), .int (nI st)] h (some (.int (nI (RS st so xx yy tr (rdF st tg 12).2 (rdF st tg 12).1 nv 0 0)))) (fun h1 => ∃ sh1 : Nat, ∃ tg1 : Nat → Nat, ∃ rs1 : Nat → Int32, ∃ rw1 : Nat → Int32, h1[88]? = some (oB 9 (lM G (nI sp) (nI fa) (nI nb) (nI ns) (nI nm) ho ow sl (nI nv) (nI sh1))) ∧ h1[120]? = some (aI 8 (nA tg1)) ∧ h1[121]? = some (aI 2304 rs1) ∧ h1[122]? = some (aI 8 rw1) ∧ rg2 88 88 120 122 h h1 ∧ (sh1, tg1) = rdF st tg 12 ∧ rw1 = (rwF st so xx yy tr tg1 sh1 nv rw sh1).2.2) := by
  refine cm_ofQ rfl (Nat.le_of_ble_eq_true rfl) [(0, .ref (G.1 + 88)), (1, .int (nI st))] rfl (fun QF hQF => ?_)
  refine aw_aload_n 0 dX9_shelves_0 rfl rfl ?_
  refine aw_iconst (0) dX9_shelves_1 (by decide) ?_
  refine aw_putQ fX9_233 dX9_shelves_2 (lM G (nI sp) (nI fa) (nI nb) (nI ns) (nI nm) ho ow sl (nI nv) 0) h88 rfl rfl rfl (Nat.le_of_ble_eq_true rfl) rfl ?_
  refine aw_iconst (0) dX9_shelves_5 (by decide) ?_
  refine aw_istore_n [(2, .int 0), (0, .ref (G.1 + 88)), (1, .int (nI st))] dX9_shelves_6 rfl (by decide) rfl ?_
  refine aw_lv [(2, .int 0), (1, .int (nI st)), (0, .ref (G.1 + 88))] [0, 2, 1] rfl ?_
  suffices L3367 : ∀ (mm : Nat) (t : Nat) (sh1 : Nat) (tg1 : Nat → Nat) (h3357 : List va_E), 12 - t < mm → (t ≤ 12) → ((sh1, tg1) = rdF st tg t) → h3357[88]? = some (oB 9 (lM G (nI sp) (nI fa) (nI nb) (nI ns) (nI nm) ho ow sl (nI nv) (nI sh1))) → h3357[116]? = some (aI 40 (nA so)) → h3357[117]? = some (aI 40 (nA xx)) → h3357[118]? = some (aI 40 yM) → h3357[119]? = some (aI 40 (nA tr)) → h3357[120]? = some (aI 8 (nA tg1)) → h3357[121]? = some (aI 2304 rs) → h3357[122]? = some (aI 8 rw) → rg2 88 88 120 122 h h3357 → AW l G yX9_shelves cX9_shelves 7 (some .int) (xR 2 0 0) (fun _ _ => True) QF 0 0 7 [(2, .int (nI t)), (1, .int (nI st)), (0, .ref (G.1 + 88))] [] h3357 from L3367 (12 - 0 + 1) 0 0 tg _ (Nat.lt_succ_self _) (Nat.zero_le _) (rfl) (gs h88) (gn (by decide) (h116)) (gn (by decide) (h117)) (gn (by decide) (h118)) (gn (by decide) (h119)) (gn (by decide) (h120)) (gn (by decide) (h121)) (gn (by decide) (h122)) (rg2_set (rg2_rf 88 88 120 122 h) (by decide))
  intro mm
  induction mm with
  | zero =>
    intro t sh1 tg1 h3357 hmm ht hT f3358 f3359 f3360 f3361 f3362 f3363 f3364 f3365 k3366
    exact absurd hmm (Nat.not_lt_zero _)
  | succ mm ih3367 =>
    intro t sh1 tg1 h3357 hmm ht hT f3358 f3359 f3360 f3361 f3362 f3363 f3364 f3365 k3366
    refine aw_iload_n 0 dX9_shelves_7 rfl rfl ?_
    refine aw_bipush (12) dX9_shelves_8 (by decide) ?_
    refine aw_icmp_ge 50 dX9_shelves_10 (by decide) (fun c10 => ?_) (fun c10 => ?_)
    · have d10 := (nv_le (a := 12) (b := t) (rfl) (rfl) (by omega) (by omega)).mp c10
      have e12 : t = 12 := by omega
      subst e12
      have hl2 := rdF_len (st := st) (tg := tg) 12
      rw [← hT] at hl2
      dsimp only at hl2
      rw [← popL] at hl2
      have hsh1 : sh1 ≤ 8 := by omega
      have htg1 := rdF_b (st := st) htg 12 (Nat.le_refl _)
      rw [← hT] at htg1
      dsimp only at htg1
      have pw := pw8 sh1 hsh1
      refine aw_iconst (1) dX9_shelves_50 (by decide) ?_
      refine aw_aload_n 2 dX9_shelves_51 rfl rfl ?_
      refine aw_get fX9_233 dX9_shelves_52 f3358 rfl ?_
      refine aw_ishl dX9_shelves_55 ?_
      refine aw_toe (nI (2 ^ sh1)) (nv_shl1 (rfl) (by omega)) ?_
      refine aw_iconst (1) dX9_shelves_56 (by decide) ?_
      refine aw_isub dX9_shelves_57 ?_
      refine aw_toe (nI ((2 ^ sh1) - 1)) (nv_sub (rfl) (rfl) (by omega)) ?_
      refine aw_istore_n [(2, .int (nI ((2 ^ sh1) - 1))), (1, .int (nI st)), (0, .ref (G.1 + 88))] dX9_shelves_58 rfl (by decide) rfl ?_
      refine aw_iload_n 0 dX9_shelves_59 rfl rfl ?_
      refine aw_istore_n [(3, .int (nI ((2 ^ sh1) - 1))), (2, .int (nI ((2 ^ sh1) - 1))), (1, .int (nI st)), (0, .ref (G.1 + 88))] dX9_shelves_60 rfl (by decide) rfl ?_
      refine aw_lv [(3, .int (nI ((2 ^ sh1) - 1))), (2, .int (nI ((2 ^ sh1) - 1))), (1, .int (nI st)), (0, .ref (G.1 + 88))] [0, 1, 2, 3] rfl ?_
      suffices L3378 : ∀ (mm : Nat) (x : Nat) (xv : Int32) (rs1 : Nat → Int32) (h3368 : List va_E), x < mm → ((x = 0 ∧ xv = -1) ∨ ∃ p, p < 2 ^ sh1 ∧ xv = nI p ∧ x = p + 1) → (∀ q M, x ≤ q → q < 2 ^ sh1 → M ≤ sh1 → rs1 (9 * q + M) = nI (RS st so xx yy tr tg1 sh1 nv q M)) → h3368[88]? = some (oB 9 (lM G (nI sp) (nI fa) (nI nb) (nI ns) (nI nm) ho ow sl (nI nv) (nI sh1))) → h3368[116]? = some (aI 40 (nA so)) → h3368[117]? = some (aI 40 (nA xx)) → h3368[118]? = some (aI 40 yM) → h3368[119]? = some (aI 40 (nA tr)) → h3368[120]? = some (aI 8 (nA tg1)) → h3368[121]? = some (aI 2304 rs1) → h3368[122]? = some (aI 8 rw) → rg2 88 88 120 122 h h3368 → AW l G yX9_shelves cX9_shelves 7 (some .int) (xR 2 0 0) (fun _ _ => True) QF 0 0 61 [(3, .int xv), (2, .int (nI (2 ^ sh1 - 1))), (1, .int (nI st)), (0, .ref (G.1 + 88))] [] h3368 from L3378 ((2 ^ sh1) + 1) (2 ^ sh1) (nI (2 ^ sh1 - 1)) rs _ (Nat.lt_succ_self _) (Or.inr ⟨2 ^ sh1 - 1, by omega, rfl, by omega⟩) (fun q M h1 h2 h3 => absurd h1 (by omega)) f3358 f3359 f3360 f3361 f3362 f3363 f3364 f3365 (k3366)
      intro mm
      induction mm with
      | zero =>
        intro x xv rs1 h3368 hmm hx hR1 f3369 f3370 f3371 f3372 f3373 f3374 f3375 f3376 k3377
        exact absurd hmm (Nat.not_lt_zero _)
      | succ mm ih3378 =>
        intro x xv rs1 h3368 hmm hx hR1 f3369 f3370 f3371 f3372 f3373 f3374 f3375 f3376 k3377
        rcases hx with ⟨rfl, rfl⟩ | ⟨p, hp, rfl, rfl⟩
        · refine aw_iload_n 0 dX9_shelves_61 rfl rfl ?_
          refine aw_if_lt 181 dX9_shelves_62 (by decide) (fun c62 => ?_) (fun c62 => absurd (by decide) c62)
          refine aw_iconst (0) dX9_shelves_181 (by decide) ?_
          refine aw_istore_n [(3, .int 0), (2, .int (nI (2 ^ sh1 - 1))), (1, .int (nI st)), (0, .ref (G.1 + 88))] dX9_shelves_182 rfl (by decide) rfl ?_
          refine aw_iconst (-1) dX9_shelves_183 (by decide) ?_
          refine aw_istore [(4, .int (-1)), (3, .int 0), (2, .int (nI (2 ^ sh1 - 1))), (1, .int (nI st)), (0, .ref (G.1 + 88))] dX9_shelves_184 (by decide) rfl ?_
          refine aw_iconst (0) dX9_shelves_186 (by decide) ?_
          refine aw_istore [(5, .int 0), (4, .int (-1)), (3, .int 0), (2, .int (nI (2 ^ sh1 - 1))), (1, .int (nI st)), (0, .ref (G.1 + 88))] dX9_shelves_187 (by decide) rfl ?_
          refine aw_lv [(5, .int 0), (4, .int (-1)), (3, .int 0), (1, .int (nI st)), (0, .ref (G.1 + 88))] [0, 1, 2, 4, 5] rfl ?_
          suffices L3389 : ∀ (mm : Nat) (n : Nat) (L : Nat) (lvv : Int32) (p : Nat) (rw1 : Nat → Int32) (h3379 : List va_E), sh1 - n < mm → (n ≤ sh1) → (L ≤ sh1) → ((L = 0 ∧ lvv = -1) ∨ ∃ la, L = la + 1 ∧ lvv = nI la) → (p < 2 ^ sh1) → (popN p = n) → ((p, L, rw1) = rwF st so xx yy tr tg1 sh1 nv rw n) → h3379[88]? = some (oB 9 (lM G (nI sp) (nI fa) (nI nb) (nI ns) (nI nm) ho ow sl (nI nv) (nI sh1))) → h3379[116]? = some (aI 40 (nA so)) → h3379[117]? = some (aI 40 (nA xx)) → h3379[118]? = some (aI 40 yM) → h3379[119]? = some (aI 40 (nA tr)) → h3379[120]? = some (aI 8 (nA tg1)) → h3379[121]? = some (aI 2304 rs1) → h3379[122]? = some (aI 8 rw1) → rg2 88 88 120 122 h h3379 → AW l G yX9_shelves cX9_shelves 7 (some .int) (xR 2 0 0) (fun _ _ => True) QF 0 0 189 [(5, .int (nI n)), (4, .int lvv), (3, .int (nI p)), (1, .int (nI st)), (0, .ref (G.1 + 88))] [] h3379 from L3389 (sh1 - 0 + 1) 0 0 (-1) 0 rw _ (Nat.lt_succ_self _) (Nat.zero_le _) (Nat.zero_le _) (Or.inl ⟨rfl, rfl⟩) (by omega) (pop_0) (rfl) f3369 f3370 f3371 f3372 f3373 f3374 f3375 f3376 (k3377)
          intro mm
          induction mm with
          | zero =>
            intro n L lvv p rw1 h3379 hmm hn5 hL5 hl5 hp5 hpn hq5 f3380 f3381 f3382 f3383 f3384 f3385 f3386 f3387 k3388
            exact absurd hmm (Nat.not_lt_zero _)
          | succ mm ih3389 =>
            intro n L lvv p rw1 h3379 hmm hn5 hL5 hl5 hp5 hpn hq5 f3380 f3381 f3382 f3383 f3384 f3385 f3386 f3387 k3388
            rcases hl5 with ⟨rfl, rfl⟩ | ⟨la, rfl, rfl⟩
            · refine aw_iload 0 dX9_shelves_189 rfl ?_
              refine aw_aload_n 4 dX9_shelves_191 rfl rfl ?_
              refine aw_get fX9_233 dX9_shelves_192 f3380 rfl ?_
              refine aw_icmp_ge 295 dX9_shelves_195 (by decide) (fun c195 => ?_) (fun c195 => ?_)
              · have d195 := (nv_le (a := sh1) (b := n) (rfl) (rfl) (by omega) (by omega)).mp c195
                refine aw_aload_n 4 dX9_shelves_295 rfl rfl ?_
                refine aw_get fX9_113 dX9_shelves_296 f3380 rfl ?_
                refine aw_iconst (0) dX9_shelves_299 (by decide) ?_
                refine aw_iald 0 (rfl) (by decide) (by decide) dX9_shelves_300 f3386 ?_
                refine aw_toe (nI (RS st so xx yy tr tg1 sh1 nv 0 0)) (hR1 0 0 (Nat.zero_le _) (by omega) (Nat.zero_le _)) ?_
                subst hQF
                exact aw_iret rfl dX9_shelves_301 (by decide) (by decide) ⟨by rw [← hT], _, _, _, _, f3380, f3385, f3386, f3387, k3388, hT, by have e := hq5; rw [show n = sh1 by omega] at e; rw [← e]⟩
              · have d195 := mt (nv_le (a := sh1) (b := n) (rfl) (rfl) (by omega) (by omega)).mpr c195
                have hpa : p < 2 ^ sh1 - 1 := by
                  rcases Nat.lt_or_ge p (2 ^ sh1 - 1) with q | q
                  · exact q
                  · exfalso; have e := pop_all0 sh1 (by omega); rw [show 2 ^ sh1 - 1 = p by omega] at e; omega
                obtain ⟨k0, bk0, tk0, ek0⟩ := RS_at (st := st) (so := so) (xx := xx) (yy := yy) (tr := tr) (tg := tg1) (nv := nv) (L := 0) hsh1 hpa
                refine aw_iconst (0) dX9_shelves_198 (by decide) ?_
                refine aw_istore [(6, .int 0), (5, .int (nI n)), (4, .int (-1)), (3, .int (nI p)), (1, .int (nI st)), (0, .ref (G.1 + 88))] dX9_shelves_199 (by decide) rfl ?_
                refine aw_lv [(6, .int 0), (5, .int (nI n)), (4, .int (-1)), (3, .int (nI p)), (1, .int (nI st)), (0, .ref (G.1 + 88))] [0, 1, 2, 3, 4, 5] rfl ?_
                suffices L3390 : ∀ (mm : Nat) (k : Nat), sh1 - k < mm → (k ≤ k0) → (∀ j, 0 ≤ j → j < k → p.testBit j = true ∨ vS st so xx yy tr tg1 sh1 nv p 0 j ≠ (RS st so xx yy tr tg1 sh1 nv p 0)) → AW l G yX9_shelves cX9_shelves 7 (some .int) (xR 2 0 0) (fun _ _ => True) QF 0 0 201 [(6, .int (nI k)), (5, .int (nI n)), (4, .int (-1)), (3, .int (nI p)), (1, .int (nI st)), (0, .ref (G.1 + 88))] [] h3379 from L3390 (sh1 - 0 + 1) 0 (Nat.lt_succ_self _) (Nat.zero_le _) (fun j _ hj => absurd hj (by omega))
                intro mm
                induction mm with
                | zero =>
                  intro k hmm hk6 hfs
                  exact absurd hmm (Nat.not_lt_zero _)
                | succ mm ih3390 =>
                  intro k hmm hk6 hfs
                  refine aw_iload_n 3 dX9_shelves_201 rfl rfl ?_
                  refine aw_iload 0 dX9_shelves_202 rfl ?_
                  refine aw_ishr dX9_shelves_204 ?_
                  refine aw_iconst (1) dX9_shelves_205 (by decide) ?_
                  refine aw_iand dX9_shelves_206 ?_
                  refine aw_toe (if p.testBit k = true then 1 else 0) (nv_bit (rfl) (rfl) (by omega) (by omega)) ?_
                  refine aw_iconst (1) dX9_shelves_207 (by decide) ?_
                  refine aw_icmp_eq 258 dX9_shelves_208 (by decide) (fun c208 => ?_) (fun c208 => ?_)
                  · have t208 := ite_1e c208
                    refine aw_iinc (j := 0) (nI (k + 1)) [(6, .int (nI (k + 1))), (5, .int (nI n)), (4, .int (-1)), (3, .int (nI p)), (1, .int (nI st)), (0, .ref (G.1 + 88))] dX9_shelves_258 rfl (nv_inc (rfl)) (by decide) rfl ?_
                    refine aw_goto 201 dX9_shelves_261 (by decide) ?_
                    refine aw_lv [(6, .int (nI (k + 1))), (5, .int (nI n)), (4, .int (-1)), (3, .int (nI p)), (1, .int (nI st)), (0, .ref (G.1 + 88))] [0, 1, 2, 3, 4, 5] rfl ?_
                    exact ih3390 (k + 1) (by omega) (Nat.lt_of_le_of_ne hk6 (fun e => tk0 (by rw [← e]; exact t208))) (fst_s hfs (Or.inl t208))
                  · have t208 := ite_0e c208
                    have bor := or_gt t208
                    have bop := or_ps (k := k) hp5 (by omega)
                    have b7 := wnF_le (st := st) (so := so) (xx := xx) (yy := yy) (tg := tg1) (sh := sh1) (p := p) (L := 0) (nx := k) btr nv hnv
                    have b6 := RS_le (st := st) (so := so) (xx := xx) (yy := yy) (tg := tg1) (sh := sh1) (p := p ||| 2 ^ k) (L := k + 1) btr hnv
                    have b5 := RS_le (st := st) (so := so) (xx := xx) (yy := yy) (tg := tg1) (sh := sh1) (p := p) (L := 0) btr hnv
                    refine aw_aload_n 5 dX9_shelves_211 rfl rfl ?_
                    refine aw_iload_n 4 dX9_shelves_212 rfl rfl ?_
                    refine aw_iload_n 3 dX9_shelves_213 rfl rfl ?_
                    refine aw_iload 2 dX9_shelves_214 rfl ?_
                    refine aw_iload 0 dX9_shelves_216 rfl ?_
                    refine aw_dV [.int (nI st), .int (nI p), .int (-1), .int (nI k)] [] lX9_236 vX9_wins mX9_wins dX9_shelves_218 (bX9_wins0 (sp := sp) (fa := fa) (nb := nb) (ns := ns) (nm := nm) (nv := nv) (sh := sh1) (ho := ho) (ow := ow) (sl := sl) (so := so) (xx := xx) (tr := tr) (tg := tg1) (yM := yM) (st := st) (p := p) (nx := k) f3380 f3381 f3382 f3383 f3384 f3385 htg1 hsh1 (by omega) bso bxx byy btr hyM (by omega) (by omega) (by omega)) f3380 rfl rfl rfl (Nat.le_of_ble_eq_true rfl) (by decide) (by decide) rfl ?_
                    refine aw_aload_n 5 dX9_shelves_221 rfl rfl ?_
                    refine aw_get fX9_113 dX9_shelves_222 f3380 rfl ?_
                    refine aw_bipush (9) dX9_shelves_225 (by decide) ?_
                    refine aw_iload_n 3 dX9_shelves_227 rfl rfl ?_
                    refine aw_iconst (1) dX9_shelves_228 (by decide) ?_
                    refine aw_iload 0 dX9_shelves_229 rfl ?_
                    refine aw_ishl dX9_shelves_231 ?_
                    refine aw_toe (nI (2 ^ k)) (nv_shl1 (rfl) (by omega)) ?_
                    refine aw_ior dX9_shelves_232 ?_
                    refine aw_toe (nI (p ||| (2 ^ k))) (nv_or (rfl) (rfl)) ?_
                    refine aw_imul dX9_shelves_233 ?_
                    refine aw_toe (nI (9 * (p ||| (2 ^ k)))) (nv_mul (rfl) (rfl)) ?_
                    refine aw_iload 0 dX9_shelves_234 rfl ?_
                    refine aw_iadd dX9_shelves_236 ?_
                    refine aw_toe (nI ((9 * (p ||| (2 ^ k))) + k)) (nv_add (rfl) (rfl)) ?_
                    refine aw_iconst (1) dX9_shelves_237 (by decide) ?_
                    refine aw_iadd dX9_shelves_238 ?_
                    refine aw_toe (nI (((9 * (p ||| (2 ^ k))) + k) + 1)) (nv_add (rfl) (rfl)) ?_
                    refine aw_iald (((9 * (p ||| (2 ^ k))) + k) + 1) (rfl) (by omega) (by decide) dX9_shelves_239 f3386 ?_
                    refine aw_toe (nI (RS st so xx yy tr tg1 sh1 nv (p ||| 2 ^ k) (k + 1))) (hR1 _ (k + 1) (Nat.zero_le _) (by omega) (by omega)) ?_
                    refine aw_iadd dX9_shelves_240 ?_
                    refine aw_toe (nI ((wnF st so xx yy tr tg1 sh1 p 0 k nv) + (RS st so xx yy tr tg1 sh1 nv (p ||| 2 ^ k) (k + 1)))) (nv_add (rfl) (rfl)) ?_
                    refine aw_aload_n 5 dX9_shelves_241 rfl rfl ?_
                    refine aw_get fX9_113 dX9_shelves_242 f3380 rfl ?_
                    refine aw_bipush (9) dX9_shelves_245 (by decide) ?_
                    refine aw_iload_n 3 dX9_shelves_247 rfl rfl ?_
                    refine aw_imul dX9_shelves_248 ?_
                    refine aw_toe (nI (9 * p)) (nv_mul (rfl) (rfl)) ?_
                    refine aw_iload 2 dX9_shelves_249 rfl ?_
                    refine aw_iadd dX9_shelves_251 ?_
                    refine aw_iconst (1) dX9_shelves_252 (by decide) ?_
                    refine aw_iadd dX9_shelves_253 ?_
                    refine aw_toe (nI (9 * p)) (nI_mp) ?_
                    refine aw_iald (9 * p) (rfl) (by omega) (by decide) dX9_shelves_254 f3386 ?_
                    refine aw_toe (nI (RS st so xx yy tr tg1 sh1 nv p 0)) (hR1 p 0 (Nat.zero_le _) (by omega) (by omega)) ?_
                    refine aw_icmp_eq 264 dX9_shelves_255 (by decide) (fun c255 => ?_) (fun c255 => ?_)
                    · have d255 := (nv_eq (a := (wnF st so xx yy tr tg1 sh1 p 0 k nv) + (RS st so xx yy tr tg1 sh1 nv (p ||| 2 ^ k) (k + 1))) (b := (RS st so xx yy tr tg1 sh1 nv p 0)) (rfl) (rfl) (by omega) (by omega)).mp c255
                      refine aw_aload_n 5 dX9_shelves_264 rfl rfl ?_
                      refine aw_get fX9_116 dX9_shelves_265 f3380 rfl ?_
                      refine aw_iload 1 dX9_shelves_268 rfl ?_
                      refine aw_aload_n 5 dX9_shelves_270 rfl rfl ?_
                      refine aw_get fX9_110 dX9_shelves_271 f3380 rfl ?_
                      refine aw_iload 0 dX9_shelves_274 rfl ?_
                      refine aw_iald k (rfl) (by omega) (by decide) dX9_shelves_276 f3385 ?_
                      refine aw_toe (nI (tg1 k)) (rfl) ?_
                      have b3391 := htg1 k (by omega)
                      refine aw_iast n (rfl) (by omega) (by decide) dX9_shelves_277 f3387 ?_
                      refine aw_iload_n 3 dX9_shelves_278 rfl rfl ?_
                      refine aw_iconst (1) dX9_shelves_279 (by decide) ?_
                      refine aw_iload 0 dX9_shelves_280 rfl ?_
                      refine aw_ishl dX9_shelves_282 ?_
                      refine aw_toe (nI (2 ^ k)) (nv_shl1 (rfl) (by omega)) ?_
                      refine aw_ior dX9_shelves_283 ?_
                      refine aw_toe (nI (p ||| (2 ^ k))) (nv_or (rfl) (rfl)) ?_
                      refine aw_istore_n [(3, .int (nI (p ||| (2 ^ k)))), (6, .int (nI k)), (5, .int (nI n)), (4, .int (-1)), (1, .int (nI st)), (0, .ref (G.1 + 88))] dX9_shelves_284 rfl (by decide) rfl ?_
                      refine aw_iload 1 dX9_shelves_285 rfl ?_
                      refine aw_istore [(4, .int (nI k)), (3, .int (nI (p ||| (2 ^ k)))), (6, .int (nI k)), (5, .int (nI n)), (1, .int (nI st)), (0, .ref (G.1 + 88))] dX9_shelves_287 (by decide) rfl ?_
                      refine aw_iinc (j := 3) (nI (n + 1)) [(5, .int (nI (n + 1))), (4, .int (nI k)), (3, .int (nI (p ||| (2 ^ k)))), (6, .int (nI k)), (1, .int (nI st)), (0, .ref (G.1 + 88))] dX9_shelves_289 rfl (nv_inc (rfl)) (by decide) rfl ?_
                      refine aw_goto 189 dX9_shelves_292 (by decide) ?_
                      refine aw_lv [(5, .int (nI (n + 1))), (4, .int (nI k)), (3, .int (nI (p ||| (2 ^ k)))), (1, .int (nI st)), (0, .ref (G.1 + 88))] [0, 1, 2, 4, 5] rfl ?_
                      exact ih3389 (n + 1) (k + 1) (nI k) (p ||| (2 ^ k)) (upd rw1 n (nI (tg1 k))) _ (by omega) (by omega) (by omega) (Or.inr ⟨k, rfl, rfl⟩) (or_ps hp5 (by omega)) (by rw [pop_or0 p (by omega) k (by omega) t208, hpn]) (by simp only [rwF]; rw [← hq5]; dsimp only; rw [fsF_is (k := k) t208 d255 sh1 0 hfs (Nat.zero_le _) (by omega)]) (gn (by decide) (f3380)) (gn (by decide) (f3381)) (gn (by decide) (f3382)) (gn (by decide) (f3383)) (gn (by decide) (f3384)) (gn (by decide) (f3385)) (gn (by decide) (f3386)) (gs f3387) (rg2_set (k3388) (by decide))
                    · have d255 := mt (nv_eq (a := (wnF st so xx yy tr tg1 sh1 p 0 k nv) + (RS st so xx yy tr tg1 sh1 nv (p ||| 2 ^ k) (k + 1))) (b := (RS st so xx yy tr tg1 sh1 nv p 0)) (rfl) (rfl) (by omega) (by omega)).mpr c255
                      refine aw_iinc (j := 0) (nI (k + 1)) [(6, .int (nI (k + 1))), (5, .int (nI n)), (4, .int (-1)), (3, .int (nI p)), (1, .int (nI st)), (0, .ref (G.1 + 88))] dX9_shelves_258 rfl (nv_inc (rfl)) (by decide) rfl ?_
                      refine aw_goto 201 dX9_shelves_261 (by decide) ?_
                      refine aw_lv [(6, .int (nI (k + 1))), (5, .int (nI n)), (4, .int (-1)), (3, .int (nI p)), (1, .int (nI st)), (0, .ref (G.1 + 88))] [0, 1, 2, 3, 4, 5] rfl ?_
                      exact ih3390 (k + 1) (by omega) (Nat.lt_of_le_of_ne hk6 (fun e => d255 (by rw [e]; exact ek0))) (fst_s hfs (Or.inr d255))
            · refine aw_iload 0 dX9_shelves_189 rfl ?_
              refine aw_aload_n 4 dX9_shelves_191 rfl rfl ?_
              refine aw_get fX9_233 dX9_shelves_192 f3380 rfl ?_
              refine aw_icmp_ge 295 dX9_shelves_195 (by decide) (fun c195 => ?_) (fun c195 => ?_)
              · have d195 := (nv_le (a := sh1) (b := n) (rfl) (rfl) (by omega) (by omega)).mp c195
                refine aw_aload_n 4 dX9_shelves_295 rfl rfl ?_
                refine aw_get fX9_113 dX9_shelves_296 f3380 rfl ?_
                refine aw_iconst (0) dX9_shelves_299 (by decide) ?_
                refine aw_iald 0 (rfl) (by decide) (by decide) dX9_shelves_300 f3386 ?_
                refine aw_toe (nI (RS st so xx yy tr tg1 sh1 nv 0 0)) (hR1 0 0 (Nat.zero_le _) (by omega) (Nat.zero_le _)) ?_
                subst hQF
                exact aw_iret rfl dX9_shelves_301 (by decide) (by decide) ⟨by rw [← hT], _, _, _, _, f3380, f3385, f3386, f3387, k3388, hT, by have e := hq5; rw [show n = sh1 by omega] at e; rw [← e]⟩
              · have d195 := mt (nv_le (a := sh1) (b := n) (rfl) (rfl) (by omega) (by omega)).mpr c195
                have hpa : p < 2 ^ sh1 - 1 := by
                  rcases Nat.lt_or_ge p (2 ^ sh1 - 1) with q | q
                  · exact q
                  · exfalso; have e := pop_all0 sh1 (by omega); rw [show 2 ^ sh1 - 1 = p by omega] at e; omega
                obtain ⟨k0, bk0, tk0, ek0⟩ := RS_at (st := st) (so := so) (xx := xx) (yy := yy) (tr := tr) (tg := tg1) (nv := nv) (L := la + 1) hsh1 hpa
                refine aw_iconst (0) dX9_shelves_198 (by decide) ?_
                refine aw_istore [(6, .int 0), (5, .int (nI n)), (4, .int (nI la)), (3, .int (nI p)), (1, .int (nI st)), (0, .ref (G.1 + 88))] dX9_shelves_199 (by decide) rfl ?_
                refine aw_lv [(6, .int 0), (5, .int (nI n)), (4, .int (nI la)), (3, .int (nI p)), (1, .int (nI st)), (0, .ref (G.1 + 88))] [0, 1, 2, 3, 4, 5] rfl ?_
                suffices L3392 : ∀ (mm : Nat) (k : Nat), sh1 - k < mm → (k ≤ k0) → (∀ j, 0 ≤ j → j < k → p.testBit j = true ∨ vS st so xx yy tr tg1 sh1 nv p (la + 1) j ≠ (RS st so xx yy tr tg1 sh1 nv p (la + 1))) → AW l G yX9_shelves cX9_shelves 7 (some .int) (xR 2 0 0) (fun _ _ => True) QF 0 0 201 [(6, .int (nI k)), (5, .int (nI n)), (4, .int (nI la)), (3, .int (nI p)), (1, .int (nI st)), (0, .ref (G.1 + 88))] [] h3379 from L3392 (sh1 - 0 + 1) 0 (Nat.lt_succ_self _) (Nat.zero_le _) (fun j _ hj => absurd hj (by omega))
                intro mm
                induction mm with
                | zero =>
                  intro k hmm hk6 hfs
                  exact absurd hmm (Nat.not_lt_zero _)
                | succ mm ih3392 =>
                  intro k hmm hk6 hfs
                  refine aw_iload_n 3 dX9_shelves_201 rfl rfl ?_
                  refine aw_iload 0 dX9_shelves_202 rfl ?_
                  refine aw_ishr dX9_shelves_204 ?_
                  refine aw_iconst (1) dX9_shelves_205 (by decide) ?_
                  refine aw_iand dX9_shelves_206 ?_
                  refine aw_toe (if p.testBit k = true then 1 else 0) (nv_bit (rfl) (rfl) (by omega) (by omega)) ?_
                  refine aw_iconst (1) dX9_shelves_207 (by decide) ?_
                  refine aw_icmp_eq 258 dX9_shelves_208 (by decide) (fun c208 => ?_) (fun c208 => ?_)
                  · have t208 := ite_1e c208
                    refine aw_iinc (j := 0) (nI (k + 1)) [(6, .int (nI (k + 1))), (5, .int (nI n)), (4, .int (nI la)), (3, .int (nI p)), (1, .int (nI st)), (0, .ref (G.1 + 88))] dX9_shelves_258 rfl (nv_inc (rfl)) (by decide) rfl ?_
                    refine aw_goto 201 dX9_shelves_261 (by decide) ?_
                    refine aw_lv [(6, .int (nI (k + 1))), (5, .int (nI n)), (4, .int (nI la)), (3, .int (nI p)), (1, .int (nI st)), (0, .ref (G.1 + 88))] [0, 1, 2, 3, 4, 5] rfl ?_
                    exact ih3392 (k + 1) (by omega) (Nat.lt_of_le_of_ne hk6 (fun e => tk0 (by rw [← e]; exact t208))) (fst_s hfs (Or.inl t208))
                  · have t208 := ite_0e c208
                    have bor := or_gt t208
                    have bop := or_ps (k := k) hp5 (by omega)
                    have b7 := wnF_le (st := st) (so := so) (xx := xx) (yy := yy) (tg := tg1) (sh := sh1) (p := p) (L := la + 1) (nx := k) btr nv hnv
                    have b6 := RS_le (st := st) (so := so) (xx := xx) (yy := yy) (tg := tg1) (sh := sh1) (p := p ||| 2 ^ k) (L := k + 1) btr hnv
                    have b5 := RS_le (st := st) (so := so) (xx := xx) (yy := yy) (tg := tg1) (sh := sh1) (p := p) (L := la + 1) btr hnv
                    refine aw_aload_n 5 dX9_shelves_211 rfl rfl ?_
                    refine aw_iload_n 4 dX9_shelves_212 rfl rfl ?_
                    refine aw_iload_n 3 dX9_shelves_213 rfl rfl ?_
                    refine aw_iload 2 dX9_shelves_214 rfl ?_
                    refine aw_iload 0 dX9_shelves_216 rfl ?_
                    refine aw_dV [.int (nI st), .int (nI p), .int (nI la), .int (nI k)] [] lX9_236 vX9_wins mX9_wins dX9_shelves_218 (bX9_winsL (sp := sp) (fa := fa) (nb := nb) (ns := ns) (nm := nm) (nv := nv) (sh := sh1) (ho := ho) (ow := ow) (sl := sl) (so := so) (xx := xx) (tr := tr) (tg := tg1) (yM := yM) (st := st) (p := p) (nx := k) (la := la) f3380 f3381 f3382 f3383 f3384 f3385 htg1 hsh1 (by omega) bso bxx byy btr hyM (by omega) (by omega) (by omega) (by omega)) f3380 rfl rfl rfl (Nat.le_of_ble_eq_true rfl) (by decide) (by decide) rfl ?_
                    refine aw_aload_n 5 dX9_shelves_221 rfl rfl ?_
                    refine aw_get fX9_113 dX9_shelves_222 f3380 rfl ?_
                    refine aw_bipush (9) dX9_shelves_225 (by decide) ?_
                    refine aw_iload_n 3 dX9_shelves_227 rfl rfl ?_
                    refine aw_iconst (1) dX9_shelves_228 (by decide) ?_
                    refine aw_iload 0 dX9_shelves_229 rfl ?_
                    refine aw_ishl dX9_shelves_231 ?_
                    refine aw_toe (nI (2 ^ k)) (nv_shl1 (rfl) (by omega)) ?_
                    refine aw_ior dX9_shelves_232 ?_
                    refine aw_toe (nI (p ||| (2 ^ k))) (nv_or (rfl) (rfl)) ?_
                    refine aw_imul dX9_shelves_233 ?_
                    refine aw_toe (nI (9 * (p ||| (2 ^ k)))) (nv_mul (rfl) (rfl)) ?_
                    refine aw_iload 0 dX9_shelves_234 rfl ?_
                    refine aw_iadd dX9_shelves_236 ?_
                    refine aw_toe (nI ((9 * (p ||| (2 ^ k))) + k)) (nv_add (rfl) (rfl)) ?_
                    refine aw_iconst (1) dX9_shelves_237 (by decide) ?_
                    refine aw_iadd dX9_shelves_238 ?_
                    refine aw_toe (nI (((9 * (p ||| (2 ^ k))) + k) + 1)) (nv_add (rfl) (rfl)) ?_
                    refine aw_iald (((9 * (p ||| (2 ^ k))) + k) + 1) (rfl) (by omega) (by decide) dX9_shelves_239 f3386 ?_
                    refine aw_toe (nI (RS st so xx yy tr tg1 sh1 nv (p ||| 2 ^ k) (k + 1))) (hR1 _ (k + 1) (Nat.zero_le _) (by omega) (by omega)) ?_
                    refine aw_iadd dX9_shelves_240 ?_
                    refine aw_toe (nI ((wnF st so xx yy tr tg1 sh1 p (la + 1) k nv) + (RS st so xx yy tr tg1 sh1 nv (p ||| 2 ^ k) (k + 1)))) (nv_add (rfl) (rfl)) ?_
                    refine aw_aload_n 5 dX9_shelves_241 rfl rfl ?_
                    refine aw_get fX9_113 dX9_shelves_242 f3380 rfl ?_
                    refine aw_bipush (9) dX9_shelves_245 (by decide) ?_
                    refine aw_iload_n 3 dX9_shelves_247 rfl rfl ?_
                    refine aw_imul dX9_shelves_248 ?_
                    refine aw_toe (nI (9 * p)) (nv_mul (rfl) (rfl)) ?_
                    refine aw_iload 2 dX9_shelves_249 rfl ?_
                    refine aw_iadd dX9_shelves_251 ?_
                    refine aw_toe (nI ((9 * p) + la)) (nv_add (rfl) (rfl)) ?_
                    refine aw_iconst (1) dX9_shelves_252 (by decide) ?_
                    refine aw_iadd dX9_shelves_253 ?_
                    refine aw_toe (nI (((9 * p) + la) + 1)) (nv_add (rfl) (rfl)) ?_
                    refine aw_iald (((9 * p) + la) + 1) (rfl) (by omega) (by decide) dX9_shelves_254 f3386 ?_
                    refine aw_toe (nI (RS st so xx yy tr tg1 sh1 nv p (la + 1))) (hR1 p (la + 1) (Nat.zero_le _) (by omega) (by omega)) ?_
                    refine aw_icmp_eq 264 dX9_shelves_255 (by decide) (fun c255 => ?_) (fun c255 => ?_)
                    · have d255 := (nv_eq (a := (wnF st so xx yy tr tg1 sh1 p (la + 1) k nv) + (RS st so xx yy tr tg1 sh1 nv (p ||| 2 ^ k) (k + 1))) (b := (RS st so xx yy tr tg1 sh1 nv p (la + 1))) (rfl) (rfl) (by omega) (by omega)).mp c255
                      refine aw_aload_n 5 dX9_shelves_264 rfl rfl ?_
                      refine aw_get fX9_116 dX9_shelves_265 f3380 rfl ?_
                      refine aw_iload 1 dX9_shelves_268 rfl ?_
                      refine aw_aload_n 5 dX9_shelves_270 rfl rfl ?_
                      refine aw_get fX9_110 dX9_shelves_271 f3380 rfl ?_
                      refine aw_iload 0 dX9_shelves_274 rfl ?_
                      refine aw_iald k (rfl) (by omega) (by decide) dX9_shelves_276 f3385 ?_
                      refine aw_toe (nI (tg1 k)) (rfl) ?_
                      have b3393 := htg1 k (by omega)
                      refine aw_iast n (rfl) (by omega) (by decide) dX9_shelves_277 f3387 ?_
                      refine aw_iload_n 3 dX9_shelves_278 rfl rfl ?_
                      refine aw_iconst (1) dX9_shelves_279 (by decide) ?_
                      refine aw_iload 0 dX9_shelves_280 rfl ?_
                      refine aw_ishl dX9_shelves_282 ?_
                      refine aw_toe (nI (2 ^ k)) (nv_shl1 (rfl) (by omega)) ?_
                      refine aw_ior dX9_shelves_283 ?_
                      refine aw_toe (nI (p ||| (2 ^ k))) (nv_or (rfl) (rfl)) ?_
                      refine aw_istore_n [(3, .int (nI (p ||| (2 ^ k)))), (6, .int (nI k)), (5, .int (nI n)), (4, .int (nI la)), (1, .int (nI st)), (0, .ref (G.1 + 88))] dX9_shelves_284 rfl (by decide) rfl ?_
                      refine aw_iload 1 dX9_shelves_285 rfl ?_
                      refine aw_istore [(4, .int (nI k)), (3, .int (nI (p ||| (2 ^ k)))), (6, .int (nI k)), (5, .int (nI n)), (1, .int (nI st)), (0, .ref (G.1 + 88))] dX9_shelves_287 (by decide) rfl ?_
                      refine aw_iinc (j := 3) (nI (n + 1)) [(5, .int (nI (n + 1))), (4, .int (nI k)), (3, .int (nI (p ||| (2 ^ k)))), (6, .int (nI k)), (1, .int (nI st)), (0, .ref (G.1 + 88))] dX9_shelves_289 rfl (nv_inc (rfl)) (by decide) rfl ?_
                      refine aw_goto 189 dX9_shelves_292 (by decide) ?_
                      refine aw_lv [(5, .int (nI (n + 1))), (4, .int (nI k)), (3, .int (nI (p ||| (2 ^ k)))), (1, .int (nI st)), (0, .ref (G.1 + 88))] [0, 1, 2, 4, 5] rfl ?_
                      exact ih3389 (n + 1) (k + 1) (nI k) (p ||| (2 ^ k)) (upd rw1 n (nI (tg1 k))) _ (by omega) (by omega) (by omega) (Or.inr ⟨k, rfl, rfl⟩) (or_ps hp5 (by omega)) (by rw [pop_or0 p (by omega) k (by omega) t208, hpn]) (by simp only [rwF]; rw [← hq5]; dsimp only; rw [fsF_is (k := k) t208 d255 sh1 0 hfs (Nat.zero_le _) (by omega)]) (gn (by decide) (f3380)) (gn (by decide) (f3381)) (gn (by decide) (f3382)) (gn (by decide) (f3383)) (gn (by decide) (f3384)) (gn (by decide) (f3385)) (gn (by decide) (f3386)) (gs f3387) (rg2_set (k3388) (by decide))
                    · have d255 := mt (nv_eq (a := (wnF st so xx yy tr tg1 sh1 p (la + 1) k nv) + (RS st so xx yy tr tg1 sh1 nv (p ||| 2 ^ k) (k + 1))) (b := (RS st so xx yy tr tg1 sh1 nv p (la + 1))) (rfl) (rfl) (by omega) (by omega)).mpr c255
                      refine aw_iinc (j := 0) (nI (k + 1)) [(6, .int (nI (k + 1))), (5, .int (nI n)), (4, .int (nI la)), (3, .int (nI p)), (1, .int (nI st)), (0, .ref (G.1 + 88))] dX9_shelves_258 rfl (nv_inc (rfl)) (by decide) rfl ?_
                      refine aw_goto 201 dX9_shelves_261 (by decide) ?_
                      refine aw_lv [(6, .int (nI (k + 1))), (5, .int (nI n)), (4, .int (nI la)), (3, .int (nI p)), (1, .int (nI st)), (0, .ref (G.1 + 88))] [0, 1, 2, 3, 4, 5] rfl ?_
                      exact ih3392 (k + 1) (by omega) (Nat.lt_of_le_of_ne hk6 (fun e => d255 (by rw [e]; exact ek0))) (fst_s hfs (Or.inr d255))
        · refine aw_iload_n 0 dX9_shelves_61 rfl rfl ?_
          refine aw_if_lt 181 dX9_shelves_62 (by decide) (fun c62 => absurd c62 (by simp only [i_lt, (nI_toInt (n := p) (by omega)), (show (0 : Int32).toInt = 0 from rfl)] <;> omega)) (fun c62 => ?_)
          refine aw_iconst (-1) dX9_shelves_65 (by decide) ?_
          refine aw_istore [(4, .int (-1)), (3, .int (nI p)), (2, .int (nI (2 ^ sh1 - 1))), (1, .int (nI st)), (0, .ref (G.1 + 88))] dX9_shelves_66 (by decide) rfl ?_
          refine aw_lv [(4, .int (-1)), (3, .int (nI p)), (2, .int (nI (2 ^ sh1 - 1))), (1, .int (nI st)), (0, .ref (G.1 + 88))] [0, 1, 2, 3, 4] rfl ?_
          suffices L3404 : ∀ (mm : Nat) (L : Nat) (lvv : Int32) (rs2 : Nat → Int32) (h3394 : List va_E), sh1 + 1 - L < mm → (L ≤ sh1 + 1) → ((L = 0 ∧ lvv = -1) ∨ ∃ la, L = la + 1 ∧ lvv = nI la) → (∀ q M, ((p < q ∧ q < 2 ^ sh1) ∨ (q = p ∧ M < L)) → M ≤ sh1 → rs2 (9 * q + M) = nI (RS st so xx yy tr tg1 sh1 nv q M)) → h3394[88]? = some (oB 9 (lM G (nI sp) (nI fa) (nI nb) (nI ns) (nI nm) ho ow sl (nI nv) (nI sh1))) → h3394[116]? = some (aI 40 (nA so)) → h3394[117]? = some (aI 40 (nA xx)) → h3394[118]? = some (aI 40 yM) → h3394[119]? = some (aI 40 (nA tr)) → h3394[120]? = some (aI 8 (nA tg1)) → h3394[121]? = some (aI 2304 rs2) → h3394[122]? = some (aI 8 rw) → rg2 88 88 120 122 h h3394 → AW l G yX9_shelves cX9_shelves 7 (some .int) (xR 2 0 0) (fun _ _ => True) QF 0 0 68 [(4, .int lvv), (3, .int (nI p)), (2, .int (nI (2 ^ sh1 - 1))), (1, .int (nI st)), (0, .ref (G.1 + 88))] [] h3394 from L3404 (sh1 + 1 - 0 + 1) 0 (-1) rs1 _ (Nat.lt_succ_self _) (Nat.zero_le _) (Or.inl ⟨rfl, rfl⟩) (fun q M h1 h2 => hR1 q M (by omega) (by omega) h2) f3369 f3370 f3371 f3372 f3373 f3374 f3375 f3376 (k3377)
          intro mm
          induction mm with
          | zero =>
            intro L lvv rs2 h3394 hmm hL hl3 hR2 f3395 f3396 f3397 f3398 f3399 f3400 f3401 f3402 k3403
            exact absurd hmm (Nat.not_lt_zero _)
          | succ mm ih3404 =>
            intro L lvv rs2 h3394 hmm hL hl3 hR2 f3395 f3396 f3397 f3398 f3399 f3400 f3401 f3402 k3403
            rcases hl3 with ⟨rfl, rfl⟩ | ⟨la, rfl, rfl⟩
            · refine aw_iload 0 dX9_shelves_68 rfl ?_
              refine aw_aload_n 4 dX9_shelves_70 rfl rfl ?_
              refine aw_get fX9_233 dX9_shelves_71 f3395 rfl ?_
              refine aw_icmp_ge 175 dX9_shelves_74 (by decide) (fun c74 => ?_) (fun c74 => ?_)
              · have d74 := (j_le (a := ((sh1 : Nat) : Int)) (b := (-1)) (i_toNat (rfl) (by omega)) (rfl)).mp c74
                refine aw_iinc (j := 1) ((nI p) + (-1)) [(3, .int ((nI p) + (-1))), (4, .int (-1)), (2, .int (nI (2 ^ sh1 - 1))), (1, .int (nI st)), (0, .ref (G.1 + 88))] dX9_shelves_175 rfl (by rfl) (by decide) rfl ?_
                refine aw_goto 61 dX9_shelves_178 (by decide) ?_
                refine aw_lv [(3, .int ((nI p) + (-1))), (2, .int (nI (2 ^ sh1 - 1))), (1, .int (nI st)), (0, .ref (G.1 + 88))] [0, 2, 3, 4] rfl ?_
                exact ih3378 p ((nI p) + (-1)) rs2 _ (by omega) (dec_m (n := 2 ^ sh1) (by omega)) (fun q M h1 h2 h3 => hR2 q M (by omega) h3) f3395 f3396 f3397 f3398 f3399 f3400 f3401 f3402 (k3403)
              · have d74 := mt (j_le (a := ((sh1 : Nat) : Int)) (b := (-1)) (i_toNat (rfl) (by omega)) (rfl)).mpr c74
                refine aw_iload_n 1 dX9_shelves_77 rfl rfl ?_
                refine aw_iload_n 2 dX9_shelves_78 rfl rfl ?_
                refine aw_icmp_ne 86 dX9_shelves_79 (by decide) (fun c79 => ?_) (fun c79 => ?_)
                · have d79 := mt (nv_eq (a := p) (b := 2 ^ sh1 - 1) (rfl) (rfl) (by omega) (by omega)).mpr c79
                  refine aw_iconst (-1) dX9_shelves_86 (by decide) ?_
                  refine aw_istore [(5, .int (-1)), (4, .int (-1)), (3, .int (nI p)), (2, .int (nI (2 ^ sh1 - 1))), (1, .int (nI st)), (0, .ref (G.1 + 88))] dX9_shelves_87 (by decide) rfl ?_
                  refine aw_iconst (0) dX9_shelves_89 (by decide) ?_
                  refine aw_istore [(6, .int 0), (5, .int (-1)), (4, .int (-1)), (3, .int (nI p)), (2, .int (nI (2 ^ sh1 - 1))), (1, .int (nI st)), (0, .ref (G.1 + 88))] dX9_shelves_90 (by decide) rfl ?_
                  refine aw_lv [(6, .int 0), (5, .int (-1)), (4, .int (-1)), (3, .int (nI p)), (2, .int (nI (2 ^ sh1 - 1))), (1, .int (nI st)), (0, .ref (G.1 + 88))] [0, 1, 2, 3, 4, 5, 6] rfl ?_
                  suffices L3405 : ∀ (mm : Nat) (k : Nat) (bv : Int32) (mv : Nat), sh1 - k < mm → (k ≤ sh1) → ((bv = -1 ∧ ∀ j, j < k → p.testBit j = true) ∨ (bv = nI mv ∧ ∃ j, j < k ∧ ¬ p.testBit j = true)) → (mv = mxF (vS st so xx yy tr tg1 sh1 nv p 0) p k) → AW l G yX9_shelves cX9_shelves 7 (some .int) (xR 2 0 0) (fun _ _ => True) QF 0 0 92 [(6, .int (nI k)), (5, .int bv), (4, .int (-1)), (3, .int (nI p)), (2, .int (nI (2 ^ sh1 - 1))), (1, .int (nI st)), (0, .ref (G.1 + 88))] [] h3394 from L3405 (sh1 - 0 + 1) 0 (-1) 0 (Nat.lt_succ_self _) (Nat.zero_le _) (Or.inl ⟨rfl, fun j hj => absurd hj (by omega)⟩) (rfl)
                  intro mm
                  induction mm with
                  | zero =>
                    intro k bv mv hmm hk hb hm
                    exact absurd hmm (Nat.not_lt_zero _)
                  | succ mm ih3405 =>
                    intro k bv mv hmm hk hb hm
                    have b8 : mv ≤ 92520 := by rw [hm]; exact mxF_le (vS_le btr hnv) k
                    rcases hb with ⟨rfl, hall⟩ | ⟨rfl, hex⟩
                    · refine aw_iload 0 dX9_shelves_92 rfl ?_
                      refine aw_aload_n 6 dX9_shelves_94 rfl rfl ?_
                      refine aw_get fX9_233 dX9_shelves_95 f3395 rfl ?_
                      refine aw_icmp_ge 153 dX9_shelves_98 (by decide) (fun c98 => ?_) (fun c98 => ?_)
                      · have d98 := (nv_le (a := sh1) (b := k) (rfl) (rfl) (by omega) (by omega)).mp c98
                        exact absurd (ex_clr (s := sh1) (p := p) hsh1 (by omega)) (fun ⟨j, q1, q2⟩ => q2 (hall j (by omega)))
                      · have d98 := mt (nv_le (a := sh1) (b := k) (rfl) (rfl) (by omega) (by omega)).mpr c98
                        refine aw_iload_n 3 dX9_shelves_101 rfl rfl ?_
                        refine aw_iload 0 dX9_shelves_102 rfl ?_
                        refine aw_ishr dX9_shelves_104 ?_
                        refine aw_iconst (1) dX9_shelves_105 (by decide) ?_
                        refine aw_iand dX9_shelves_106 ?_
                        refine aw_toe (if p.testBit k = true then 1 else 0) (nv_bit (rfl) (rfl) (by omega) (by omega)) ?_
                        refine aw_if_ne 147 dX9_shelves_107 (by decide) (fun c107 => ?_) (fun c107 => ?_)
                        · have t107 := ite_1 c107
                          refine aw_iinc (j := 0) (nI (k + 1)) [(6, .int (nI (k + 1))), (5, .int (-1)), (4, .int (-1)), (3, .int (nI p)), (2, .int (nI (2 ^ sh1 - 1))), (1, .int (nI st)), (0, .ref (G.1 + 88))] dX9_shelves_147 rfl (nv_inc (rfl)) (by decide) rfl ?_
                          refine aw_goto 92 dX9_shelves_150 (by decide) ?_
                          refine aw_lv [(6, .int (nI (k + 1))), (5, .int (-1)), (4, .int (-1)), (3, .int (nI p)), (2, .int (nI (2 ^ sh1 - 1))), (1, .int (nI st)), (0, .ref (G.1 + 88))] [0, 1, 2, 3, 4, 5, 6] rfl ?_
                          exact ih3405 (k + 1) (-1) mv (by omega) (by omega) (Or.inl ⟨rfl, allb_s hall t107⟩) (by simp only [mxF]; rw [if_pos t107]; exact hm)
                        · have t107 := ite_0 c107
                          have bor := or_gt t107
                          have bop := or_ps (k := k) hp (by omega)
                          have b7 := wnF_le (st := st) (so := so) (xx := xx) (yy := yy) (tg := tg1) (sh := sh1) (p := p) (L := 0) (nx := k) btr nv hnv
                          have b6 := RS_le (st := st) (so := so) (xx := xx) (yy := yy) (tg := tg1) (sh := sh1) (p := p ||| 2 ^ k) (L := k + 1) btr hnv
                          refine aw_iload 1 dX9_shelves_110 rfl ?_
                          refine aw_aload_n 6 dX9_shelves_112 rfl rfl ?_
                          refine aw_iload_n 5 dX9_shelves_113 rfl rfl ?_
                          refine aw_iload_n 3 dX9_shelves_114 rfl rfl ?_
                          refine aw_iload 2 dX9_shelves_115 rfl ?_
                          refine aw_iload 0 dX9_shelves_117 rfl ?_
                          refine aw_dV [.int (nI st), .int (nI p), .int (-1), .int (nI k)] [.int (-1)] lX9_236 vX9_wins mX9_wins dX9_shelves_119 (bX9_wins0 (sp := sp) (fa := fa) (nb := nb) (ns := ns) (nm := nm) (nv := nv) (sh := sh1) (ho := ho) (ow := ow) (sl := sl) (so := so) (xx := xx) (tr := tr) (tg := tg1) (yM := yM) (st := st) (p := p) (nx := k) f3395 f3396 f3397 f3398 f3399 f3400 htg1 hsh1 (by omega) bso bxx byy btr hyM (by omega) (by omega) (by omega)) f3395 rfl rfl rfl (Nat.le_of_ble_eq_true rfl) (by decide) (by decide) rfl ?_
                          refine aw_aload_n 6 dX9_shelves_122 rfl rfl ?_
                          refine aw_get fX9_113 dX9_shelves_123 f3395 rfl ?_
                          refine aw_bipush (9) dX9_shelves_126 (by decide) ?_
                          refine aw_iload_n 3 dX9_shelves_128 rfl rfl ?_
                          refine aw_iconst (1) dX9_shelves_129 (by decide) ?_
                          refine aw_iload 0 dX9_shelves_130 rfl ?_
                          refine aw_ishl dX9_shelves_132 ?_
                          refine aw_toe (nI (2 ^ k)) (nv_shl1 (rfl) (by omega)) ?_
                          refine aw_ior dX9_shelves_133 ?_
                          refine aw_toe (nI (p ||| (2 ^ k))) (nv_or (rfl) (rfl)) ?_
                          refine aw_imul dX9_shelves_134 ?_
                          refine aw_toe (nI (9 * (p ||| (2 ^ k)))) (nv_mul (rfl) (rfl)) ?_
                          refine aw_iload 0 dX9_shelves_135 rfl ?_
                          refine aw_iadd dX9_shelves_137 ?_
                          refine aw_toe (nI ((9 * (p ||| (2 ^ k))) + k)) (nv_add (rfl) (rfl)) ?_
                          refine aw_iconst (1) dX9_shelves_138 (by decide) ?_
                          refine aw_iadd dX9_shelves_139 ?_
                          refine aw_toe (nI (((9 * (p ||| (2 ^ k))) + k) + 1)) (nv_add (rfl) (rfl)) ?_
                          refine aw_iald (((9 * (p ||| (2 ^ k))) + k) + 1) (rfl) (by omega) (by decide) dX9_shelves_140 f3401 ?_
                          refine aw_toe (nI (RS st so xx yy tr tg1 sh1 nv (p ||| 2 ^ k) (k + 1))) (hR2 _ (k + 1) (by omega) (by omega)) ?_
                          refine aw_iadd dX9_shelves_141 ?_
                          refine aw_toe (nI ((wnF st so xx yy tr tg1 sh1 p 0 k nv) + (RS st so xx yy tr tg1 sh1 nv (p ||| 2 ^ k) (k + 1)))) (nv_add (rfl) (rfl)) ?_
                          refine aw_mmax lX9_162 dX9_shelves_142 (Nat.le_of_ble_eq_true rfl) (by decide) (by decide) ?_
                          refine aw_toe (nI ((wnF st so xx yy tr tg1 sh1 p 0 k nv) + (RS st so xx yy tr tg1 sh1 nv (p ||| 2 ^ k) (k + 1)))) (mx_neg (by omega)) ?_
                          refine aw_istore [(5, .int (nI ((wnF st so xx yy tr tg1 sh1 p 0 k nv) + (RS st so xx yy tr tg1 sh1 nv (p ||| 2 ^ k) (k + 1))))), (6, .int (nI k)), (4, .int (-1)), (3, .int (nI p)), (2, .int (nI (2 ^ sh1 - 1))), (1, .int (nI st)), (0, .ref (G.1 + 88))] dX9_shelves_145 (by decide) rfl ?_
                          refine aw_iinc (j := 1) (nI (k + 1)) [(6, .int (nI (k + 1))), (5, .int (nI ((wnF st so xx yy tr tg1 sh1 p 0 k nv) + (RS st so xx yy tr tg1 sh1 nv (p ||| 2 ^ k) (k + 1))))), (4, .int (-1)), (3, .int (nI p)), (2, .int (nI (2 ^ sh1 - 1))), (1, .int (nI st)), (0, .ref (G.1 + 88))] dX9_shelves_147 rfl (nv_inc (rfl)) (by decide) rfl ?_
                          refine aw_goto 92 dX9_shelves_150 (by decide) ?_
                          refine aw_lv [(6, .int (nI (k + 1))), (5, .int (nI ((wnF st so xx yy tr tg1 sh1 p 0 k nv) + (RS st so xx yy tr tg1 sh1 nv (p ||| 2 ^ k) (k + 1))))), (4, .int (-1)), (3, .int (nI p)), (2, .int (nI (2 ^ sh1 - 1))), (1, .int (nI st)), (0, .ref (G.1 + 88))] [0, 1, 2, 3, 4, 5, 6] rfl ?_
                          exact ih3405 (k + 1) (nI ((wnF st so xx yy tr tg1 sh1 p 0 k nv) + (RS st so xx yy tr tg1 sh1 nv (p ||| 2 ^ k) (k + 1)))) ((wnF st so xx yy tr tg1 sh1 p 0 k nv) + (RS st so xx yy tr tg1 sh1 nv (p ||| 2 ^ k) (k + 1))) (by omega) (by omega) (Or.inr ⟨rfl, k, by omega, t107⟩) (by simp only [mxF]; rw [if_neg t107, mxF_0 k hall]; exact (Nat.zero_max _).symm)
                    · refine aw_iload 0 dX9_shelves_92 rfl ?_
                      refine aw_aload_n 6 dX9_shelves_94 rfl rfl ?_
                      refine aw_get fX9_233 dX9_shelves_95 f3395 rfl ?_
                      refine aw_icmp_ge 153 dX9_shelves_98 (by decide) (fun c98 => ?_) (fun c98 => ?_)
                      · have d98 := (nv_le (a := sh1) (b := k) (rfl) (rfl) (by omega) (by omega)).mp c98
                        refine aw_aload_n 6 dX9_shelves_153 rfl rfl ?_
                        refine aw_get fX9_113 dX9_shelves_154 f3395 rfl ?_
                        refine aw_bipush (9) dX9_shelves_157 (by decide) ?_
                        refine aw_iload_n 3 dX9_shelves_159 rfl rfl ?_
                        refine aw_imul dX9_shelves_160 ?_
                        refine aw_toe (nI (9 * p)) (nv_mul (rfl) (rfl)) ?_
                        refine aw_iload 2 dX9_shelves_161 rfl ?_
                        refine aw_iadd dX9_shelves_163 ?_
                        refine aw_iconst (1) dX9_shelves_164 (by decide) ?_
                        refine aw_iadd dX9_shelves_165 ?_
                        refine aw_toe (nI (9 * p)) (nI_mp) ?_
                        refine aw_iload 1 dX9_shelves_166 rfl ?_
                        refine aw_iast (9 * p) (rfl) (by omega) (by decide) dX9_shelves_168 f3401 ?_
                        refine aw_iinc (j := 2) ((-1) + 1) [(4, .int ((-1) + 1)), (6, .int (nI k)), (5, .int (nI mv)), (3, .int (nI p)), (2, .int (nI (2 ^ sh1 - 1))), (1, .int (nI st)), (0, .ref (G.1 + 88))] dX9_shelves_169 rfl (by rfl) (by decide) rfl ?_
                        refine aw_goto 68 dX9_shelves_172 (by decide) ?_
                        refine aw_lv [(4, .int ((-1) + 1)), (3, .int (nI p)), (2, .int (nI (2 ^ sh1 - 1))), (1, .int (nI st)), (0, .ref (G.1 + 88))] [0, 3, 4, 5, 6] rfl ?_
                        exact ih3404 1 ((-1) + 1) (upd rs2 (9 * p) (nI mv)) _ (by omega) (by omega) (Or.inr ⟨0, rfl, by decide⟩) (rs_up (L := 0) hR2 hsh1 (by omega) (by rw [RS_s hsh1 hp, hm, show k = sh1 by omega])) (gn (by decide) (f3395)) (gn (by decide) (f3396)) (gn (by decide) (f3397)) (gn (by decide) (f3398)) (gn (by decide) (f3399)) (gn (by decide) (f3400)) (gs f3401) (gn (by decide) (f3402)) (rg2_set (k3403) (by decide))
                      · have d98 := mt (nv_le (a := sh1) (b := k) (rfl) (rfl) (by omega) (by omega)).mpr c98
                        refine aw_iload_n 3 dX9_shelves_101 rfl rfl ?_
                        refine aw_iload 0 dX9_shelves_102 rfl ?_
                        refine aw_ishr dX9_shelves_104 ?_
                        refine aw_iconst (1) dX9_shelves_105 (by decide) ?_
                        refine aw_iand dX9_shelves_106 ?_
                        refine aw_toe (if p.testBit k = true then 1 else 0) (nv_bit (rfl) (rfl) (by omega) (by omega)) ?_
                        refine aw_if_ne 147 dX9_shelves_107 (by decide) (fun c107 => ?_) (fun c107 => ?_)
                        · have t107 := ite_1 c107
                          refine aw_iinc (j := 0) (nI (k + 1)) [(6, .int (nI (k + 1))), (5, .int (nI mv)), (4, .int (-1)), (3, .int (nI p)), (2, .int (nI (2 ^ sh1 - 1))), (1, .int (nI st)), (0, .ref (G.1 + 88))] dX9_shelves_147 rfl (nv_inc (rfl)) (by decide) rfl ?_
                          refine aw_goto 92 dX9_shelves_150 (by decide) ?_
                          refine aw_lv [(6, .int (nI (k + 1))), (5, .int (nI mv)), (4, .int (-1)), (3, .int (nI p)), (2, .int (nI (2 ^ sh1 - 1))), (1, .int (nI st)), (0, .ref (G.1 + 88))] [0, 1, 2, 3, 4, 5, 6] rfl ?_
                          exact ih3405 (k + 1) (nI mv) mv (by omega) (by omega) (Or.inr ⟨rfl, hex.elim (fun j q => ⟨j, by omega, q.2⟩)⟩) (by simp only [mxF]; rw [if_pos t107]; exact hm)
                        · have t107 := ite_0 c107
                          have bor := or_gt t107
                          have bop := or_ps (k := k) hp (by omega)
                          have b7 := wnF_le (st := st) (so := so) (xx := xx) (yy := yy) (tg := tg1) (sh := sh1) (p := p) (L := 0) (nx := k) btr nv hnv
                          have b6 := RS_le (st := st) (so := so) (xx := xx) (yy := yy) (tg := tg1) (sh := sh1) (p := p ||| 2 ^ k) (L := k + 1) btr hnv
                          refine aw_iload 1 dX9_shelves_110 rfl ?_
                          refine aw_aload_n 6 dX9_shelves_112 rfl rfl ?_
                          refine aw_iload_n 5 dX9_shelves_113 rfl rfl ?_
                          refine aw_iload_n 3 dX9_shelves_114 rfl rfl ?_
                          refine aw_iload 2 dX9_shelves_115 rfl ?_
                          refine aw_iload 0 dX9_shelves_117 rfl ?_
                          refine aw_dV [.int (nI st), .int (nI p), .int (-1), .int (nI k)] [.int (nI mv)] lX9_236 vX9_wins mX9_wins dX9_shelves_119 (bX9_wins0 (sp := sp) (fa := fa) (nb := nb) (ns := ns) (nm := nm) (nv := nv) (sh := sh1) (ho := ho) (ow := ow) (sl := sl) (so := so) (xx := xx) (tr := tr) (tg := tg1) (yM := yM) (st := st) (p := p) (nx := k) f3395 f3396 f3397 f3398 f3399 f3400 htg1 hsh1 (by omega) bso bxx byy btr hyM (by omega) (by omega) (by omega)) f3395 rfl rfl rfl (Nat.le_of_ble_eq_true rfl) (by decide) (by decide) rfl ?_
                          refine aw_aload_n 6 dX9_shelves_122 rfl rfl ?_
                          refine aw_get fX9_113 dX9_shelves_123 f3395 rfl ?_
                          refine aw_bipush (9) dX9_shelves_126 (by decide) ?_
                          refine aw_iload_n 3 dX9_shelves_128 rfl rfl ?_
                          refine aw_iconst (1) dX9_shelves_129 (by decide) ?_
                          refine aw_iload 0 dX9_shelves_130 rfl ?_
                          refine aw_ishl dX9_shelves_132 ?_
                          refine aw_toe (nI (2 ^ k)) (nv_shl1 (rfl) (by omega)) ?_
                          refine aw_ior dX9_shelves_133 ?_
                          refine aw_toe (nI (p ||| (2 ^ k))) (nv_or (rfl) (rfl)) ?_
                          refine aw_imul dX9_shelves_134 ?_
                          refine aw_toe (nI (9 * (p ||| (2 ^ k)))) (nv_mul (rfl) (rfl)) ?_
                          refine aw_iload 0 dX9_shelves_135 rfl ?_
                          refine aw_iadd dX9_shelves_137 ?_
                          refine aw_toe (nI ((9 * (p ||| (2 ^ k))) + k)) (nv_add (rfl) (rfl)) ?_
                          refine aw_iconst (1) dX9_shelves_138 (by decide) ?_
                          refine aw_iadd dX9_shelves_139 ?_
                          refine aw_toe (nI (((9 * (p ||| (2 ^ k))) + k) + 1)) (nv_add (rfl) (rfl)) ?_
                          refine aw_iald (((9 * (p ||| (2 ^ k))) + k) + 1) (rfl) (by omega) (by decide) dX9_shelves_140 f3401 ?_
                          refine aw_toe (nI (RS st so xx yy tr tg1 sh1 nv (p ||| 2 ^ k) (k + 1))) (hR2 _ (k + 1) (by omega) (by omega)) ?_
                          refine aw_iadd dX9_shelves_141 ?_
                          refine aw_toe (nI ((wnF st so xx yy tr tg1 sh1 p 0 k nv) + (RS st so xx yy tr tg1 sh1 nv (p ||| 2 ^ k) (k + 1)))) (nv_add (rfl) (rfl)) ?_
                          refine aw_mmax lX9_162 dX9_shelves_142 (Nat.le_of_ble_eq_true rfl) (by decide) (by decide) ?_
                          refine aw_toe (nI (max mv ((wnF st so xx yy tr tg1 sh1 p 0 k nv) + (RS st so xx yy tr tg1 sh1 nv (p ||| 2 ^ k) (k + 1))))) (nv_max (rfl) (rfl) (by omega) (by omega)) ?_
                          refine aw_istore [(5, .int (nI (max mv ((wnF st so xx yy tr tg1 sh1 p 0 k nv) + (RS st so xx yy tr tg1 sh1 nv (p ||| 2 ^ k) (k + 1)))))), (6, .int (nI k)), (4, .int (-1)), (3, .int (nI p)), (2, .int (nI (2 ^ sh1 - 1))), (1, .int (nI st)), (0, .ref (G.1 + 88))] dX9_shelves_145 (by decide) rfl ?_
                          refine aw_iinc (j := 1) (nI (k + 1)) [(6, .int (nI (k + 1))), (5, .int (nI (max mv ((wnF st so xx yy tr tg1 sh1 p 0 k nv) + (RS st so xx yy tr tg1 sh1 nv (p ||| 2 ^ k) (k + 1)))))), (4, .int (-1)), (3, .int (nI p)), (2, .int (nI (2 ^ sh1 - 1))), (1, .int (nI st)), (0, .ref (G.1 + 88))] dX9_shelves_147 rfl (nv_inc (rfl)) (by decide) rfl ?_
                          refine aw_goto 92 dX9_shelves_150 (by decide) ?_
                          refine aw_lv [(6, .int (nI (k + 1))), (5, .int (nI (max mv ((wnF st so xx yy tr tg1 sh1 p 0 k nv) + (RS st so xx yy tr tg1 sh1 nv (p ||| 2 ^ k) (k + 1)))))), (4, .int (-1)), (3, .int (nI p)), (2, .int (nI (2 ^ sh1 - 1))), (1, .int (nI st)), (0, .ref (G.1 + 88))] [0, 1, 2, 3, 4, 5, 6] rfl ?_
                          exact ih3405 (k + 1) (nI (max mv ((wnF st so xx yy tr tg1 sh1 p 0 k nv) + (RS st so xx yy tr tg1 sh1 nv (p ||| 2 ^ k) (k + 1))))) (max mv ((wnF st so xx yy tr tg1 sh1 p 0 k nv) + (RS st so xx yy tr tg1 sh1 nv (p ||| 2 ^ k) (k + 1)))) (by omega) (by omega) (Or.inr ⟨rfl, k, by omega, t107⟩) (by simp only [mxF]; rw [if_neg t107, ← hm]; rfl)
                · have d79 := (nv_eq (a := p) (b := 2 ^ sh1 - 1) (rfl) (rfl) (by omega) (by omega)).mp c79
                  refine aw_iconst (0) dX9_shelves_82 (by decide) ?_
                  refine aw_goto 87 dX9_shelves_83 (by decide) ?_
                  refine aw_istore [(5, .int 0), (4, .int (-1)), (3, .int (nI p)), (2, .int (nI (2 ^ sh1 - 1))), (1, .int (nI st)), (0, .ref (G.1 + 88))] dX9_shelves_87 (by decide) rfl ?_
                  refine aw_iconst (0) dX9_shelves_89 (by decide) ?_
                  refine aw_istore [(6, .int 0), (5, .int 0), (4, .int (-1)), (3, .int (nI p)), (2, .int (nI (2 ^ sh1 - 1))), (1, .int (nI st)), (0, .ref (G.1 + 88))] dX9_shelves_90 (by decide) rfl ?_
                  refine aw_lv [(6, .int 0), (5, .int 0), (4, .int (-1)), (3, .int (nI p)), (2, .int (nI (2 ^ sh1 - 1))), (1, .int (nI st)), (0, .ref (G.1 + 88))] [0, 1, 2, 3, 4, 5, 6] rfl ?_
                  suffices L3406 : ∀ (mm : Nat) (k : Nat), sh1 - k < mm → (k ≤ sh1) → AW l G yX9_shelves cX9_shelves 7 (some .int) (xR 2 0 0) (fun _ _ => True) QF 0 0 92 [(6, .int (nI k)), (5, .int 0), (4, .int (-1)), (3, .int (nI p)), (2, .int (nI (2 ^ sh1 - 1))), (1, .int (nI st)), (0, .ref (G.1 + 88))] [] h3394 from L3406 (sh1 - 0 + 1) 0 (Nat.lt_succ_self _) (Nat.zero_le _)
                  intro mm
                  induction mm with
                  | zero =>
                    intro k hmm hk
                    exact absurd hmm (Nat.not_lt_zero _)
                  | succ mm ih3406 =>
                    intro k hmm hk
                    refine aw_iload 0 dX9_shelves_92 rfl ?_
                    refine aw_aload_n 6 dX9_shelves_94 rfl rfl ?_
                    refine aw_get fX9_233 dX9_shelves_95 f3395 rfl ?_
                    refine aw_icmp_ge 153 dX9_shelves_98 (by decide) (fun c98 => ?_) (fun c98 => ?_)
                    · have d98 := (nv_le (a := sh1) (b := k) (rfl) (rfl) (by omega) (by omega)).mp c98
                      refine aw_aload_n 6 dX9_shelves_153 rfl rfl ?_
                      refine aw_get fX9_113 dX9_shelves_154 f3395 rfl ?_
                      refine aw_bipush (9) dX9_shelves_157 (by decide) ?_
                      refine aw_iload_n 3 dX9_shelves_159 rfl rfl ?_
                      refine aw_imul dX9_shelves_160 ?_
                      refine aw_toe (nI (9 * p)) (nv_mul (rfl) (rfl)) ?_
                      refine aw_iload 2 dX9_shelves_161 rfl ?_
                      refine aw_iadd dX9_shelves_163 ?_
                      refine aw_iconst (1) dX9_shelves_164 (by decide) ?_
                      refine aw_iadd dX9_shelves_165 ?_
                      refine aw_toe (nI (9 * p)) (nI_mp) ?_
                      refine aw_iload 1 dX9_shelves_166 rfl ?_
                      refine aw_iast (9 * p) (rfl) (by omega) (by decide) dX9_shelves_168 f3401 ?_
                      refine aw_iinc (j := 2) ((-1) + 1) [(4, .int ((-1) + 1)), (6, .int (nI k)), (5, .int 0), (3, .int (nI p)), (2, .int (nI (2 ^ sh1 - 1))), (1, .int (nI st)), (0, .ref (G.1 + 88))] dX9_shelves_169 rfl (by rfl) (by decide) rfl ?_
                      refine aw_goto 68 dX9_shelves_172 (by decide) ?_
                      refine aw_lv [(4, .int ((-1) + 1)), (3, .int (nI p)), (2, .int (nI (2 ^ sh1 - 1))), (1, .int (nI st)), (0, .ref (G.1 + 88))] [0, 3, 4, 5, 6] rfl ?_
                      exact ih3404 1 ((-1) + 1) (upd rs2 (9 * p) 0) _ (by omega) (by omega) (Or.inr ⟨0, rfl, by decide⟩) (rs_up (L := 0) hR2 hsh1 (by omega) (by rw [show (RS st so xx yy tr tg1 sh1 nv p 0) = 0 from rsF_all d79]; rfl)) (gn (by decide) (f3395)) (gn (by decide) (f3396)) (gn (by decide) (f3397)) (gn (by decide) (f3398)) (gn (by decide) (f3399)) (gn (by decide) (f3400)) (gs f3401) (gn (by decide) (f3402)) (rg2_set (k3403) (by decide))
                    · have d98 := mt (nv_le (a := sh1) (b := k) (rfl) (rfl) (by omega) (by omega)).mpr c98
                      refine aw_iload_n 3 dX9_shelves_101 rfl rfl ?_
                      refine aw_iload 0 dX9_shelves_102 rfl ?_
                      refine aw_ishr dX9_shelves_104 ?_
                      refine aw_iconst (1) dX9_shelves_105 (by decide) ?_
                      refine aw_iand dX9_shelves_106 ?_
                      refine aw_toe (if p.testBit k = true then 1 else 0) (nv_bit (rfl) (rfl) (by omega) (by omega)) ?_
                      refine aw_if_ne 147 dX9_shelves_107 (by decide) (fun c107 => ?_) (fun c107 => ?_)
                      · have t107 := ite_1 c107
                        refine aw_iinc (j := 0) (nI (k + 1)) [(6, .int (nI (k + 1))), (5, .int 0), (4, .int (-1)), (3, .int (nI p)), (2, .int (nI (2 ^ sh1 - 1))), (1, .int (nI st)), (0, .ref (G.1 + 88))] dX9_shelves_147 rfl (nv_inc (rfl)) (by decide) rfl ?_
                        refine aw_goto 92 dX9_shelves_150 (by decide) ?_
                        refine aw_lv [(6, .int (nI (k + 1))), (5, .int 0), (4, .int (-1)), (3, .int (nI p)), (2, .int (nI (2 ^ sh1 - 1))), (1, .int (nI st)), (0, .ref (G.1 + 88))] [0, 1, 2, 3, 4, 5, 6] rfl ?_
                        exact ih3406 (k + 1) (by omega) (by omega)
                      · have t107 := ite_0 c107
                        exact absurd (allbit d79 (by omega)) t107
            · refine aw_iload 0 dX9_shelves_68 rfl ?_
              refine aw_aload_n 4 dX9_shelves_70 rfl rfl ?_
              refine aw_get fX9_233 dX9_shelves_71 f3395 rfl ?_
              refine aw_icmp_ge 175 dX9_shelves_74 (by decide) (fun c74 => ?_) (fun c74 => ?_)
              · have d74 := (nv_le (a := sh1) (b := la) (rfl) (rfl) (by omega) (by omega)).mp c74
                refine aw_iinc (j := 1) ((nI p) + (-1)) [(3, .int ((nI p) + (-1))), (4, .int (nI la)), (2, .int (nI (2 ^ sh1 - 1))), (1, .int (nI st)), (0, .ref (G.1 + 88))] dX9_shelves_175 rfl (by rfl) (by decide) rfl ?_
                refine aw_goto 61 dX9_shelves_178 (by decide) ?_
                refine aw_lv [(3, .int ((nI p) + (-1))), (2, .int (nI (2 ^ sh1 - 1))), (1, .int (nI st)), (0, .ref (G.1 + 88))] [0, 2, 3, 4] rfl ?_
                exact ih3378 p ((nI p) + (-1)) rs2 _ (by omega) (dec_m (n := 2 ^ sh1) (by omega)) (fun q M h1 h2 h3 => hR2 q M (by omega) h3) f3395 f3396 f3397 f3398 f3399 f3400 f3401 f3402 (k3403)
              · have d74 := mt (nv_le (a := sh1) (b := la) (rfl) (rfl) (by omega) (by omega)).mpr c74
                refine aw_iload_n 1 dX9_shelves_77 rfl rfl ?_
                refine aw_iload_n 2 dX9_shelves_78 rfl rfl ?_
                refine aw_icmp_ne 86 dX9_shelves_79 (by decide) (fun c79 => ?_) (fun c79 => ?_)
                · have d79 := mt (nv_eq (a := p) (b := 2 ^ sh1 - 1) (rfl) (rfl) (by omega) (by omega)).mpr c79
                  refine aw_iconst (-1) dX9_shelves_86 (by decide) ?_
                  refine aw_istore [(5, .int (-1)), (4, .int (nI la)), (3, .int (nI p)), (2, .int (nI (2 ^ sh1 - 1))), (1, .int (nI st)), (0, .ref (G.1 + 88))] dX9_shelves_87 (by decide) rfl ?_
                  refine aw_iconst (0) dX9_shelves_89 (by decide) ?_
                  refine aw_istore [(6, .int 0), (5, .int (-1)), (4, .int (nI la)), (3, .int (nI p)), (2, .int (nI (2 ^ sh1 - 1))), (1, .int (nI st)), (0, .ref (G.1 + 88))] dX9_shelves_90 (by decide) rfl ?_
                  refine aw_lv [(6, .int 0), (5, .int (-1)), (4, .int (nI la)), (3, .int (nI p)), (2, .int (nI (2 ^ sh1 - 1))), (1, .int (nI st)), (0, .ref (G.1 + 88))] [0, 1, 2, 3, 4, 5, 6] rfl ?_
                  suffices L3407 : ∀ (mm : Nat) (k : Nat) (bv : Int32) (mv : Nat), sh1 - k < mm → (k ≤ sh1) → ((bv = -1 ∧ ∀ j, j < k → p.testBit j = true) ∨ (bv = nI mv ∧ ∃ j, j < k ∧ ¬ p.testBit j = true)) → (mv = mxF (vS st so xx yy tr tg1 sh1 nv p (la + 1)) p k) → AW l G yX9_shelves cX9_shelves 7 (some .int) (xR 2 0 0) (fun _ _ => True) QF 0 0 92 [(6, .int (nI k)), (5, .int bv), (4, .int (nI la)), (3, .int (nI p)), (2, .int (nI (2 ^ sh1 - 1))), (1, .int (nI st)), (0, .ref (G.1 + 88))] [] h3394 from L3407 (sh1 - 0 + 1) 0 (-1) 0 (Nat.lt_succ_self _) (Nat.zero_le _) (Or.inl ⟨rfl, fun j hj => absurd hj (by omega)⟩) (rfl)
                  intro mm
                  induction mm with
                  | zero =>
                    intro k bv mv hmm hk hb hm
                    exact absurd hmm (Nat.not_lt_zero _)
                  | succ mm ih3407 =>
                    intro k bv mv hmm hk hb hm
                    have b8 : mv ≤ 92520 := by rw [hm]; exact mxF_le (vS_le btr hnv) k
                    rcases hb with ⟨rfl, hall⟩ | ⟨rfl, hex⟩
                    · refine aw_iload 0 dX9_shelves_92 rfl ?_
                      refine aw_aload_n 6 dX9_shelves_94 rfl rfl ?_
                      refine aw_get fX9_233 dX9_shelves_95 f3395 rfl ?_
                      refine aw_icmp_ge 153 dX9_shelves_98 (by decide) (fun c98 => ?_) (fun c98 => ?_)
                      · have d98 := (nv_le (a := sh1) (b := k) (rfl) (rfl) (by omega) (by omega)).mp c98
                        exact absurd (ex_clr (s := sh1) (p := p) hsh1 (by omega)) (fun ⟨j, q1, q2⟩ => q2 (hall j (by omega)))
                      · have d98 := mt (nv_le (a := sh1) (b := k) (rfl) (rfl) (by omega) (by omega)).mpr c98
                        refine aw_iload_n 3 dX9_shelves_101 rfl rfl ?_
                        refine aw_iload 0 dX9_shelves_102 rfl ?_
                        refine aw_ishr dX9_shelves_104 ?_
                        refine aw_iconst (1) dX9_shelves_105 (by decide) ?_
                        refine aw_iand dX9_shelves_106 ?_
                        refine aw_toe (if p.testBit k = true then 1 else 0) (nv_bit (rfl) (rfl) (by omega) (by omega)) ?_
                        refine aw_if_ne 147 dX9_shelves_107 (by decide) (fun c107 => ?_) (fun c107 => ?_)
                        · have t107 := ite_1 c107
                          refine aw_iinc (j := 0) (nI (k + 1)) [(6, .int (nI (k + 1))), (5, .int (-1)), (4, .int (nI la)), (3, .int (nI p)), (2, .int (nI (2 ^ sh1 - 1))), (1, .int (nI st)), (0, .ref (G.1 + 88))] dX9_shelves_147 rfl (nv_inc (rfl)) (by decide) rfl ?_
                          refine aw_goto 92 dX9_shelves_150 (by decide) ?_
                          refine aw_lv [(6, .int (nI (k + 1))), (5, .int (-1)), (4, .int (nI la)), (3, .int (nI p)), (2, .int (nI (2 ^ sh1 - 1))), (1, .int (nI st)), (0, .ref (G.1 + 88))] [0, 1, 2, 3, 4, 5, 6] rfl ?_
                          exact ih3407 (k + 1) (-1) mv (by omega) (by omega) (Or.inl ⟨rfl, allb_s hall t107⟩) (by simp only [mxF]; rw [if_pos t107]; exact hm)
                        · have t107 := ite_0 c107
                          have bor := or_gt t107
                          have bop := or_ps (k := k) hp (by omega)
                          have b7 := wnF_le (st := st) (so := so) (xx := xx) (yy := yy) (tg := tg1) (sh := sh1) (p := p) (L := la + 1) (nx := k) btr nv hnv
                          have b6 := RS_le (st := st) (so := so) (xx := xx) (yy := yy) (tg := tg1) (sh := sh1) (p := p ||| 2 ^ k) (L := k + 1) btr hnv
                          refine aw_iload 1 dX9_shelves_110 rfl ?_
                          refine aw_aload_n 6 dX9_shelves_112 rfl rfl ?_
                          refine aw_iload_n 5 dX9_shelves_113 rfl rfl ?_
                          refine aw_iload_n 3 dX9_shelves_114 rfl rfl ?_
                          refine aw_iload 2 dX9_shelves_115 rfl ?_
                          refine aw_iload 0 dX9_shelves_117 rfl ?_
                          refine aw_dV [.int (nI st), .int (nI p), .int (nI la), .int (nI k)] [.int (-1)] lX9_236 vX9_wins mX9_wins dX9_shelves_119 (bX9_winsL (sp := sp) (fa := fa) (nb := nb) (ns := ns) (nm := nm) (nv := nv) (sh := sh1) (ho := ho) (ow := ow) (sl := sl) (so := so) (xx := xx) (tr := tr) (tg := tg1) (yM := yM) (st := st) (p := p) (nx := k) (la := la) f3395 f3396 f3397 f3398 f3399 f3400 htg1 hsh1 (by omega) bso bxx byy btr hyM (by omega) (by omega) (by omega) (by omega)) f3395 rfl rfl rfl (Nat.le_of_ble_eq_true rfl) (by decide) (by decide) rfl ?_
                          refine aw_aload_n 6 dX9_shelves_122 rfl rfl ?_
                          refine aw_get fX9_113 dX9_shelves_123 f3395 rfl ?_
                          refine aw_bipush (9) dX9_shelves_126 (by decide) ?_
                          refine aw_iload_n 3 dX9_shelves_128 rfl rfl ?_
                          refine aw_iconst (1) dX9_shelves_129 (by decide) ?_
                          refine aw_iload 0 dX9_shelves_130 rfl ?_
                          refine aw_ishl dX9_shelves_132 ?_
                          refine aw_toe (nI (2 ^ k)) (nv_shl1 (rfl) (by omega)) ?_
                          refine aw_ior dX9_shelves_133 ?_
                          refine aw_toe (nI (p ||| (2 ^ k))) (nv_or (rfl) (rfl)) ?_
                          refine aw_imul dX9_shelves_134 ?_
                          refine aw_toe (nI (9 * (p ||| (2 ^ k)))) (nv_mul (rfl) (rfl)) ?_
                          refine aw_iload 0 dX9_shelves_135 rfl ?_
                          refine aw_iadd dX9_shelves_137 ?_
                          refine aw_toe (nI ((9 * (p ||| (2 ^ k))) + k)) (nv_add (rfl) (rfl)) ?_
                          refine aw_iconst (1) dX9_shelves_138 (by decide) ?_
                          refine aw_iadd dX9_shelves_139 ?_
                          refine aw_toe (nI (((9 * (p ||| (2 ^ k))) + k) + 1)) (nv_add (rfl) (rfl)) ?_
                          refine aw_iald (((9 * (p ||| (2 ^ k))) + k) + 1) (rfl) (by omega) (by decide) dX9_shelves_140 f3401 ?_
                          refine aw_toe (nI (RS st so xx yy tr tg1 sh1 nv (p ||| 2 ^ k) (k + 1))) (hR2 _ (k + 1) (by omega) (by omega)) ?_
                          refine aw_iadd dX9_shelves_141 ?_
                          refine aw_toe (nI ((wnF st so xx yy tr tg1 sh1 p (la + 1) k nv) + (RS st so xx yy tr tg1 sh1 nv (p ||| 2 ^ k) (k + 1)))) (nv_add (rfl) (rfl)) ?_
                          refine aw_mmax lX9_162 dX9_shelves_142 (Nat.le_of_ble_eq_true rfl) (by decide) (by decide) ?_
                          refine aw_toe (nI ((wnF st so xx yy tr tg1 sh1 p (la + 1) k nv) + (RS st so xx yy tr tg1 sh1 nv (p ||| 2 ^ k) (k + 1)))) (mx_neg (by omega)) ?_
                          refine aw_istore [(5, .int (nI ((wnF st so xx yy tr tg1 sh1 p (la + 1) k nv) + (RS st so xx yy tr tg1 sh1 nv (p ||| 2 ^ k) (k + 1))))), (6, .int (nI k)), (4, .int (nI la)), (3, .int (nI p)), (2, .int (nI (2 ^ sh1 - 1))), (1, .int (nI st)), (0, .ref (G.1 + 88))] dX9_shelves_145 (by decide) rfl ?_
                          refine aw_iinc (j := 1) (nI (k + 1)) [(6, .int (nI (k + 1))), (5, .int (nI ((wnF st so xx yy tr tg1 sh1 p (la + 1) k nv) + (RS st so xx yy tr tg1 sh1 nv (p ||| 2 ^ k) (k + 1))))), (4, .int (nI la)), (3, .int (nI p)), (2, .int (nI (2 ^ sh1 - 1))), (1, .int (nI st)), (0, .ref (G.1 + 88))] dX9_shelves_147 rfl (nv_inc (rfl)) (by decide) rfl ?_
                          refine aw_goto 92 dX9_shelves_150 (by decide) ?_
                          refine aw_lv [(6, .int (nI (k + 1))), (5, .int (nI ((wnF st so xx yy tr tg1 sh1 p (la + 1) k nv) + (RS st so xx yy tr tg1 sh1 nv (p ||| 2 ^ k) (k + 1))))), (4, .int (nI la)), (3, .int (nI p)), (2, .int (nI (2 ^ sh1 - 1))), (1, .int (nI st)), (0, .ref (G.1 + 88))] [0, 1, 2, 3, 4, 5, 6] rfl ?_
                          exact ih3407 (k + 1) (nI ((wnF st so xx yy tr tg1 sh1 p (la + 1) k nv) + (RS st so xx yy tr tg1 sh1 nv (p ||| 2 ^ k) (k + 1)))) ((wnF st so xx yy tr tg1 sh1 p (la + 1) k nv) + (RS st so xx yy tr tg1 sh1 nv (p ||| 2 ^ k) (k + 1))) (by omega) (by omega) (Or.inr ⟨rfl, k, by omega, t107⟩) (by simp only [mxF]; rw [if_neg t107, mxF_0 k hall]; exact (Nat.zero_max _).symm)
                    · refine aw_iload 0 dX9_shelves_92 rfl ?_
                      refine aw_aload_n 6 dX9_shelves_94 rfl rfl ?_
                      refine aw_get fX9_233 dX9_shelves_95 f3395 rfl ?_
                      refine aw_icmp_ge 153 dX9_shelves_98 (by decide) (fun c98 => ?_) (fun c98 => ?_)
                      · have d98 := (nv_le (a := sh1) (b := k) (rfl) (rfl) (by omega) (by omega)).mp c98
                        refine aw_aload_n 6 dX9_shelves_153 rfl rfl ?_
                        refine aw_get fX9_113 dX9_shelves_154 f3395 rfl ?_
                        refine aw_bipush (9) dX9_shelves_157 (by decide) ?_
                        refine aw_iload_n 3 dX9_shelves_159 rfl rfl ?_
                        refine aw_imul dX9_shelves_160 ?_
                        refine aw_toe (nI (9 * p)) (nv_mul (rfl) (rfl)) ?_
                        refine aw_iload 2 dX9_shelves_161 rfl ?_
                        refine aw_iadd dX9_shelves_163 ?_
                        refine aw_toe (nI ((9 * p) + la)) (nv_add (rfl) (rfl)) ?_
                        refine aw_iconst (1) dX9_shelves_164 (by decide) ?_
                        refine aw_iadd dX9_shelves_165 ?_
                        refine aw_toe (nI (((9 * p) + la) + 1)) (nv_add (rfl) (rfl)) ?_
                        refine aw_iload 1 dX9_shelves_166 rfl ?_
                        refine aw_iast (((9 * p) + la) + 1) (rfl) (by omega) (by decide) dX9_shelves_168 f3401 ?_
                        refine aw_iinc (j := 2) (nI (la + 1)) [(4, .int (nI (la + 1))), (6, .int (nI k)), (5, .int (nI mv)), (3, .int (nI p)), (2, .int (nI (2 ^ sh1 - 1))), (1, .int (nI st)), (0, .ref (G.1 + 88))] dX9_shelves_169 rfl (nv_inc (rfl)) (by decide) rfl ?_
                        refine aw_goto 68 dX9_shelves_172 (by decide) ?_
                        refine aw_lv [(4, .int (nI (la + 1))), (3, .int (nI p)), (2, .int (nI (2 ^ sh1 - 1))), (1, .int (nI st)), (0, .ref (G.1 + 88))] [0, 3, 4, 5, 6] rfl ?_
                        exact ih3404 (la + 1 + 1) (nI (la + 1)) (upd rs2 (((9 * p) + la) + 1) (nI mv)) _ (by omega) (by omega) (Or.inr ⟨la + 1, rfl, rfl⟩) (rs_up (L := la + 1) hR2 hsh1 (by omega) (by rw [RS_s hsh1 hp, hm, show k = sh1 by omega])) (gn (by decide) (f3395)) (gn (by decide) (f3396)) (gn (by decide) (f3397)) (gn (by decide) (f3398)) (gn (by decide) (f3399)) (gn (by decide) (f3400)) (gs f3401) (gn (by decide) (f3402)) (rg2_set (k3403) (by decide))
                      · have d98 := mt (nv_le (a := sh1) (b := k) (rfl) (rfl) (by omega) (by omega)).mpr c98
                        refine aw_iload_n 3 dX9_shelves_101 rfl rfl ?_
                        refine aw_iload 0 dX9_shelves_102 rfl ?_
                        refine aw_ishr dX9_shelves_104 ?_
                        refine aw_iconst (1) dX9_shelves_105 (by decide) ?_
                        refine aw_iand dX9_shelves_106 ?_
                        refine aw_toe (if p.testBit k = true then 1 else 0) (nv_bit (rfl) (rfl) (by omega) (by omega)) ?_
                        refine aw_if_ne 147 dX9_shelves_107 (by decide) (fun c107 => ?_) (fun c107 => ?_)
                        · have t107 := ite_1 c107
                          refine aw_iinc (j := 0) (nI (k + 1)) [(6, .int (nI (k + 1))), (5, .int (nI mv)), (4, .int (nI la)), (3, .int (nI p)), (2, .int (nI (2 ^ sh1 - 1))), (1, .int (nI st)), (0, .ref (G.1 + 88))] dX9_shelves_147 rfl (nv_inc (rfl)) (by decide) rfl ?_
                          refine aw_goto 92 dX9_shelves_150 (by decide) ?_
                          refine aw_lv [(6, .int (nI (k + 1))), (5, .int (nI mv)), (4, .int (nI la)), (3, .int (nI p)), (2, .int (nI (2 ^ sh1 - 1))), (1, .int (nI st)), (0, .ref (G.1 + 88))] [0, 1, 2, 3, 4, 5, 6] rfl ?_
                          exact ih3407 (k + 1) (nI mv) mv (by omega) (by omega) (Or.inr ⟨rfl, hex.elim (fun j q => ⟨j, by omega, q.2⟩)⟩) (by simp only [mxF]; rw [if_pos t107]; exact hm)
                        · have t107 := ite_0 c107
                          have bor := or_gt t107
                          have bop := or_ps (k := k) hp (by omega)
                          have b7 := wnF_le (st := st) (so := so) (xx := xx) (yy := yy) (tg := tg1) (sh := sh1) (p := p) (L := la + 1) (nx := k) btr nv hnv
                          have b6 := RS_le (st := st) (so := so) (xx := xx) (yy := yy) (tg := tg1) (sh := sh1) (p := p ||| 2 ^ k) (L := k + 1) btr hnv
                          refine aw_iload 1 dX9_shelves_110 rfl ?_
                          refine aw_aload_n 6 dX9_shelves_112 rfl rfl ?_
                          refine aw_iload_n 5 dX9_shelves_113 rfl rfl ?_
                          refine aw_iload_n 3 dX9_shelves_114 rfl rfl ?_
                          refine aw_iload 2 dX9_shelves_115 rfl ?_
                          refine aw_iload 0 dX9_shelves_117 rfl ?_
                          refine aw_dV [.int (nI st), .int (nI p), .int (nI la), .int (nI k)] [.int (nI mv)] lX9_236 vX9_wins mX9_wins dX9_shelves_119 (bX9_winsL (sp := sp) (fa := fa) (nb := nb) (ns := ns) (nm := nm) (nv := nv) (sh := sh1) (ho := ho) (ow := ow) (sl := sl) (so := so) (xx := xx) (tr := tr) (tg := tg1) (yM := yM) (st := st) (p := p) (nx := k) (la := la) f3395 f3396 f3397 f3398 f3399 f3400 htg1 hsh1 (by omega) bso bxx byy btr hyM (by omega) (by omega) (by omega) (by omega)) f3395 rfl rfl rfl (Nat.le_of_ble_eq_true rfl) (by decide) (by decide) rfl ?_
                          refine aw_aload_n 6 dX9_shelves_122 rfl rfl ?_
                          refine aw_get fX9_113 dX9_shelves_123 f3395 rfl ?_
                          refine aw_bipush (9) dX9_shelves_126 (by decide) ?_
                          refine aw_iload_n 3 dX9_shelves_128 rfl rfl ?_
                          refine aw_iconst (1) dX9_shelves_129 (by decide) ?_
                          refine aw_iload 0 dX9_shelves_130 rfl ?_
                          refine aw_ishl dX9_shelves_132 ?_
                          refine aw_toe (nI (2 ^ k)) (nv_shl1 (rfl) (by omega)) ?_
                          refine aw_ior dX9_shelves_133 ?_
                          refine aw_toe (nI (p ||| (2 ^ k))) (nv_or (rfl) (rfl)) ?_
                          refine aw_imul dX9_shelves_134 ?_
                          refine aw_toe (nI (9 * (p ||| (2 ^ k)))) (nv_mul (rfl) (rfl)) ?_
                          refine aw_iload 0 dX9_shelves_135 rfl ?_
                          refine aw_iadd dX9_shelves_137 ?_
                          refine aw_toe (nI ((9 * (p ||| (2 ^ k))) + k)) (nv_add (rfl) (rfl)) ?_
                          refine aw_iconst (1) dX9_shelves_138 (by decide) ?_
                          refine aw_iadd dX9_shelves_139 ?_
                          refine aw_toe (nI (((9 * (p ||| (2 ^ k))) + k) + 1)) (nv_add (rfl) (rfl)) ?_
                          refine aw_iald (((9 * (p ||| (2 ^ k))) + k) + 1) (rfl) (by omega) (by decide) dX9_shelves_140 f3401 ?_
                          refine aw_toe (nI (RS st so xx yy tr tg1 sh1 nv (p ||| 2 ^ k) (k + 1))) (hR2 _ (k + 1) (by omega) (by omega)) ?_
                          refine aw_iadd dX9_shelves_141 ?_
                          refine aw_toe (nI ((wnF st so xx yy tr tg1 sh1 p (la + 1) k nv) + (RS st so xx yy tr tg1 sh1 nv (p ||| 2 ^ k) (k + 1)))) (nv_add (rfl) (rfl)) ?_
                          refine aw_mmax lX9_162 dX9_shelves_142 (Nat.le_of_ble_eq_true rfl) (by decide) (by decide) ?_
                          refine aw_toe (nI (max mv ((wnF st so xx yy tr tg1 sh1 p (la + 1) k nv) + (RS st so xx yy tr tg1 sh1 nv (p ||| 2 ^ k) (k + 1))))) (nv_max (rfl) (rfl) (by omega) (by omega)) ?_
                          refine aw_istore [(5, .int (nI (max mv ((wnF st so xx yy tr tg1 sh1 p (la + 1) k nv) + (RS st so xx yy tr tg1 sh1 nv (p ||| 2 ^ k) (k + 1)))))), (6, .int (nI k)), (4, .int (nI la)), (3, .int (nI p)), (2, .int (nI (2 ^ sh1 - 1))), (1, .int (nI st)), (0, .ref (G.1 + 88))] dX9_shelves_145 (by decide) rfl ?_
                          refine aw_iinc (j := 1) (nI (k + 1)) [(6, .int (nI (k + 1))), (5, .int (nI (max mv ((wnF st so xx yy tr tg1 sh1 p (la + 1) k nv) + (RS st so xx yy tr tg1 sh1 nv (p ||| 2 ^ k) (k + 1)))))), (4, .int (nI la)), (3, .int (nI p)), (2, .int (nI (2 ^ sh1 - 1))), (1, .int (nI st)), (0, .ref (G.1 + 88))] dX9_shelves_147 rfl (nv_inc (rfl)) (by decide) rfl ?_
                          refine aw_goto 92 dX9_shelves_150 (by decide) ?_
                          refine aw_lv [(6, .int (nI (k + 1))), (5, .int (nI (max mv ((wnF st so xx yy tr tg1 sh1 p (la + 1) k nv) + (RS st so xx yy tr tg1 sh1 nv (p ||| 2 ^ k) (k + 1)))))), (4, .int (nI la)), (3, .int (nI p)), (2, .int (nI (2 ^ sh1 - 1))), (1, .int (nI st)), (0, .ref (G.1 + 88))] [0, 1, 2, 3, 4, 5, 6] rfl ?_
                          exact ih3407 (k + 1) (nI (max mv ((wnF st so xx yy tr tg1 sh1 p (la + 1) k nv) + (RS st so xx yy tr tg1 sh1 nv (p ||| 2 ^ k) (k + 1))))) (max mv ((wnF st so xx yy tr tg1 sh1 p (la + 1) k nv) + (RS st so xx yy tr tg1 sh1 nv (p ||| 2 ^ k) (k + 1)))) (by omega) (by omega) (Or.inr ⟨rfl, k, by omega, t107⟩) (by simp only [mxF]; rw [if_neg t107, ← hm]; rfl)
                · have d79 := (nv_eq (a := p) (b := 2 ^ sh1 - 1) (rfl) (rfl) (by omega) (by omega)).mp c79
                  refine aw_iconst (0) dX9_shelves_82 (by decide) ?_
                  refine aw_goto 87 dX9_shelves_83 (by decide) ?_
                  refine aw_istore [(5, .int 0), (4, .int (nI la)), (3, .int (nI p)), (2, .int (nI (2 ^ sh1 - 1))), (1, .int (nI st)), (0, .ref (G.1 + 88))] dX9_shelves_87 (by decide) rfl ?_
                  refine aw_iconst (0) dX9_shelves_89 (by decide) ?_
                  refine aw_istore [(6, .int 0), (5, .int 0), (4, .int (nI la)), (3, .int (nI p)), (2, .int (nI (2 ^ sh1 - 1))), (1, .int (nI st)), (0, .ref (G.1 + 88))] dX9_shelves_90 (by decide) rfl ?_
                  refine aw_lv [(6, .int 0), (5, .int 0), (4, .int (nI la)), (3, .int (nI p)), (2, .int (nI (2 ^ sh1 - 1))), (1, .int (nI st)), (0, .ref (G.1 + 88))] [0, 1, 2, 3, 4, 5, 6] rfl ?_
                  suffices L3408 : ∀ (mm : Nat) (k : Nat), sh1 - k < mm → (k ≤ sh1) → AW l G yX9_shelves cX9_shelves 7 (some .int) (xR 2 0 0) (fun _ _ => True) QF 0 0 92 [(6, .int (nI k)), (5, .int 0), (4, .int (nI la)), (3, .int (nI p)), (2, .int (nI (2 ^ sh1 - 1))), (1, .int (nI st)), (0, .ref (G.1 + 88))] [] h3394 from L3408 (sh1 - 0 + 1) 0 (Nat.lt_succ_self _) (Nat.zero_le _)
                  intro mm
                  induction mm with
                  | zero =>
                    intro k hmm hk
                    exact absurd hmm (Nat.not_lt_zero _)
                  | succ mm ih3408 =>
                    intro k hmm hk
                    refine aw_iload 0 dX9_shelves_92 rfl ?_
                    refine aw_aload_n 6 dX9_shelves_94 rfl rfl ?_
                    refine aw_get fX9_233 dX9_shelves_95 f3395 rfl ?_
                    refine aw_icmp_ge 153 dX9_shelves_98 (by decide) (fun c98 => ?_) (fun c98 => ?_)
                    · have d98 := (nv_le (a := sh1) (b := k) (rfl) (rfl) (by omega) (by omega)).mp c98
                      refine aw_aload_n 6 dX9_shelves_153 rfl rfl ?_
                      refine aw_get fX9_113 dX9_shelves_154 f3395 rfl ?_
                      refine aw_bipush (9) dX9_shelves_157 (by decide) ?_
                      refine aw_iload_n 3 dX9_shelves_159 rfl rfl ?_
                      refine aw_imul dX9_shelves_160 ?_
                      refine aw_toe (nI (9 * p)) (nv_mul (rfl) (rfl)) ?_
                      refine aw_iload 2 dX9_shelves_161 rfl ?_
                      refine aw_iadd dX9_shelves_163 ?_
                      refine aw_toe (nI ((9 * p) + la)) (nv_add (rfl) (rfl)) ?_
                      refine aw_iconst (1) dX9_shelves_164 (by decide) ?_
                      refine aw_iadd dX9_shelves_165 ?_
                      refine aw_toe (nI (((9 * p) + la) + 1)) (nv_add (rfl) (rfl)) ?_
                      refine aw_iload 1 dX9_shelves_166 rfl ?_
                      refine aw_iast (((9 * p) + la) + 1) (rfl) (by omega) (by decide) dX9_shelves_168 f3401 ?_
                      refine aw_iinc (j := 2) (nI (la + 1)) [(4, .int (nI (la + 1))), (6, .int (nI k)), (5, .int 0), (3, .int (nI p)), (2, .int (nI (2 ^ sh1 - 1))), (1, .int (nI st)), (0, .ref (G.1 + 88))] dX9_shelves_169 rfl (nv_inc (rfl)) (by decide) rfl ?_
                      refine aw_goto 68 dX9_shelves_172 (by decide) ?_
                      refine aw_lv [(4, .int (nI (la + 1))), (3, .int (nI p)), (2, .int (nI (2 ^ sh1 - 1))), (1, .int (nI st)), (0, .ref (G.1 + 88))] [0, 3, 4, 5, 6] rfl ?_
                      exact ih3404 (la + 1 + 1) (nI (la + 1)) (upd rs2 (((9 * p) + la) + 1) 0) _ (by omega) (by omega) (Or.inr ⟨la + 1, rfl, rfl⟩) (rs_up (L := la + 1) hR2 hsh1 (by omega) (by rw [show (RS st so xx yy tr tg1 sh1 nv p (la + 1)) = 0 from rsF_all d79]; rfl)) (gn (by decide) (f3395)) (gn (by decide) (f3396)) (gn (by decide) (f3397)) (gn (by decide) (f3398)) (gn (by decide) (f3399)) (gn (by decide) (f3400)) (gs f3401) (gn (by decide) (f3402)) (rg2_set (k3403) (by decide))
                    · have d98 := mt (nv_le (a := sh1) (b := k) (rfl) (rfl) (by omega) (by omega)).mpr c98
                      refine aw_iload_n 3 dX9_shelves_101 rfl rfl ?_
                      refine aw_iload 0 dX9_shelves_102 rfl ?_
                      refine aw_ishr dX9_shelves_104 ?_
                      refine aw_iconst (1) dX9_shelves_105 (by decide) ?_
                      refine aw_iand dX9_shelves_106 ?_
                      refine aw_toe (if p.testBit k = true then 1 else 0) (nv_bit (rfl) (rfl) (by omega) (by omega)) ?_
                      refine aw_if_ne 147 dX9_shelves_107 (by decide) (fun c107 => ?_) (fun c107 => ?_)
                      · have t107 := ite_1 c107
                        refine aw_iinc (j := 0) (nI (k + 1)) [(6, .int (nI (k + 1))), (5, .int 0), (4, .int (nI la)), (3, .int (nI p)), (2, .int (nI (2 ^ sh1 - 1))), (1, .int (nI st)), (0, .ref (G.1 + 88))] dX9_shelves_147 rfl (nv_inc (rfl)) (by decide) rfl ?_
                        refine aw_goto 92 dX9_shelves_150 (by decide) ?_
                        refine aw_lv [(6, .int (nI (k + 1))), (5, .int 0), (4, .int (nI la)), (3, .int (nI p)), (2, .int (nI (2 ^ sh1 - 1))), (1, .int (nI st)), (0, .ref (G.1 + 88))] [0, 1, 2, 3, 4, 5, 6] rfl ?_
                        exact ih3408 (k + 1) (by omega) (by omega)
                      · have t107 := ite_0 c107
                        exact absurd (allbit d79 (by omega)) t107
    · have d10 := mt (nv_le (a := 12) (b := t) (rfl) (rfl) (by omega) (by omega)).mpr c10
      refine aw_iload_n 1 dX9_shelves_13 rfl rfl ?_
      refine aw_iload_n 0 dX9_shelves_14 rfl rfl ?_
      refine aw_ishr dX9_shelves_15 ?_
      refine aw_iconst (1) dX9_shelves_16 (by decide) ?_
      refine aw_iand dX9_shelves_17 ?_
      refine aw_toe (if st.testBit t = true then 1 else 0) (nv_bit (rfl) (rfl) (by omega) (by omega)) ?_
      refine aw_if_ne 24 dX9_shelves_18 (by decide) (fun c18 => ?_) (fun c18 => ?_)
      · have t18 := ite_1 c18
        have hl := thL_lt (s := st) t18 (by omega)
        have hl2 := rdF_len (st := st) (tg := tg) t
        rw [← hT] at hl2
        dsimp only at hl2
        rw [← popL] at hl
        refine aw_aload_n 2 dX9_shelves_24 rfl rfl ?_
        refine aw_get fX9_110 dX9_shelves_25 f3358 rfl ?_
        refine aw_aload_n 2 dX9_shelves_28 rfl rfl ?_
        refine aw_get fX9_233 dX9_shelves_29 f3358 rfl ?_
        refine aw_iload_n 0 dX9_shelves_32 rfl rfl ?_
        refine aw_iast sh1 (rfl) (by omega) (by decide) dX9_shelves_33 f3363 ?_
        rw [nA_u (f := tg1) (i := sh1) (x := (nI t)) (v := t) (rfl)]
        refine aw_aload_n 2 dX9_shelves_34 rfl rfl ?_
        refine aw_dup dX9_shelves_35 rfl ?_
        refine aw_get fX9_233 dX9_shelves_36 (gn (by decide) (f3358)) rfl ?_
        refine aw_iconst (1) dX9_shelves_39 (by decide) ?_
        refine aw_iadd dX9_shelves_40 ?_
        refine aw_toe (nI (sh1 + 1)) (nv_add (rfl) (rfl)) ?_
        refine aw_putQ fX9_233 dX9_shelves_41 (lM G (nI sp) (nI fa) (nI nb) (nI ns) (nI nm) ho ow sl (nI nv) (nI (sh1 + 1))) (gn (by decide) (f3358)) rfl rfl rfl (Nat.le_of_ble_eq_true rfl) rfl ?_
        refine aw_iinc (j := 0) (nI (t + 1)) [(2, .int (nI (t + 1))), (1, .int (nI st)), (0, .ref (G.1 + 88))] dX9_shelves_44 rfl (nv_inc (rfl)) (by decide) rfl ?_
        refine aw_goto 7 dX9_shelves_47 (by decide) ?_
        refine aw_lv [(2, .int (nI (t + 1))), (1, .int (nI st)), (0, .ref (G.1 + 88))] [0, 1, 2] rfl ?_
        exact ih3367 (t + 1) (sh1 + 1) (un tg1 sh1 t) _ (by omega) (by omega) (by simp only [rdF]; rw [if_pos (show st.testBit t = true from t18), ← hT]) (gs (gn (by decide) (f3358))) (gn (by decide) (gn (by decide) (f3359))) (gn (by decide) (gn (by decide) (f3360))) (gn (by decide) (gn (by decide) (f3361))) (gn (by decide) (gn (by decide) (f3362))) (gn (by decide) (gs f3363)) (gn (by decide) (gn (by decide) (f3364))) (gn (by decide) (gn (by decide) (f3365))) (rg2_set (rg2_set (k3366) (by decide)) (by decide))
      · have t18 := ite_0 c18
        refine aw_goto 44 dX9_shelves_21 (by decide) ?_
        refine aw_iinc (j := 0) (nI (t + 1)) [(2, .int (nI (t + 1))), (1, .int (nI st)), (0, .ref (G.1 + 88))] dX9_shelves_44 rfl (nv_inc (rfl)) (by decide) rfl ?_
        refine aw_goto 7 dX9_shelves_47 (by decide) ?_
        refine aw_lv [(2, .int (nI (t + 1))), (1, .int (nI st)), (0, .ref (G.1 + 88))] [0, 1, 2] rfl ?_
        exact ih3367 (t + 1) sh1 tg1 _ (by omega) (by omega) (by simp only [rdF]; rw [if_neg (show ¬ st.testBit t = true from t18)]; exact hT) f3358 f3359 f3360 f3361 f3362 f3363 f3364 f3365 (k3366)
/-- the trust of the visitors' words of a shelf -/
def toB (st : Nat) (so xx yy : Nat → Nat) (k : Nat) : Bool := decide (st.testBit (xx k) = true ∧ (2 ≤ so k ∨ st.testBit (yy k) = true))
def toF (st : Nat) (so xx yy tr : Nat → Nat) : Nat → Nat
  | 0 => 0
  | k + 1 => toF st so xx yy tr k + (if toB st so xx yy k = true then tr k else 0)
theorem toF_le {st : Nat} {so xx yy tr : Nat → Nat} (ht : ∀ j, j < 40 → tr j ≤ 9) : ∀ k, k ≤ 40 → toF st so xx yy tr k ≤ 9 * k := by
  intro k
  induction k with
  | zero => intro _; exact Nat.le_refl _
  | succ k ih =>
    intro h
    have a := ih (by omega)
    have b := ht k (by omega)
    simp only [toF]
    split <;> omega
theorem toF_y {st : Nat} {so xx yy tr : Nat → Nat} {k w : Nat} (hw : w = toF st so xx yy tr k) (h : st.testBit (xx k) = true ∧ (2 ≤ so k ∨ st.testBit (yy k) = true)) : w + tr k = toF st so xx yy tr (k + 1) := by
  simp only [toF]; rw [if_pos (by unfold toB; exact decide_eq_true h), hw]
theorem toF_n {st : Nat} {so xx yy tr : Nat → Nat} {k w : Nat} (hw : w = toF st so xx yy tr k) (h : ¬ (st.testBit (xx k) = true ∧ (2 ≤ so k ∨ st.testBit (yy k) = true))) : w = toF st so xx yy tr (k + 1) := by
  simp only [toF]; rw [if_neg (by unfold toB; exact fun q => h (of_decide_eq_true q)), hw]; omega
/-- is a beast a fake, as the reference looks -/
def fkI (kd fo : Nat → Nat) (b p : Nat) : Nat → Bool
  | 0 => false
  | q + 1 => fkI kd fo b p q || decide (b.testBit p = true ∧ b.testBit q = true ∧ (fo (kd p)).testBit (kd q) = true)
def fkO (kd fo : Nat → Nat) (b : Nat) : Nat → Bool
  | 0 => false
  | p + 1 => fkO kd fo b p || fkI kd fo b p p
theorem fkI_t {kd fo : Nat → Nat} {b p q : Nat} (h : (fkO kd fo b p || fkI kd fo b p q) = true ∨ (b.testBit p = true ∧ b.testBit q = true ∧ (fo (kd p)).testBit (kd q) = true)) : (1 : Int32) = if (fkO kd fo b p || fkI kd fo b p (q + 1)) = true then 1 else 0 := by
  rw [if_pos]
  simp only [fkI, Bool.or_eq_true, decide_eq_true_eq] at *
  rcases h with (h | h) | h
  · exact Or.inl h
  · exact Or.inr (Or.inl h)
  · exact Or.inr (Or.inr h)
theorem fkI_f {kd fo : Nat → Nat} {b p q : Nat} (h : ¬ (fkO kd fo b p || fkI kd fo b p q) = true) (h2 : ¬ (b.testBit p = true ∧ b.testBit q = true ∧ (fo (kd p)).testBit (kd q) = true)) : (0 : Int32) = if (fkO kd fo b p || fkI kd fo b p (q + 1)) = true then 1 else 0 := by
  rw [if_neg]
  simp only [fkI, Bool.or_eq_true, decide_eq_true_eq] at *
  rintro (q1 | q1 | q1)
  · exact h (Or.inl q1)
  · exact h (Or.inr q1)
  · exact h2 q1
/-- the least set without which a beast is no fake, as the reference looks -/
def lmF (kd fo : Nat → Nat) (b : Nat) : Nat → Nat
  | 0 => b
  | s + 1 => if s &&& (1023 ^^^ b) = 0 ∧ pcF 20 s < pcF 20 (lmF kd fo b s) ∧ ¬ fkO kd fo (b &&& (1023 ^^^ s)) 10 = true then s else lmF kd fo b s
theorem lmF_lt {kd fo : Nat → Nat} {b : Nat} (hb : b < 1024) : ∀ s, s ≤ 1024 → lmF kd fo b s < 1024 := by
  intro s
  induction s with
  | zero => intro _; exact hb
  | succ s ih =>
    intro h
    simp only [lmF]
    split
    · omega
    · exact ih (by omega)
set_option maxHeartbeats 4000000 in
theorem oX9_shelf {l : Launch} {G : xG} {h : List va_E} {sp fa nb ns nm nv sh : Nat} {ho ow sl : Int32} {rg : Nat → Int32} {so xx yy tr tg : Nat → Nat} {yM rs rw : Nat → Int32} {w : Int32} (h88 : h[88]? = some (oB 9 (lM G (nI sp) (nI fa) (nI nb) (nI ns) (nI nm) ho ow sl (nI nv) (nI sh)))) (h89 : h[89]? = some (aI 7 rg)) (h116 : h[116]? = some (aI 40 (nA so))) (h117 : h[117]? = some (aI 40 (nA xx))) (h118 : h[118]? = some (aI 40 yM)) (h119 : h[119]? = some (aI 40 (nA tr))) (h120 : h[120]? = some (aI 8 (nA tg))) (h121 : h[121]? = some (aI 2304 rs)) (h122 : h[122]? = some (aI 8 rw)) (htg : ∀ j, j < 8 → tg j < 12) (hsh : sh ≤ 8) (hnv : nv ≤ 40) (bso : ∀ j, j < 40 → so j < 4) (bxx : ∀ j, j < 40 → xx j < 12) (byy : ∀ j, j < 40 → yy j < 12) (btr : ∀ j, j < 40 → tr j ≤ 9) (hyM : ∀ j, j < nv → so j < 2 → yM j = nI (yy j)) : CE l G yX9_shelf cX9_shelf 3 (some .int) 3 0 0 [.ref (G.1 + 88), .int w] h (some (.int (if shR w = 0 then (nI (RS (tn w) so xx yy tr (rdF (tn w) tg 12).2 (rdF (tn w) tg 12).1 nv 0 0)) else shR w))) (fun h1 => ∃ sh1 : Nat, ∃ tg1 : Nat → Nat, ∃ rs1 : Nat → Int32, ∃ rw1 : Nat → Int32, ∃ rg1 : Nat → Int32, h1[88]? = some (oB 9 (lM G (nI sp) (nI fa) (nI nb) (nI ns) (nI nm) ho ow sl (nI nv) (nI sh1))) ∧ h1[120]? = some (aI 8 (nA tg1)) ∧ h1[121]? = some (aI 2304 rs1) ∧ h1[122]? = some (aI 8 rw1) ∧ h1[89]? = some (aI 7 rg1) ∧ rg2 88 89 120 122 h h1 ∧ (∀ j, j < 8 → tg1 j < 12) ∧ sh1 ≤ 8) := by
  refine cm_ofQ rfl (Nat.le_of_ble_eq_true rfl) [(0, .ref (G.1 + 88)), (1, .int w)] rfl (fun QF hQF => ?_)
  refine aw_aload_n 0 dX9_shelf_0 rfl rfl ?_
  refine aw_iload_n 1 dX9_shelf_1 rfl rfl ?_
  refine aw_dV [.int w] [] lX9_239 vX9_wrongShelf mX9_wrongShelf dX9_shelf_2 (bX9_wrongShelf (x := w) ) h88 rfl rfl rfl (Nat.le_of_ble_eq_true rfl) (by decide) (by decide) rfl ?_
  refine aw_istore_n [(2, .int (shR w)), (0, .ref (G.1 + 88)), (1, .int w)] dX9_shelf_5 rfl (by decide) rfl ?_
  refine aw_iload_n 0 dX9_shelf_6 rfl rfl ?_
  refine aw_if_eq 18 dX9_shelf_7 (by decide) (fun c7 => ?_) (fun c7 => ?_)
  · have d7 := (j_eq (a := (shR w).toInt) (b := (0)) (rfl) (rfl)).mp c7
    have hdd := shR_0 c7
    obtain ⟨w0, bb_w0, ee_w0⟩ := i_nat (x := w) (N := 4096) (by omega) (by omega)
    subst ee_w0
    have tt_w0 : (nI w0).toInt = (w0 : Int) := nI_toInt (by omega)
    have nn_w0 : tn (nI w0) = w0 := tn_nI (by omega)
    rw [nn_w0] at hdd
    refine aw_aload_n 1 dX9_shelf_18 rfl rfl ?_
    refine aw_iload_n 2 dX9_shelf_19 rfl rfl ?_
    refine aw_eV [.int (nI w0)] [] lX9_242 vX9_shelves mX9_shelves dX9_shelf_20 (bX9_shelves (sp := sp) (fa := fa) (nb := nb) (ns := ns) (nm := nm) (nv := nv) (sh := sh) (ho := ho) (ow := ow) (sl := sl) (so := so) (xx := xx) (tr := tr) (tg := tg) (yM := yM) (rs := rs) (rw := rw) (st := w0) h88 h116 h117 h118 h119 h120 h121 h122 htg (by omega) (by omega) bso bxx byy btr hyM (by omega) (by omega)) h88 rfl rfl rfl (Nat.le_of_ble_eq_true rfl) (by decide) (by decide) rfl (fun h3414 q3413 => ?_)
    obtain ⟨sh13409, tg13410, rs13411, rw13412, f3415, f3416, f3417, f3418, k3419, p3420, p3421⟩ := q3413
    have f3422 := rg2_at k3419 (by decide) h89
    have f3423 := rg2_at k3419 (by decide) h116
    have f3424 := rg2_at k3419 (by decide) h117
    have f3425 := rg2_at k3419 (by decide) h118
    have f3426 := rg2_at k3419 (by decide) h119
    have hb1 := rdF_b (st := w0) htg 12 (Nat.le_refl _)
    rw [← p3420] at hb1
    dsimp only at hb1
    have hs1 := rdF_len (st := w0) (tg := tg) 12
    rw [← p3420] at hs1
    dsimp only at hs1
    rw [← popL] at hs1
    replace hs1 : sh13409 ≤ 8 := by omega
    subst hQF
    exact aw_iret rfl dX9_shelf_23 (by decide) (by decide) ⟨by rw [if_pos c7, nn_w0], _, _, _, _, _, f3415, f3416, f3417, f3418, f3422, rg2_tr (rg2_rf 88 89 120 122 h) (rg2_w2 k3419 (by decide) (by decide)), hb1, hs1⟩
  · have d7 := mt (j_eq (a := (shR w).toInt) (b := (0)) (rfl) (rfl)).mpr c7
    refine aw_aload_n 1 dX9_shelf_10 rfl rfl ?_
    refine aw_iload_n 0 dX9_shelf_11 rfl rfl ?_
    obtain ⟨q3427, bq3427, eq3427⟩ := Or.resolve_left (shR_q w) (by assumption)
    refine aw_eV [.int (shR w)] [] lX9_130 vX9_refuse mX9_refuse dX9_shelf_12 (bX9_refuse (sp := sp) (fa := fa) (nb := nb) (ns := ns) (nm := nm) (nv := nv) (sh := sh) (ho := ho) (ow := ow) (sl := sl) (rg := rg) (x := (shR w)) (q := q3427) h88 h89 bq3427 eq3427) h88 rfl rfl rfl (Nat.le_of_ble_eq_true rfl) (by decide) (by decide) rfl (fun h3430 q3429 => ?_)
    obtain ⟨rg13428, f3431, k3432⟩ := q3429
    have f3433 := rng_at k3432 (by decide) h88
    have f3434 := rng_at k3432 (by decide) h116
    have f3435 := rng_at k3432 (by decide) h117
    have f3436 := rng_at k3432 (by decide) h118
    have f3437 := rng_at k3432 (by decide) h119
    have f3438 := rng_at k3432 (by decide) h120
    have f3439 := rng_at k3432 (by decide) h121
    have f3440 := rng_at k3432 (by decide) h122
    refine aw_goto 23 dX9_shelf_15 (by decide) ?_
    subst hQF
    exact aw_iret rfl dX9_shelf_23 (by decide) (by decide) ⟨by rw [if_neg c7], _, _, _, _, _, f3433, f3438, f3439, f3440, f3431, rg2_tr (rg2_rf 88 89 120 122 h) (rg2_w k3432 (by decide)), htg, hsh⟩
set_option maxHeartbeats 4000000 in
theorem oX9_row {l : Launch} {G : xG} {h : List va_E} {sp fa nb ns nm nv sh : Nat} {ho ow sl : Int32} {rg : Nat → Int32} {so xx yy tr tg : Nat → Nat} {yM rs rw : Nat → Int32} {w k : Int32} (h88 : h[88]? = some (oB 9 (lM G (nI sp) (nI fa) (nI nb) (nI ns) (nI nm) ho ow sl (nI nv) (nI sh)))) (h89 : h[89]? = some (aI 7 rg)) (h116 : h[116]? = some (aI 40 (nA so))) (h117 : h[117]? = some (aI 40 (nA xx))) (h118 : h[118]? = some (aI 40 yM)) (h119 : h[119]? = some (aI 40 (nA tr))) (h120 : h[120]? = some (aI 8 (nA tg))) (h121 : h[121]? = some (aI 2304 rs)) (h122 : h[122]? = some (aI 8 rw)) (htg : ∀ j, j < 8 → tg j < 12) (hsh : sh ≤ 8) (hnv : nv ≤ 40) (bso : ∀ j, j < 40 → so j < 4) (bxx : ∀ j, j < 40 → xx j < 12) (byy : ∀ j, j < 40 → yy j < 12) (btr : ∀ j, j < 40 → tr j ≤ 9) (hyM : ∀ j, j < nv → so j < 2 → yM j = nI (yy j)) : CE l G yX9_row cX9_row 5 (some .int) 3 0 0 [.ref (G.1 + 88), .int w, .int k] h (some (.int (if shR w = 0 then (if (0 ≤ k.toInt ∧ k.toInt < ((rdF (tn w) tg 12).1 : Int)) then ((rwF (tn w) so xx yy tr (rdF (tn w) tg 12).2 (rdF (tn w) tg 12).1 nv rw (rdF (tn w) tg 12).1).2.2 (tn k)) else -9) else shR w))) (fun h1 => ∃ sh1 : Nat, ∃ tg1 : Nat → Nat, ∃ rs1 : Nat → Int32, ∃ rw1 : Nat → Int32, ∃ rg1 : Nat → Int32, h1[88]? = some (oB 9 (lM G (nI sp) (nI fa) (nI nb) (nI ns) (nI nm) ho ow sl (nI nv) (nI sh1))) ∧ h1[120]? = some (aI 8 (nA tg1)) ∧ h1[121]? = some (aI 2304 rs1) ∧ h1[122]? = some (aI 8 rw1) ∧ h1[89]? = some (aI 7 rg1) ∧ rg2 88 89 120 122 h h1 ∧ (∀ j, j < 8 → tg1 j < 12) ∧ sh1 ≤ 8) := by
  refine cm_ofQ rfl (Nat.le_of_ble_eq_true rfl) [(0, .ref (G.1 + 88)), (1, .int w), (2, .int k)] rfl (fun QF hQF => ?_)
  refine aw_aload_n 0 dX9_row_0 rfl rfl ?_
  refine aw_iload_n 1 dX9_row_1 rfl rfl ?_
  refine aw_dV [.int w] [] lX9_239 vX9_wrongShelf mX9_wrongShelf dX9_row_2 (bX9_wrongShelf (x := w) ) h88 rfl rfl rfl (Nat.le_of_ble_eq_true rfl) (by decide) (by decide) rfl ?_
  refine aw_istore_n [(3, .int (shR w)), (0, .ref (G.1 + 88)), (1, .int w), (2, .int k)] dX9_row_5 rfl (by decide) rfl ?_
  refine aw_iload_n 0 dX9_row_6 rfl rfl ?_
  refine aw_if_eq 16 dX9_row_7 (by decide) (fun c7 => ?_) (fun c7 => ?_)
  · have d7 := (j_eq (a := (shR w).toInt) (b := (0)) (rfl) (rfl)).mp c7
    have hdd := shR_0 c7
    obtain ⟨w0, bb_w0, ee_w0⟩ := i_nat (x := w) (N := 4096) (by omega) (by omega)
    subst ee_w0
    have tt_w0 : (nI w0).toInt = (w0 : Int) := nI_toInt (by omega)
    have nn_w0 : tn (nI w0) = w0 := tn_nI (by omega)
    rw [nn_w0] at hdd
    refine aw_aload_n 1 dX9_row_16 rfl rfl ?_
    refine aw_iload_n 2 dX9_row_17 rfl rfl ?_
    refine aw_eV [.int (nI w0)] [] lX9_242 vX9_shelves mX9_shelves dX9_row_18 (bX9_shelves (sp := sp) (fa := fa) (nb := nb) (ns := ns) (nm := nm) (nv := nv) (sh := sh) (ho := ho) (ow := ow) (sl := sl) (so := so) (xx := xx) (tr := tr) (tg := tg) (yM := yM) (rs := rs) (rw := rw) (st := w0) h88 h116 h117 h118 h119 h120 h121 h122 htg (by omega) (by omega) bso bxx byy btr hyM (by omega) (by omega)) h88 rfl rfl rfl (Nat.le_of_ble_eq_true rfl) (by decide) (by decide) rfl (fun h3446 q3445 => ?_)
    obtain ⟨sh13441, tg13442, rs13443, rw13444, f3447, f3448, f3449, f3450, k3451, p3452, p3453⟩ := q3445
    have f3454 := rg2_at k3451 (by decide) h89
    have f3455 := rg2_at k3451 (by decide) h116
    have f3456 := rg2_at k3451 (by decide) h117
    have f3457 := rg2_at k3451 (by decide) h118
    have f3458 := rg2_at k3451 (by decide) h119
    have hb1 := rdF_b (st := w0) htg 12 (Nat.le_refl _)
    rw [← p3452] at hb1
    dsimp only at hb1
    have hs1 := rdF_len (st := w0) (tg := tg) 12
    rw [← p3452] at hs1
    dsimp only at hs1
    rw [← popL] at hs1
    replace hs1 : sh13441 ≤ 8 := by omega
    refine aw_istore [(4, .int (nI (RS w0 so xx yy tr (rdF w0 tg 12).2 (rdF w0 tg 12).1 nv 0 0))), (3, .int (shR (nI w0))), (0, .ref (G.1 + 88)), (1, .int (nI w0)), (2, .int k)] dX9_row_21 (by decide) rfl ?_
    refine aw_iload_n 4 dX9_row_23 rfl rfl ?_
    refine aw_aload_n 2 dX9_row_24 rfl rfl ?_
    refine aw_get fX9_233 dX9_row_25 f3447 rfl ?_
    refine aw_dS [.int k, .int (nI sh13441)] [] lX9_126 sX9_isIn mX9_isIn dX9_row_28 (bX9_isIn (x := k) (n := sh13441) (by omega)) rfl (Nat.le_of_ble_eq_true rfl) (by decide) (by decide) rfl ?_
    refine aw_if_eq 43 dX9_row_31 (by decide) (fun c31 => ?_) (fun c31 => ?_)
    · have t31 := ite_0 c31
      refine aw_bipush (-9) dX9_row_43 (by decide) ?_
      subst hQF
      exact aw_iret rfl dX9_row_45 (by decide) (by decide) ⟨by rw [if_pos c7, nn_w0, ← p3452]; dsimp only; rw [if_neg (by omega)], _, _, _, _, _, f3447, f3448, f3449, f3450, f3454, rg2_tr (rg2_rf 88 89 120 122 h) (rg2_w2 k3451 (by decide) (by decide)), hb1, hs1⟩
    · have t31 := ite_1 c31
      obtain ⟨k0, bb_k0, ee_k0⟩ := i_nat (x := k) (N := 8) (by omega) (by omega)
      subst ee_k0
      have tt_k0 : (nI k0).toInt = (k0 : Int) := nI_toInt (by omega)
      have nn_k0 : tn (nI k0) = k0 := tn_nI (by omega)
      refine aw_aload_n 2 dX9_row_34 rfl rfl ?_
      refine aw_get fX9_116 dX9_row_35 f3447 rfl ?_
      refine aw_iload_n 4 dX9_row_38 rfl rfl ?_
      refine aw_iald k0 (rfl) (by omega) (by decide) dX9_row_39 f3450 ?_
      refine aw_goto 45 dX9_row_40 (by decide) ?_
      subst hQF
      exact aw_iret rfl dX9_row_45 (by decide) (by decide) ⟨by rw [if_pos c7, nn_w0, ← p3452]; dsimp only; rw [if_pos (by omega), nn_k0, ← p3453], _, _, _, _, _, f3447, f3448, f3449, f3450, f3454, rg2_tr (rg2_rf 88 89 120 122 h) (rg2_w2 k3451 (by decide) (by decide)), hb1, hs1⟩
  · have d7 := mt (j_eq (a := (shR w).toInt) (b := (0)) (rfl) (rfl)).mpr c7
    refine aw_aload_n 1 dX9_row_10 rfl rfl ?_
    refine aw_iload_n 0 dX9_row_11 rfl rfl ?_
    obtain ⟨q3459, bq3459, eq3459⟩ := Or.resolve_left (shR_q w) (by assumption)
    refine aw_eV [.int (shR w)] [] lX9_130 vX9_refuse mX9_refuse dX9_row_12 (bX9_refuse (sp := sp) (fa := fa) (nb := nb) (ns := ns) (nm := nm) (nv := nv) (sh := sh) (ho := ho) (ow := ow) (sl := sl) (rg := rg) (x := (shR w)) (q := q3459) h88 h89 bq3459 eq3459) h88 rfl rfl rfl (Nat.le_of_ble_eq_true rfl) (by decide) (by decide) rfl (fun h3462 q3461 => ?_)
    obtain ⟨rg13460, f3463, k3464⟩ := q3461
    have f3465 := rng_at k3464 (by decide) h88
    have f3466 := rng_at k3464 (by decide) h116
    have f3467 := rng_at k3464 (by decide) h117
    have f3468 := rng_at k3464 (by decide) h118
    have f3469 := rng_at k3464 (by decide) h119
    have f3470 := rng_at k3464 (by decide) h120
    have f3471 := rng_at k3464 (by decide) h121
    have f3472 := rng_at k3464 (by decide) h122
    subst hQF
    exact aw_iret rfl dX9_row_15 (by decide) (by decide) ⟨by rw [if_neg c7], _, _, _, _, _, f3465, f3470, f3471, f3472, f3463, rg2_tr (rg2_rf 88 89 120 122 h) (rg2_w k3464 (by decide)), htg, hsh⟩
set_option maxHeartbeats 4000000 in
theorem oX9_quarrel {l : Launch} {G : xG} {h : List va_E} {sp fa nb ns nm nv sh : Nat} {ho ow sl : Int32} {rg : Nat → Int32} {so xx yy tr tg : Nat → Nat} {yM rs rw : Nat → Int32} {w : Int32} (h88 : h[88]? = some (oB 9 (lM G (nI sp) (nI fa) (nI nb) (nI ns) (nI nm) ho ow sl (nI nv) (nI sh)))) (h89 : h[89]? = some (aI 7 rg)) (h116 : h[116]? = some (aI 40 (nA so))) (h117 : h[117]? = some (aI 40 (nA xx))) (h118 : h[118]? = some (aI 40 yM)) (h119 : h[119]? = some (aI 40 (nA tr))) (h120 : h[120]? = some (aI 8 (nA tg))) (h121 : h[121]? = some (aI 2304 rs)) (h122 : h[122]? = some (aI 8 rw)) (htg : ∀ j, j < 8 → tg j < 12) (hsh : sh ≤ 8) (hnv : nv ≤ 40) (bso : ∀ j, j < 40 → so j < 4) (bxx : ∀ j, j < 40 → xx j < 12) (byy : ∀ j, j < 40 → yy j < 12) (btr : ∀ j, j < 40 → tr j ≤ 9) (hyM : ∀ j, j < nv → so j < 2 → yM j = nI (yy j)) : CE l G yX9_quarrel cX9_quarrel 5 (some .int) 3 0 0 [.ref (G.1 + 88), .int w] h (some (.int (if shR w = 0 then nI (toF (tn w) so xx yy tr nv) - (nI (RS (tn w) so xx yy tr (rdF (tn w) tg 12).2 (rdF (tn w) tg 12).1 nv 0 0)) else shR w))) (fun h1 => ∃ sh1 : Nat, ∃ tg1 : Nat → Nat, ∃ rs1 : Nat → Int32, ∃ rw1 : Nat → Int32, ∃ rg1 : Nat → Int32, h1[88]? = some (oB 9 (lM G (nI sp) (nI fa) (nI nb) (nI ns) (nI nm) ho ow sl (nI nv) (nI sh1))) ∧ h1[120]? = some (aI 8 (nA tg1)) ∧ h1[121]? = some (aI 2304 rs1) ∧ h1[122]? = some (aI 8 rw1) ∧ h1[89]? = some (aI 7 rg1) ∧ rg2 88 89 120 122 h h1 ∧ (∀ j, j < 8 → tg1 j < 12) ∧ sh1 ≤ 8) := by
  refine cm_ofQ rfl (Nat.le_of_ble_eq_true rfl) [(0, .ref (G.1 + 88)), (1, .int w)] rfl (fun QF hQF => ?_)
  refine aw_aload_n 0 dX9_quarrel_0 rfl rfl ?_
  refine aw_iload_n 1 dX9_quarrel_1 rfl rfl ?_
  refine aw_dV [.int w] [] lX9_239 vX9_wrongShelf mX9_wrongShelf dX9_quarrel_2 (bX9_wrongShelf (x := w) ) h88 rfl rfl rfl (Nat.le_of_ble_eq_true rfl) (by decide) (by decide) rfl ?_
  refine aw_istore_n [(2, .int (shR w)), (0, .ref (G.1 + 88)), (1, .int w)] dX9_quarrel_5 rfl (by decide) rfl ?_
  refine aw_iload_n 0 dX9_quarrel_6 rfl rfl ?_
  refine aw_if_eq 16 dX9_quarrel_7 (by decide) (fun c7 => ?_) (fun c7 => ?_)
  · have d7 := (j_eq (a := (shR w).toInt) (b := (0)) (rfl) (rfl)).mp c7
    have hdd := shR_0 c7
    obtain ⟨w0, bb_w0, ee_w0⟩ := i_nat (x := w) (N := 4096) (by omega) (by omega)
    subst ee_w0
    have tt_w0 : (nI w0).toInt = (w0 : Int) := nI_toInt (by omega)
    have nn_w0 : tn (nI w0) = w0 := tn_nI (by omega)
    rw [nn_w0] at hdd
    refine aw_iconst (0) dX9_quarrel_16 (by decide) ?_
    refine aw_istore_n [(3, .int 0), (2, .int (shR (nI w0))), (0, .ref (G.1 + 88)), (1, .int (nI w0))] dX9_quarrel_17 rfl (by decide) rfl ?_
    refine aw_iconst (0) dX9_quarrel_18 (by decide) ?_
    refine aw_istore [(4, .int 0), (3, .int 0), (2, .int (shR (nI w0))), (0, .ref (G.1 + 88)), (1, .int (nI w0))] dX9_quarrel_19 (by decide) rfl ?_
    refine aw_lv [(4, .int 0), (3, .int 0), (1, .int (nI w0)), (0, .ref (G.1 + 88))] [0, 1, 4, 3] rfl ?_
    suffices L3473 : ∀ (mm : Nat) (k : Nat) (wv : Nat), nv - k < mm → (k ≤ nv) → (wv = toF w0 so xx yy tr k) → AW l G yX9_quarrel cX9_quarrel 5 (some .int) (xR 3 0 0) (fun _ _ => True) QF 0 0 21 [(4, .int (nI k)), (3, .int (nI wv)), (1, .int (nI w0)), (0, .ref (G.1 + 88))] [] h from L3473 (nv - 0 + 1) 0 0 (Nat.lt_succ_self _) (Nat.zero_le _) (rfl)
    intro mm
    induction mm with
    | zero =>
      intro k wv hmm hk hw
      exact absurd hmm (Nat.not_lt_zero _)
    | succ mm ih3473 =>
      intro k wv hmm hk hw
      have b9 := toF_le (st := w0) (so := so) (xx := xx) (yy := yy) btr k (by omega)
      refine aw_iload 0 dX9_quarrel_21 rfl ?_
      refine aw_aload_n 3 dX9_quarrel_23 rfl rfl ?_
      refine aw_get fX9_227 dX9_quarrel_24 h88 rfl ?_
      refine aw_icmp_ge 87 dX9_quarrel_27 (by decide) (fun c27 => ?_) (fun c27 => ?_)
      · have d27 := (nv_le (a := nv) (b := k) (rfl) (rfl) (by omega) (by omega)).mp c27
        refine aw_iload_n 1 dX9_quarrel_87 rfl rfl ?_
        refine aw_aload_n 3 dX9_quarrel_88 rfl rfl ?_
        refine aw_iload_n 2 dX9_quarrel_89 rfl rfl ?_
        refine aw_eV [.int (nI w0)] [.int (nI wv)] lX9_242 vX9_shelves mX9_shelves dX9_quarrel_90 (bX9_shelves (sp := sp) (fa := fa) (nb := nb) (ns := ns) (nm := nm) (nv := nv) (sh := sh) (ho := ho) (ow := ow) (sl := sl) (so := so) (xx := xx) (tr := tr) (tg := tg) (yM := yM) (rs := rs) (rw := rw) (st := w0) h88 h116 h117 h118 h119 h120 h121 h122 htg (by omega) (by omega) bso bxx byy btr hyM (by omega) (by omega)) h88 rfl rfl rfl (Nat.le_of_ble_eq_true rfl) (by decide) (by decide) rfl (fun h3479 q3478 => ?_)
        obtain ⟨sh13474, tg13475, rs13476, rw13477, f3480, f3481, f3482, f3483, k3484, p3485, p3486⟩ := q3478
        have f3487 := rg2_at k3484 (by decide) h89
        have f3488 := rg2_at k3484 (by decide) h116
        have f3489 := rg2_at k3484 (by decide) h117
        have f3490 := rg2_at k3484 (by decide) h118
        have f3491 := rg2_at k3484 (by decide) h119
        have hb1 := rdF_b (st := w0) htg 12 (Nat.le_refl _)
        rw [← p3485] at hb1
        dsimp only at hb1
        have hs1 := rdF_len (st := w0) (tg := tg) 12
        rw [← p3485] at hs1
        dsimp only at hs1
        rw [← popL] at hs1
        replace hs1 : sh13474 ≤ 8 := by omega
        refine aw_isub dX9_quarrel_93 ?_
        subst hQF
        exact aw_iret rfl dX9_quarrel_94 (by decide) (by decide) ⟨by rw [if_pos c7, nn_w0, show nv = k by omega, ← hw], _, _, _, _, _, f3480, f3481, f3482, f3483, f3487, rg2_tr (rg2_rf 88 89 120 122 h) (rg2_w2 k3484 (by decide) (by decide)), hb1, hs1⟩
      · have d27 := mt (nv_le (a := nv) (b := k) (rfl) (rfl) (by omega) (by omega)).mpr c27
        refine aw_iload_n 2 dX9_quarrel_30 rfl rfl ?_
        refine aw_aload_n 3 dX9_quarrel_31 rfl rfl ?_
        refine aw_get fX9_101 dX9_quarrel_32 h88 rfl ?_
        refine aw_iload 0 dX9_quarrel_35 rfl ?_
        refine aw_iald k (rfl) (by omega) (by decide) dX9_quarrel_37 h117 ?_
        refine aw_toe (nI (xx k)) (rfl) ?_
        have b3492 := bxx k (by omega)
        refine aw_ishr dX9_quarrel_38 ?_
        refine aw_iconst (1) dX9_quarrel_39 (by decide) ?_
        refine aw_iand dX9_quarrel_40 ?_
        refine aw_toe (if w0.testBit (xx k) = true then 1 else 0) (nv_bit (rfl) (rfl) (by omega) (by omega)) ?_
        refine aw_iconst (1) dX9_quarrel_41 (by decide) ?_
        refine aw_icmp_ne 81 dX9_quarrel_42 (by decide) (fun c42 => ?_) (fun c42 => ?_)
        · have t42 := ite_0e c42
          refine aw_iinc (j := 0) (nI (k + 1)) [(4, .int (nI (k + 1))), (3, .int (nI wv)), (1, .int (nI w0)), (0, .ref (G.1 + 88))] dX9_quarrel_81 rfl (nv_inc (rfl)) (by decide) rfl ?_
          refine aw_goto 21 dX9_quarrel_84 (by decide) ?_
          refine aw_lv [(4, .int (nI (k + 1))), (3, .int (nI wv)), (1, .int (nI w0)), (0, .ref (G.1 + 88))] [0, 1, 2, 3] rfl ?_
          exact ih3473 (k + 1) wv (by omega) (by omega) (toF_n hw (fun q => t42 q.1))
        · have t42 := ite_1e c42
          refine aw_aload_n 3 dX9_quarrel_45 rfl rfl ?_
          refine aw_get fX9_98 dX9_quarrel_46 h88 rfl ?_
          refine aw_iload 0 dX9_quarrel_49 rfl ?_
          refine aw_iald k (rfl) (by omega) (by decide) dX9_quarrel_51 h116 ?_
          refine aw_toe (nI (so k)) (rfl) ?_
          have b3493 := bso k (by omega)
          refine aw_iconst (1) dX9_quarrel_52 (by decide) ?_
          refine aw_icmp_gt 71 dX9_quarrel_53 (by decide) (fun c53 => ?_) (fun c53 => ?_)
          · have d53 := (nv_lt (a := 1) (b := so k) (rfl) (rfl) (by omega) (by omega)).mp c53
            refine aw_iload_n 1 dX9_quarrel_71 rfl rfl ?_
            refine aw_aload_n 3 dX9_quarrel_72 rfl rfl ?_
            refine aw_get fX9_107 dX9_quarrel_73 h88 rfl ?_
            refine aw_iload 0 dX9_quarrel_76 rfl ?_
            refine aw_iald k (rfl) (by omega) (by decide) dX9_quarrel_78 h119 ?_
            refine aw_toe (nI (tr k)) (rfl) ?_
            have b3494 := btr k (by omega)
            refine aw_iadd dX9_quarrel_79 ?_
            refine aw_toe (nI (wv + (tr k))) (nv_add (rfl) (rfl)) ?_
            refine aw_istore_n [(3, .int (nI (wv + (tr k)))), (4, .int (nI k)), (1, .int (nI w0)), (0, .ref (G.1 + 88))] dX9_quarrel_80 rfl (by decide) rfl ?_
            refine aw_iinc (j := 1) (nI (k + 1)) [(4, .int (nI (k + 1))), (3, .int (nI (wv + (tr k)))), (1, .int (nI w0)), (0, .ref (G.1 + 88))] dX9_quarrel_81 rfl (nv_inc (rfl)) (by decide) rfl ?_
            refine aw_goto 21 dX9_quarrel_84 (by decide) ?_
            refine aw_lv [(4, .int (nI (k + 1))), (3, .int (nI (wv + (tr k)))), (1, .int (nI w0)), (0, .ref (G.1 + 88))] [0, 1, 2, 3] rfl ?_
            exact ih3473 (k + 1) (wv + (tr k)) (by omega) (by omega) (toF_y hw ⟨t42, Or.inl (by omega)⟩)
          · have d53 := mt (nv_lt (a := 1) (b := so k) (rfl) (rfl) (by omega) (by omega)).mpr c53
            refine aw_iload_n 2 dX9_quarrel_56 rfl rfl ?_
            refine aw_aload_n 3 dX9_quarrel_57 rfl rfl ?_
            refine aw_get fX9_104 dX9_quarrel_58 h88 rfl ?_
            refine aw_iload 0 dX9_quarrel_61 rfl ?_
            refine aw_iald k (rfl) (by omega) (by decide) dX9_quarrel_63 h118 ?_
            refine aw_toe (nI (yy k)) (hyM k (by omega) (by omega)) ?_
            have b3495 := byy k (by omega)
            refine aw_ishr dX9_quarrel_64 ?_
            refine aw_iconst (1) dX9_quarrel_65 (by decide) ?_
            refine aw_iand dX9_quarrel_66 ?_
            refine aw_toe (if w0.testBit (yy k) = true then 1 else 0) (nv_bit (rfl) (rfl) (by omega) (by omega)) ?_
            refine aw_iconst (1) dX9_quarrel_67 (by decide) ?_
            refine aw_icmp_ne 81 dX9_quarrel_68 (by decide) (fun c68 => ?_) (fun c68 => ?_)
            · have t68 := ite_0e c68
              refine aw_iinc (j := 0) (nI (k + 1)) [(4, .int (nI (k + 1))), (3, .int (nI wv)), (1, .int (nI w0)), (0, .ref (G.1 + 88))] dX9_quarrel_81 rfl (nv_inc (rfl)) (by decide) rfl ?_
              refine aw_goto 21 dX9_quarrel_84 (by decide) ?_
              refine aw_lv [(4, .int (nI (k + 1))), (3, .int (nI wv)), (1, .int (nI w0)), (0, .ref (G.1 + 88))] [0, 1, 2, 3] rfl ?_
              exact ih3473 (k + 1) wv (by omega) (by omega) (toF_n hw (fun q => q.2.elim (fun e => by omega) t68))
            · have t68 := ite_1e c68
              refine aw_iload_n 1 dX9_quarrel_71 rfl rfl ?_
              refine aw_aload_n 3 dX9_quarrel_72 rfl rfl ?_
              refine aw_get fX9_107 dX9_quarrel_73 h88 rfl ?_
              refine aw_iload 0 dX9_quarrel_76 rfl ?_
              refine aw_iald k (rfl) (by omega) (by decide) dX9_quarrel_78 h119 ?_
              refine aw_toe (nI (tr k)) (rfl) ?_
              have b3496 := btr k (by omega)
              refine aw_iadd dX9_quarrel_79 ?_
              refine aw_toe (nI (wv + (tr k))) (nv_add (rfl) (rfl)) ?_
              refine aw_istore_n [(3, .int (nI (wv + (tr k)))), (4, .int (nI k)), (1, .int (nI w0)), (0, .ref (G.1 + 88))] dX9_quarrel_80 rfl (by decide) rfl ?_
              refine aw_iinc (j := 1) (nI (k + 1)) [(4, .int (nI (k + 1))), (3, .int (nI (wv + (tr k)))), (1, .int (nI w0)), (0, .ref (G.1 + 88))] dX9_quarrel_81 rfl (nv_inc (rfl)) (by decide) rfl ?_
              refine aw_goto 21 dX9_quarrel_84 (by decide) ?_
              refine aw_lv [(4, .int (nI (k + 1))), (3, .int (nI (wv + (tr k)))), (1, .int (nI w0)), (0, .ref (G.1 + 88))] [0, 1, 2, 3] rfl ?_
              exact ih3473 (k + 1) (wv + (tr k)) (by omega) (by omega) (toF_y hw ⟨t42, Or.inr t68⟩)
  · have d7 := mt (j_eq (a := (shR w).toInt) (b := (0)) (rfl) (rfl)).mpr c7
    refine aw_aload_n 1 dX9_quarrel_10 rfl rfl ?_
    refine aw_iload_n 0 dX9_quarrel_11 rfl rfl ?_
    obtain ⟨q3497, bq3497, eq3497⟩ := Or.resolve_left (shR_q w) (by assumption)
    refine aw_eV [.int (shR w)] [] lX9_130 vX9_refuse mX9_refuse dX9_quarrel_12 (bX9_refuse (sp := sp) (fa := fa) (nb := nb) (ns := ns) (nm := nm) (nv := nv) (sh := sh) (ho := ho) (ow := ow) (sl := sl) (rg := rg) (x := (shR w)) (q := q3497) h88 h89 bq3497 eq3497) h88 rfl rfl rfl (Nat.le_of_ble_eq_true rfl) (by decide) (by decide) rfl (fun h3500 q3499 => ?_)
    obtain ⟨rg13498, f3501, k3502⟩ := q3499
    have f3503 := rng_at k3502 (by decide) h88
    have f3504 := rng_at k3502 (by decide) h116
    have f3505 := rng_at k3502 (by decide) h117
    have f3506 := rng_at k3502 (by decide) h118
    have f3507 := rng_at k3502 (by decide) h119
    have f3508 := rng_at k3502 (by decide) h120
    have f3509 := rng_at k3502 (by decide) h121
    have f3510 := rng_at k3502 (by decide) h122
    subst hQF
    exact aw_iret rfl dX9_quarrel_15 (by decide) (by decide) ⟨by rw [if_neg c7], _, _, _, _, _, f3503, f3508, f3509, f3510, f3501, rg2_tr (rg2_rf 88 89 120 122 h) (rg2_w k3502 (by decide)), htg, hsh⟩
set_option maxHeartbeats 4000000 in
theorem bX9_isFake {l : Launch} {G : xG} {h : List va_E} {sp fa nb ns nm nv sh : Nat} {ho ow sl : Int32} {kd fo : Nat → Nat} {b : Nat} (h88 : h[88]? = some (oB 9 (lM G (nI sp) (nI fa) (nI nb) (nI ns) (nI nm) ho ow sl (nI nv) (nI sh)))) (h123 : h[123]? = some (aI 10 (nA kd))) (h124 : h[124]? = some (aZ 36 (clM fo))) (bkd : ∀ j, j < 10 → kd j < 6) (bb : b < 1024) : CD l G yX9_isFake cX9_isFake 5 (some .boolean) 0 0 0 [.ref (G.1 + 88), .int (nI b)] h (some (.int (if (fkO kd fo b 10 = true) then 1 else 0))) h := by
  refine cm_ofQ rfl (Nat.le_of_ble_eq_true rfl) [(0, .ref (G.1 + 88)), (1, .int (nI b))] rfl (fun QF hQF => ?_)
  refine aw_iconst (0) dX9_isFake_0 (by decide) ?_
  refine aw_istore_n [(2, .int 0), (0, .ref (G.1 + 88)), (1, .int (nI b))] dX9_isFake_1 rfl (by decide) rfl ?_
  refine aw_iconst (0) dX9_isFake_2 (by decide) ?_
  refine aw_istore_n [(3, .int 0), (2, .int 0), (0, .ref (G.1 + 88)), (1, .int (nI b))] dX9_isFake_3 rfl (by decide) rfl ?_
  refine aw_lv [(3, .int 0), (2, .int 0), (1, .int (nI b)), (0, .ref (G.1 + 88))] [0, 1, 3, 2] rfl ?_
  suffices L3511 : ∀ (mm : Nat) (p : Nat) (bv : Int32), 10 - p < mm → (p ≤ 10) → (bv = if (fkO kd fo b p = true) then 1 else 0) → AW l G yX9_isFake cX9_isFake 5 (some .boolean) (xR 0 0 0) (fun _ _ => True) QF 0 0 4 [(3, .int (nI p)), (2, .int bv), (1, .int (nI b)), (0, .ref (G.1 + 88))] [] h from L3511 (10 - 0 + 1) 0 0 (Nat.lt_succ_self _) (Nat.zero_le _) (rfl)
  intro mm
  induction mm with
  | zero =>
    intro p bv hmm hp hb
    exact absurd hmm (Nat.not_lt_zero _)
  | succ mm ih3511 =>
    intro p bv hmm hp hb
    subst hb
    · refine aw_iload_n 0 dX9_isFake_4 rfl rfl ?_
      refine aw_bipush (10) dX9_isFake_5 (by decide) ?_
      refine aw_icmp_ge 85 dX9_isFake_7 (by decide) (fun c7 => ?_) (fun c7 => ?_)
      · have d7 := (nv_le (a := 10) (b := p) (rfl) (rfl) (by omega) (by omega)).mp c7
        refine aw_iload_n 1 dX9_isFake_85 rfl rfl ?_
        subst hQF
        exact aw_zret rfl (by first | rfl | (split <;> rfl)) dX9_isFake_86 (by decide) (by decide) ⟨by rw [show p = 10 by omega], rfl⟩
      · have d7 := mt (nv_le (a := 10) (b := p) (rfl) (rfl) (by omega) (by omega)).mpr c7
        refine aw_iconst (0) dX9_isFake_10 (by decide) ?_
        refine aw_istore [(4, .int 0), (3, .int (nI p)), (2, .int (if (fkO kd fo b p = true) then 1 else 0)), (1, .int (nI b)), (0, .ref (G.1 + 88))] dX9_isFake_11 (by decide) rfl ?_
        refine aw_lv [(4, .int 0), (3, .int (nI p)), (2, .int (if (fkO kd fo b p = true) then 1 else 0)), (1, .int (nI b)), (0, .ref (G.1 + 88))] [0, 1, 2, 3, 4] rfl ?_
        suffices L3512 : ∀ (mm : Nat) (q : Nat) (bv : Int32), p - q < mm → (q ≤ p) → (bv = if ((fkO kd fo b p || fkI kd fo b p q) = true) then 1 else 0) → AW l G yX9_isFake cX9_isFake 5 (some .boolean) (xR 0 0 0) (fun _ _ => True) QF 0 0 13 [(4, .int (nI q)), (3, .int (nI p)), (2, .int bv), (1, .int (nI b)), (0, .ref (G.1 + 88))] [] h from L3512 (p - 0 + 1) 0 (if (fkO kd fo b p = true) then 1 else 0) (Nat.lt_succ_self _) (Nat.zero_le _) (by simp only [fkI, Bool.or_false])
        intro mm
        induction mm with
        | zero =>
          intro q bv hmm hq hb
          exact absurd hmm (Nat.not_lt_zero _)
        | succ mm ih3512 =>
          intro q bv hmm hq hb
          subst hb
          · refine aw_iload 0 dX9_isFake_13 rfl ?_
            refine aw_iload_n 1 dX9_isFake_15 rfl rfl ?_
            refine aw_icmp_ge 79 dX9_isFake_16 (by decide) (fun c16 => ?_) (fun c16 => ?_)
            · have d16 := (nv_le (a := p) (b := q) (rfl) (rfl) (by omega) (by omega)).mp c16
              refine aw_iinc (j := 1) (nI (p + 1)) [(3, .int (nI (p + 1))), (4, .int (nI q)), (2, .int (if ((fkO kd fo b p || fkI kd fo b p q) = true) then 1 else 0)), (1, .int (nI b)), (0, .ref (G.1 + 88))] dX9_isFake_79 rfl (nv_inc (rfl)) (by decide) rfl ?_
              refine aw_goto 4 dX9_isFake_82 (by decide) ?_
              refine aw_lv [(3, .int (nI (p + 1))), (2, .int (if ((fkO kd fo b p || fkI kd fo b p q) = true) then 1 else 0)), (1, .int (nI b)), (0, .ref (G.1 + 88))] [0, 2, 3, 4] rfl ?_
              exact ih3511 (p + 1) (if ((fkO kd fo b p || fkI kd fo b p q) = true) then 1 else 0) (by omega) (by omega) (by rw [show q = p by omega]; rfl)
            · have d16 := mt (nv_le (a := p) (b := q) (rfl) (rfl) (by omega) (by omega)).mpr c16
              refine aw_iload_n 2 dX9_isFake_19 rfl rfl ?_
              refine aw_if_ne 67 dX9_isFake_20 (by decide) (fun c20 => ?_) (fun c20 => ?_)
              · have t20 := ite_1 c20
                refine aw_iconst (1) dX9_isFake_67 (by decide) ?_
                refine aw_goto 72 dX9_isFake_68 (by decide) ?_
                refine aw_istore_n [(2, .int 1), (4, .int (nI q)), (3, .int (nI p)), (1, .int (nI b)), (0, .ref (G.1 + 88))] dX9_isFake_72 rfl (by decide) rfl ?_
                refine aw_iinc (j := 1) (nI (q + 1)) [(4, .int (nI (q + 1))), (2, .int 1), (3, .int (nI p)), (1, .int (nI b)), (0, .ref (G.1 + 88))] dX9_isFake_73 rfl (nv_inc (rfl)) (by decide) rfl ?_
                refine aw_goto 13 dX9_isFake_76 (by decide) ?_
                refine aw_lv [(4, .int (nI (q + 1))), (3, .int (nI p)), (2, .int 1), (1, .int (nI b)), (0, .ref (G.1 + 88))] [0, 2, 1, 3, 4] rfl ?_
                exact ih3512 (q + 1) 1 (by omega) (by omega) (fkI_t (Or.inl t20))
              · have t20 := ite_0 c20
                refine aw_iload_n 3 dX9_isFake_23 rfl rfl ?_
                refine aw_iload_n 1 dX9_isFake_24 rfl rfl ?_
                refine aw_ishr dX9_isFake_25 ?_
                refine aw_iconst (1) dX9_isFake_26 (by decide) ?_
                refine aw_iand dX9_isFake_27 ?_
                refine aw_toe (if b.testBit p = true then 1 else 0) (nv_bit (rfl) (rfl) (by omega) (by omega)) ?_
                refine aw_iconst (1) dX9_isFake_28 (by decide) ?_
                refine aw_icmp_ne 71 dX9_isFake_29 (by decide) (fun c29 => ?_) (fun c29 => ?_)
                · have t29 := ite_0e c29
                  refine aw_iconst (0) dX9_isFake_71 (by decide) ?_
                  refine aw_istore_n [(2, .int 0), (4, .int (nI q)), (3, .int (nI p)), (1, .int (nI b)), (0, .ref (G.1 + 88))] dX9_isFake_72 rfl (by decide) rfl ?_
                  refine aw_iinc (j := 1) (nI (q + 1)) [(4, .int (nI (q + 1))), (2, .int 0), (3, .int (nI p)), (1, .int (nI b)), (0, .ref (G.1 + 88))] dX9_isFake_73 rfl (nv_inc (rfl)) (by decide) rfl ?_
                  refine aw_goto 13 dX9_isFake_76 (by decide) ?_
                  refine aw_lv [(4, .int (nI (q + 1))), (3, .int (nI p)), (2, .int 0), (1, .int (nI b)), (0, .ref (G.1 + 88))] [0, 2, 1, 3, 4] rfl ?_
                  exact ih3512 (q + 1) 0 (by omega) (by omega) (fkI_f t20 (fun q => t29 q.1))
                · have t29 := ite_1e c29
                  refine aw_iload_n 3 dX9_isFake_32 rfl rfl ?_
                  refine aw_iload 0 dX9_isFake_33 rfl ?_
                  refine aw_ishr dX9_isFake_35 ?_
                  refine aw_iconst (1) dX9_isFake_36 (by decide) ?_
                  refine aw_iand dX9_isFake_37 ?_
                  refine aw_toe (if b.testBit q = true then 1 else 0) (nv_bit (rfl) (rfl) (by omega) (by omega)) ?_
                  refine aw_iconst (1) dX9_isFake_38 (by decide) ?_
                  refine aw_icmp_ne 71 dX9_isFake_39 (by decide) (fun c39 => ?_) (fun c39 => ?_)
                  · have t39 := ite_0e c39
                    refine aw_iconst (0) dX9_isFake_71 (by decide) ?_
                    refine aw_istore_n [(2, .int 0), (4, .int (nI q)), (3, .int (nI p)), (1, .int (nI b)), (0, .ref (G.1 + 88))] dX9_isFake_72 rfl (by decide) rfl ?_
                    refine aw_iinc (j := 1) (nI (q + 1)) [(4, .int (nI (q + 1))), (2, .int 0), (3, .int (nI p)), (1, .int (nI b)), (0, .ref (G.1 + 88))] dX9_isFake_73 rfl (nv_inc (rfl)) (by decide) rfl ?_
                    refine aw_goto 13 dX9_isFake_76 (by decide) ?_
                    refine aw_lv [(4, .int (nI (q + 1))), (3, .int (nI p)), (2, .int 0), (1, .int (nI b)), (0, .ref (G.1 + 88))] [0, 2, 1, 3, 4] rfl ?_
                    exact ih3512 (q + 1) 0 (by omega) (by omega) (fkI_f t20 (fun q => t39 q.2.1))
                  · have t39 := ite_1e c39
                    refine aw_aload_n 4 dX9_isFake_42 rfl rfl ?_
                    refine aw_get fX9_122 dX9_isFake_43 h88 rfl ?_
                    refine aw_bipush (6) dX9_isFake_46 (by decide) ?_
                    refine aw_aload_n 4 dX9_isFake_48 rfl rfl ?_
                    refine aw_get fX9_119 dX9_isFake_49 h88 rfl ?_
                    refine aw_iload_n 1 dX9_isFake_52 rfl rfl ?_
                    refine aw_iald p (rfl) (by omega) (by decide) dX9_isFake_53 h123 ?_
                    refine aw_toe (nI (kd p)) (rfl) ?_
                    have b3513 := bkd p (by omega)
                    refine aw_imul dX9_isFake_54 ?_
                    refine aw_toe (nI (6 * (kd p))) (nv_mul (rfl) (rfl)) ?_
                    refine aw_aload_n 4 dX9_isFake_55 rfl rfl ?_
                    refine aw_get fX9_119 dX9_isFake_56 h88 rfl ?_
                    refine aw_iload 0 dX9_isFake_59 rfl ?_
                    refine aw_iald q (rfl) (by omega) (by decide) dX9_isFake_61 h123 ?_
                    refine aw_toe (nI (kd q)) (rfl) ?_
                    have b3514 := bkd q (by omega)
                    refine aw_iadd dX9_isFake_62 ?_
                    refine aw_toe (nI ((6 * (kd p)) + (kd q))) (nv_add (rfl) (rfl)) ?_
                    refine aw_zald ((6 * (kd p)) + (kd q)) (rfl) (by omega) (by decide) dX9_isFake_63 h124 ?_
                    refine aw_toe (if ((fo (kd p)).testBit (kd q) = true) then 1 else 0) (clM_at (by omega)) ?_
                    refine aw_if_eq 71 dX9_isFake_64 (by decide) (fun c64 => ?_) (fun c64 => ?_)
                    · have t64 := ite_0 c64
                      refine aw_iconst (0) dX9_isFake_71 (by decide) ?_
                      refine aw_istore_n [(2, .int 0), (4, .int (nI q)), (3, .int (nI p)), (1, .int (nI b)), (0, .ref (G.1 + 88))] dX9_isFake_72 rfl (by decide) rfl ?_
                      refine aw_iinc (j := 1) (nI (q + 1)) [(4, .int (nI (q + 1))), (2, .int 0), (3, .int (nI p)), (1, .int (nI b)), (0, .ref (G.1 + 88))] dX9_isFake_73 rfl (nv_inc (rfl)) (by decide) rfl ?_
                      refine aw_goto 13 dX9_isFake_76 (by decide) ?_
                      refine aw_lv [(4, .int (nI (q + 1))), (3, .int (nI p)), (2, .int 0), (1, .int (nI b)), (0, .ref (G.1 + 88))] [0, 2, 1, 3, 4] rfl ?_
                      exact ih3512 (q + 1) 0 (by omega) (by omega) (fkI_f t20 (fun q => t64 q.2.2))
                    · have t64 := ite_1 c64
                      refine aw_iconst (1) dX9_isFake_67 (by decide) ?_
                      refine aw_goto 72 dX9_isFake_68 (by decide) ?_
                      refine aw_istore_n [(2, .int 1), (4, .int (nI q)), (3, .int (nI p)), (1, .int (nI b)), (0, .ref (G.1 + 88))] dX9_isFake_72 rfl (by decide) rfl ?_
                      refine aw_iinc (j := 1) (nI (q + 1)) [(4, .int (nI (q + 1))), (2, .int 1), (3, .int (nI p)), (1, .int (nI b)), (0, .ref (G.1 + 88))] dX9_isFake_73 rfl (nv_inc (rfl)) (by decide) rfl ?_
                      refine aw_goto 13 dX9_isFake_76 (by decide) ?_
                      refine aw_lv [(4, .int (nI (q + 1))), (3, .int (nI p)), (2, .int 1), (1, .int (nI b)), (0, .ref (G.1 + 88))] [0, 2, 1, 3, 4] rfl ?_
                      exact ih3512 (q + 1) 1 (by omega) (by omega) (fkI_t (Or.inr ⟨t29, t39, t64⟩))
set_option maxHeartbeats 4000000 in
theorem oX9_fake {l : Launch} {G : xG} {h : List va_E} {sp fa nb ns nm nv sh : Nat} {ho ow sl : Int32} {rg : Nat → Int32} {kd fo : Nat → Nat} {b : Int32} (h88 : h[88]? = some (oB 9 (lM G (nI sp) (nI fa) (nI nb) (nI ns) (nI nm) ho ow sl (nI nv) (nI sh)))) (h89 : h[89]? = some (aI 7 rg)) (h123 : h[123]? = some (aI 10 (nA kd))) (h124 : h[124]? = some (aZ 36 (clM fo))) (bkd : ∀ j, j < 10 → kd j < 6) : CE l G yX9_fake cX9_fake 2 (some .int) 2 0 0 [.ref (G.1 + 88), .int b] h (some (.int (if (0 ≤ b.toInt ∧ b.toInt < 1024) then (if fkO kd fo (tn b) 10 = true then 1 else 0) else -1))) (fun h1 => ∃ rg1 : Nat → Int32, h1[89]? = some (aI 7 rg1) ∧ rng 89 89 h h1) := by
  refine cm_ofQ rfl (Nat.le_of_ble_eq_true rfl) [(0, .ref (G.1 + 88)), (1, .int b)] rfl (fun QF hQF => ?_)
  refine aw_iload_n 1 dX9_fake_0 rfl rfl ?_
  refine aw_dS [.int b] [] lX9_245 sX9_isBeast mX9_isBeast dX9_fake_1 (bX9_isBeast (x := b) ) rfl (Nat.le_of_ble_eq_true rfl) (by decide) (by decide) rfl ?_
  refine aw_if_eq 23 dX9_fake_4 (by decide) (fun c4 => ?_) (fun c4 => ?_)
  · have t4 := ite_0 c4
    refine aw_aload_n 0 dX9_fake_23 rfl rfl ?_
    refine aw_iconst (-1) dX9_fake_24 (by decide) ?_
    refine aw_eV [.int (-1)] [] lX9_130 vX9_refuse mX9_refuse dX9_fake_25 (bX9_refuse (sp := sp) (fa := fa) (nb := nb) (ns := ns) (nm := nm) (nv := nv) (sh := sh) (ho := ho) (ow := ow) (sl := sl) (rg := rg) (x := (-1)) (q := 1) h88 h89 (by decide) (by decide)) h88 rfl rfl rfl (Nat.le_of_ble_eq_true rfl) (by decide) (by decide) rfl (fun h3517 q3516 => ?_)
    obtain ⟨rg13515, f3518, k3519⟩ := q3516
    have f3520 := rng_at k3519 (by decide) h88
    have f3521 := rng_at k3519 (by decide) h123
    have f3522 := rng_at k3519 (by decide) h124
    subst hQF
    exact aw_iret rfl dX9_fake_28 (by decide) (by decide) ⟨by rw [if_neg (by omega)], _, f3518, rng_tr (rng_rf 89 89 h) (rng_w k3519 (by decide) (by decide))⟩
  · have t4 := ite_1 c4
    obtain ⟨b0, bb_b0, ee_b0⟩ := i_nat (x := b) (N := 1024) (by omega) (by omega)
    subst ee_b0
    have tt_b0 : (nI b0).toInt = (b0 : Int) := nI_toInt (by omega)
    have nn_b0 : tn (nI b0) = b0 := tn_nI (by omega)
    refine aw_aload_n 0 dX9_fake_7 rfl rfl ?_
    refine aw_iload_n 1 dX9_fake_8 rfl rfl ?_
    refine aw_dV [.int (nI b0)] [] lX9_249 vX9_isFake mX9_isFake dX9_fake_9 (bX9_isFake (sp := sp) (fa := fa) (nb := nb) (ns := ns) (nm := nm) (nv := nv) (sh := sh) (ho := ho) (ow := ow) (sl := sl) (kd := kd) (b := b0) h88 h123 h124 bkd (by omega)) h88 rfl rfl rfl (Nat.le_of_ble_eq_true rfl) (by decide) (by decide) rfl ?_
    refine aw_if_eq 19 dX9_fake_12 (by decide) (fun c12 => ?_) (fun c12 => ?_)
    · have t12 := ite_0 c12
      refine aw_iconst (0) dX9_fake_19 (by decide) ?_
      refine aw_goto 28 dX9_fake_20 (by decide) ?_
      subst hQF
      exact aw_iret rfl dX9_fake_28 (by decide) (by decide) ⟨by rw [if_pos (by omega), nn_b0, if_neg t12], _, h89, rng_rf 89 89 h⟩
    · have t12 := ite_1 c12
      refine aw_iconst (1) dX9_fake_15 (by decide) ?_
      refine aw_goto 28 dX9_fake_16 (by decide) ?_
      subst hQF
      exact aw_iret rfl dX9_fake_28 (by decide) (by decide) ⟨by rw [if_pos (by omega), nn_b0, if_pos t12], _, h89, rng_rf 89 89 h⟩
set_option maxHeartbeats 4000000 in
theorem oX9_least {l : Launch} {G : xG} {h : List va_E} {sp fa nb ns nm nv sh : Nat} {ho ow sl : Int32} {rg : Nat → Int32} {kd fo : Nat → Nat} {b : Int32} (h88 : h[88]? = some (oB 9 (lM G (nI sp) (nI fa) (nI nb) (nI ns) (nI nm) ho ow sl (nI nv) (nI sh)))) (h89 : h[89]? = some (aI 7 rg)) (h123 : h[123]? = some (aI 10 (nA kd))) (h124 : h[124]? = some (aZ 36 (clM fo))) (bkd : ∀ j, j < 10 → kd j < 6) : CE l G yX9_least cX9_least 4 (some .int) 2 0 0 [.ref (G.1 + 88), .int b] h (some (.int (if (0 ≤ b.toInt ∧ b.toInt < 1024) then (if fkO kd fo (tn b) 10 = true then nI (lmF kd fo (tn b) 1024) else 0) else -1))) (fun h1 => ∃ rg1 : Nat → Int32, h1[89]? = some (aI 7 rg1) ∧ rng 89 89 h h1) := by
  refine cm_ofQ rfl (Nat.le_of_ble_eq_true rfl) [(0, .ref (G.1 + 88)), (1, .int b)] rfl (fun QF hQF => ?_)
  refine aw_iload_n 1 dX9_least_0 rfl rfl ?_
  refine aw_dS [.int b] [] lX9_245 sX9_isBeast mX9_isBeast dX9_least_1 (bX9_isBeast (x := b) ) rfl (Nat.le_of_ble_eq_true rfl) (by decide) (by decide) rfl ?_
  refine aw_if_ne 13 dX9_least_4 (by decide) (fun c4 => ?_) (fun c4 => ?_)
  · have t4 := ite_1 c4
    obtain ⟨b0, bb_b0, ee_b0⟩ := i_nat (x := b) (N := 1024) (by omega) (by omega)
    subst ee_b0
    have tt_b0 : (nI b0).toInt = (b0 : Int) := nI_toInt (by omega)
    have nn_b0 : tn (nI b0) = b0 := tn_nI (by omega)
    refine aw_iload_n 1 dX9_least_13 rfl rfl ?_
    refine aw_istore_n [(2, .int (nI b0)), (0, .ref (G.1 + 88)), (1, .int (nI b0))] dX9_least_14 rfl (by decide) rfl ?_
    refine aw_iconst (0) dX9_least_15 (by decide) ?_
    refine aw_istore_n [(3, .int 0), (2, .int (nI b0)), (0, .ref (G.1 + 88)), (1, .int (nI b0))] dX9_least_16 rfl (by decide) rfl ?_
    refine aw_lv [(3, .int 0), (2, .int (nI b0)), (1, .int (nI b0)), (0, .ref (G.1 + 88))] [0, 1, 3, 2] rfl ?_
    suffices L3523 : ∀ (mm : Nat) (s : Nat) (z : Nat), 1024 - s < mm → (s ≤ 1024) → (z = lmF kd fo b0 s) → AW l G yX9_least cX9_least 4 (some .int) (xR 2 0 0) (fun _ _ => True) QF 0 0 17 [(3, .int (nI s)), (2, .int (nI z)), (1, .int (nI b0)), (0, .ref (G.1 + 88))] [] h from L3523 (1024 - 0 + 1) 0 b0 (Nat.lt_succ_self _) (Nat.zero_le _) (rfl)
    intro mm
    induction mm with
    | zero =>
      intro s z hmm hs hz
      exact absurd hmm (Nat.not_lt_zero _)
    | succ mm ih3523 =>
      intro s z hmm hs hz
      have b9 : z < 1024 := by rw [hz]; exact lmF_lt (by omega) s hs
      have b8 : b0 &&& (1023 ^^^ s) ≤ b0 := Nat.and_le_left
      have b7 : s &&& (1023 ^^^ b0) ≤ s := Nat.and_le_left
      have b6 := pcF_le 20 s
      have b5 := pcF_le 20 z
      refine aw_iload_n 0 dX9_least_17 rfl rfl ?_
      refine aw_sipush (1024) dX9_least_18 (by decide) ?_
      refine aw_icmp_ge 63 dX9_least_21 (by decide) (fun c21 => ?_) (fun c21 => ?_)
      · have d21 := (nv_le (a := 1024) (b := s) (rfl) (rfl) (by omega) (by omega)).mp c21
        refine aw_aload_n 3 dX9_least_63 rfl rfl ?_
        refine aw_iload_n 2 dX9_least_64 rfl rfl ?_
        refine aw_dV [.int (nI b0)] [] lX9_249 vX9_isFake mX9_isFake dX9_least_65 (bX9_isFake (sp := sp) (fa := fa) (nb := nb) (ns := ns) (nm := nm) (nv := nv) (sh := sh) (ho := ho) (ow := ow) (sl := sl) (kd := kd) (b := b0) h88 h123 h124 bkd (by omega)) h88 rfl rfl rfl (Nat.le_of_ble_eq_true rfl) (by decide) (by decide) rfl ?_
        refine aw_if_eq 75 dX9_least_68 (by decide) (fun c68 => ?_) (fun c68 => ?_)
        · have t68 := ite_0 c68
          refine aw_iconst (0) dX9_least_75 (by decide) ?_
          subst hQF
          exact aw_iret rfl dX9_least_76 (by decide) (by decide) ⟨by rw [if_pos (by omega), nn_b0, if_neg t68], _, h89, rng_rf 89 89 h⟩
        · have t68 := ite_1 c68
          refine aw_iload_n 1 dX9_least_71 rfl rfl ?_
          refine aw_goto 76 dX9_least_72 (by decide) ?_
          subst hQF
          exact aw_iret rfl dX9_least_76 (by decide) (by decide) ⟨by rw [if_pos (by omega), nn_b0, if_pos t68, hz, show s = 1024 by omega], _, h89, rng_rf 89 89 h⟩
      · have d21 := mt (nv_le (a := 1024) (b := s) (rfl) (rfl) (by omega) (by omega)).mpr c21
        refine aw_iload_n 0 dX9_least_24 rfl rfl ?_
        refine aw_iload_n 2 dX9_least_25 rfl rfl ?_
        refine aw_iconst (-1) dX9_least_26 (by decide) ?_
        refine aw_ixor dX9_least_27 ?_
        refine aw_iand dX9_least_28 ?_
        refine aw_toe (nI (s &&& (1023 ^^^ b0))) (nv_andn (by omega)) ?_
        refine aw_if_ne 57 dX9_least_29 (by decide) (fun c29 => ?_) (fun c29 => ?_)
        · have d29 := mt (nv_eq (a := s &&& (1023 ^^^ b0)) (b := 0) (rfl) (rfl) (by omega) (by omega)).mpr c29
          refine aw_iinc (j := 0) (nI (s + 1)) [(3, .int (nI (s + 1))), (2, .int (nI z)), (1, .int (nI b0)), (0, .ref (G.1 + 88))] dX9_least_57 rfl (nv_inc (rfl)) (by decide) rfl ?_
          refine aw_goto 17 dX9_least_60 (by decide) ?_
          refine aw_lv [(3, .int (nI (s + 1))), (2, .int (nI z)), (1, .int (nI b0)), (0, .ref (G.1 + 88))] [0, 1, 2, 3] rfl ?_
          exact ih3523 (s + 1) z (by omega) (by omega) (by simp only [lmF]; rw [← hz, if_neg (fun q => d29 q.1)])
        · have d29 := (nv_eq (a := s &&& (1023 ^^^ b0)) (b := 0) (rfl) (rfl) (by omega) (by omega)).mp c29
          refine aw_iload_n 0 dX9_least_32 rfl rfl ?_
          refine aw_dS [.int (nI s)] [] lX9_159 sX9_bitsOf mX9_bitsOf dX9_least_33 (bX9_bitsOf (a := s) (by omega)) rfl (Nat.le_of_ble_eq_true rfl) (by decide) (by decide) rfl ?_
          refine aw_iload_n 1 dX9_least_36 rfl rfl ?_
          refine aw_dS [.int (nI z)] [.int (nI (pcF 20 s))] lX9_159 sX9_bitsOf mX9_bitsOf dX9_least_37 (bX9_bitsOf (a := z) (by omega)) rfl (Nat.le_of_ble_eq_true rfl) (by decide) (by decide) rfl ?_
          refine aw_icmp_ge 57 dX9_least_40 (by decide) (fun c40 => ?_) (fun c40 => ?_)
          · have d40 := (nv_le (a := pcF 20 z) (b := pcF 20 s) (rfl) (rfl) (by omega) (by omega)).mp c40
            refine aw_iinc (j := 0) (nI (s + 1)) [(3, .int (nI (s + 1))), (2, .int (nI z)), (1, .int (nI b0)), (0, .ref (G.1 + 88))] dX9_least_57 rfl (nv_inc (rfl)) (by decide) rfl ?_
            refine aw_goto 17 dX9_least_60 (by decide) ?_
            refine aw_lv [(3, .int (nI (s + 1))), (2, .int (nI z)), (1, .int (nI b0)), (0, .ref (G.1 + 88))] [0, 1, 2, 3] rfl ?_
            exact ih3523 (s + 1) z (by omega) (by omega) (by simp only [lmF]; rw [← hz, if_neg (fun q => by omega)])
          · have d40 := mt (nv_le (a := pcF 20 z) (b := pcF 20 s) (rfl) (rfl) (by omega) (by omega)).mpr c40
            refine aw_aload_n 3 dX9_least_43 rfl rfl ?_
            refine aw_iload_n 2 dX9_least_44 rfl rfl ?_
            refine aw_iload_n 0 dX9_least_45 rfl rfl ?_
            refine aw_iconst (-1) dX9_least_46 (by decide) ?_
            refine aw_ixor dX9_least_47 ?_
            refine aw_iand dX9_least_48 ?_
            refine aw_toe (nI (b0 &&& (1023 ^^^ s))) (nv_andn (by omega)) ?_
            refine aw_dV [.int (nI (b0 &&& (1023 ^^^ s)))] [] lX9_249 vX9_isFake mX9_isFake dX9_least_49 (bX9_isFake (sp := sp) (fa := fa) (nb := nb) (ns := ns) (nm := nm) (nv := nv) (sh := sh) (ho := ho) (ow := ow) (sl := sl) (kd := kd) (b := b0 &&& (1023 ^^^ s)) h88 h123 h124 bkd (by omega)) h88 rfl rfl rfl (Nat.le_of_ble_eq_true rfl) (by decide) (by decide) rfl ?_
            refine aw_if_ne 57 dX9_least_52 (by decide) (fun c52 => ?_) (fun c52 => ?_)
            · have t52 := ite_1 c52
              refine aw_iinc (j := 0) (nI (s + 1)) [(3, .int (nI (s + 1))), (2, .int (nI z)), (1, .int (nI b0)), (0, .ref (G.1 + 88))] dX9_least_57 rfl (nv_inc (rfl)) (by decide) rfl ?_
              refine aw_goto 17 dX9_least_60 (by decide) ?_
              refine aw_lv [(3, .int (nI (s + 1))), (2, .int (nI z)), (1, .int (nI b0)), (0, .ref (G.1 + 88))] [0, 1, 2, 3] rfl ?_
              exact ih3523 (s + 1) z (by omega) (by omega) (by simp only [lmF]; rw [← hz, if_neg (fun q => q.2.2 t52)])
            · have t52 := ite_0 c52
              refine aw_iload_n 0 dX9_least_55 rfl rfl ?_
              refine aw_istore_n [(2, .int (nI s)), (3, .int (nI s)), (1, .int (nI b0)), (0, .ref (G.1 + 88))] dX9_least_56 rfl (by decide) rfl ?_
              refine aw_iinc (j := 1) (nI (s + 1)) [(3, .int (nI (s + 1))), (2, .int (nI s)), (1, .int (nI b0)), (0, .ref (G.1 + 88))] dX9_least_57 rfl (nv_inc (rfl)) (by decide) rfl ?_
              refine aw_goto 17 dX9_least_60 (by decide) ?_
              refine aw_lv [(3, .int (nI (s + 1))), (2, .int (nI s)), (1, .int (nI b0)), (0, .ref (G.1 + 88))] [0, 1, 2, 3] rfl ?_
              exact ih3523 (s + 1) s (by omega) (by omega) (by simp only [lmF]; rw [← hz, if_pos ⟨by omega, by omega, t52⟩])
  · have t4 := ite_0 c4
    refine aw_aload_n 0 dX9_least_7 rfl rfl ?_
    refine aw_iconst (-1) dX9_least_8 (by decide) ?_
    refine aw_eV [.int (-1)] [] lX9_130 vX9_refuse mX9_refuse dX9_least_9 (bX9_refuse (sp := sp) (fa := fa) (nb := nb) (ns := ns) (nm := nm) (nv := nv) (sh := sh) (ho := ho) (ow := ow) (sl := sl) (rg := rg) (x := (-1)) (q := 1) h88 h89 (by decide) (by decide)) h88 rfl rfl rfl (Nat.le_of_ble_eq_true rfl) (by decide) (by decide) rfl (fun h3526 q3525 => ?_)
    obtain ⟨rg13524, f3527, k3528⟩ := q3525
    have f3529 := rng_at k3528 (by decide) h88
    have f3530 := rng_at k3528 (by decide) h123
    have f3531 := rng_at k3528 (by decide) h124
    subst hQF
    exact aw_iret rfl dX9_least_12 (by decide) (by decide) ⟨by rw [if_neg (by omega)], _, f3527, rng_tr (rng_rf 89 89 h) (rng_w k3528 (by decide) (by decide))⟩
