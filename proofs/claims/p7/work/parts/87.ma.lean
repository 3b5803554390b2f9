set_option maxHeartbeats 4000000 in
theorem bX9_shelves {l : Launch} {G : xG} {h : List va_E} {sp fa nb ns nm nv sh : Nat} {ho ow sl : Int32} {so xx yy tr tg : Nat → Nat} {yM rs rw : Nat → Int32} {st : Nat} (h88 : h[88]? = some (oB 9 (lM G (nI sp) (nI fa) (nI nb) (nI ns) (nI nm) ho ow sl (nI nv) (nI sh)))) (h116 : h[116]? = some (aI 40 (nA so))) (h117 : h[117]? = some (aI 40 (nA xx))) (h118 : h[118]? = some (aI 40 yM)) (h119 : h[119]? = some (aI 40 (nA tr))) (h120 : h[120]? = some (aI 8 (nA tg))) (h121 : h[121]? = some (aI 2304 rs)) (h122 : h[122]? = some (aI 8 rw)) (htg : ∀ j, j < 8 → tg j < 12) (hsh : sh ≤ 8) (hnv : nv ≤ 40) (bso : ∀ j, j < 40 → so j < 4) (bxx : ∀ j, j < 40 → xx j < 12) (byy : ∀ j, j < 40 → yy j < 12) (btr : ∀ j, j < 40 → tr j ≤ 9) (hyM : ∀ j, j < nv → so j < 2 → yM j = nI (yy j)) (bst : st < 4096) (bpop : popN st ≤ 8) : CE l G yX9_shelves cX9_shelves 7 (some .int) 2 0 0 [.ref (G.1 + 88), .int (nI st)] h (some (.int (nI (RS st so xx yy tr (rdF st tg 12).2 (rdF st tg 12).1 nv 0 0)))) (fun h1 => ∃ sh1 : Nat, ∃ tg1 : Nat → Nat, ∃ rs1 : Nat → Int32, ∃ rw1 : Nat → Int32, h1[88]? = some (oB 9 (lM G (nI sp) (nI fa) (nI nb) (nI ns) (nI nm) ho ow sl (nI nv) (nI sh1))) ∧ h1[120]? = some (aI 8 (nA tg1)) ∧ h1[121]? = some (aI 2304 rs1) ∧ h1[122]? = some (aI 8 rw1) ∧ rg2 88 88 120 122 h h1 ∧ (sh1, tg1) = rdF st tg 12 ∧ rw1 = (rwF st so xx yy tr tg1 sh1 nv rw sh1).2.2) := by
  refine cm_ofQ rfl (Nat.le_of_ble_eq_true rfl) [(0, .ref (G.1 + 88)), (1, .int (nI st))] rfl (fun QF hQF => ?_)
  refine aw_aload_n 0 dX9_shelves_0 rfl rfl ?_
  refine aw_iconst (0) dX9_shelves_1 (by decide) ?_
  refine aw_putQ fX9_233 dX9_shelves_2 (lM G (nI sp) (nI fa) (nI nb) (nI ns) (nI nm) ho ow sl (nI nv) 0) h88 rfl rfl rfl (Nat.le_of_ble_eq_true rfl) rfl ?_
  refine aw_iconst (0) dX9_shelves_5 (by decide) ?_
  refine aw_istore_n [(2, .int 0), (0, .ref (G.1 + 88)), (1, .int (nI st))] dX9_shelves_6 rfl (by decide) rfl ?_
  refine aw_lv [(2, .int 0), (1, .int (nI st)), (0, .ref (G.1 + 88))] [0, 2, 1] rfl ?_
  suffices L3367 : ∀ (mm : Nat) (t : Nat) (sh1 : Nat) (tg1 : Nat → Nat) (h3357 : List va_E), 12 - t < mm → (t ≤ 12) → ((sh1, tg1) = rdF st tg t) → h3357[88]? = some (oB 9 (lM G (nI sp) (nI fa) (nI nb) (nI ns) (nI nm) ho ow sl (nI nv) (nI sh1))) → h3357[116]? = some (aI 40 (nA so)) → h3357[117]? = some (aI 40 (nA xx)) → h3357[118]? = some (aI 40 yM) → h3357[119]? = some (aI 40 (nA tr)) → h3357[120]? = some (aI 8 (nA tg1)) → h3357[121]? = some (aI 2304 rs) → h3357[122]? = some (aI 8 rw) → rg2 88 88 120 122 h h3357 → AW l G yX9_shelves cX9_shelves 7 (some .int) (xR 2 0 0) (fun _ _ => True) QF 0 0 7 [(2, .int (nI t)), (1, .int (nI st)), (0, .ref (G.1 + 88))] [] h3357 from L3367 (12 - 0 + 1) 0 0 tg _ (Nat.lt_succ_self _) (Nat.zero_le _) (rfl) (gs h88) (gn (by decide) (h116)) (gn (by decide) (h117)) (gn (by decide) (h118)) (gn (by decide) (h119)) (gn (by decide) (h120)) (gn (by decide) (h121)) (gn (by decide) (h122)) (rg2_set (rg2_rf 88 88 120 122 h) (by decide))
  intro mm
  induction mm with
  | zero =>
    intro t sh1 tg1 h3357 hmm ht hT f3358 f3359 f3360 f3361 f3362 f3363 f3364 f3365 k3366
    exact absurd hmm (Nat.not_lt_zero _)
  | succ mm ih3367 =>
    intro t sh1 tg1 h3357 hmm ht hT f3358 f3359 f3360 f3361 f3362 f3363 f3364 f3365 k3366
    refine aw_iload_n 0 dX9_shelves_7 rfl rfl ?_
    refine aw_bipush (12) dX9_shelves_8 (by decide) ?_
    refine aw_icmp_ge 50 dX9_shelves_10 (by decide) (fun c10 => ?_) (fun c10 => ?_)
    · have d10 := (nv_le (a := 12) (b := t) (rfl) (rfl) (by omega) (by omega)).mp c10
      have e12 : t = 12 := by omega
      subst e12
      have hl2 := rdF_len (st := st) (tg := tg) 12
      rw [← hT] at hl2
      dsimp only at hl2
      rw [← popL] at hl2
      have hsh1 : sh1 ≤ 8 := by omega
      have htg1 := rdF_b (st := st) htg 12 (Nat.le_refl _)
      rw [← hT] at htg1
      dsimp only at htg1
      have pw := pw8 sh1 hsh1
      refine aw_iconst (1) dX9_shelves_50 (by decide) ?_
      refine aw_aload_n 2 dX9_shelves_51 rfl rfl ?_
      refine aw_get fX9_233 dX9_shelves_52 f3358 rfl ?_
      refine aw_ishl dX9_shelves_55 ?_
      refine aw_toe (nI (2 ^ sh1)) (nv_shl1 (rfl) (by omega)) ?_
      refine aw_iconst (1) dX9_shelves_56 (by decide) ?_
      refine aw_isub dX9_shelves_57 ?_
      refine aw_toe (nI ((2 ^ sh1) - 1)) (nv_sub (rfl) (rfl) (by omega)) ?_
      refine aw_istore_n [(2, .int (nI ((2 ^ sh1) - 1))), (1, .int (nI st)), (0, .ref (G.1 + 88))] dX9_shelves_58 rfl (by decide) rfl ?_
      refine aw_iload_n 0 dX9_shelves_59 rfl rfl ?_
      refine aw_istore_n [(3, .int (nI ((2 ^ sh1) - 1))), (2, .int (nI ((2 ^ sh1) - 1))), (1, .int (nI st)), (0, .ref (G.1 + 88))] dX9_shelves_60 rfl (by decide) rfl ?_
      refine aw_lv [(3, .int (nI ((2 ^ sh1) - 1))), (2, .int (nI ((2 ^ sh1) - 1))), (1, .int (nI st)), (0, .ref (G.1 + 88))] [0, 1, 2, 3] rfl ?_
      suffices L3378 : ∀ (mm : Nat) (x : Nat) (xv : Int32) (rs1 : Nat → Int32) (h3368 : List va_E), x < mm → ((x = 0 ∧ xv = -1) ∨ ∃ p, p < 2 ^ sh1 ∧ xv = nI p ∧ x = p + 1) → (∀ q M, x ≤ q → q < 2 ^ sh1 → M ≤ sh1 → rs1 (9 * q + M) = nI (RS st so xx yy tr tg1 sh1 nv q M)) → h3368[88]? = some (oB 9 (lM G (nI sp) (nI fa) (nI nb) (nI ns) (nI nm) ho ow sl (nI nv) (nI sh1))) → h3368[116]? = some (aI 40 (nA so)) → h3368[117]? = some (aI 40 (nA xx)) → h3368[118]? = some (aI 40 yM) → h3368[119]? = some (aI 40 (nA tr)) → h3368[120]? = some (aI 8 (nA tg1)) → h3368[121]? = some (aI 2304 rs1) → h3368[122]? = some (aI 8 rw) → rg2 88 88 120 122 h h3368 → AW l G yX9_shelves cX9_shelves 7 (some .int) (xR 2 0 0) (fun _ _ => True) QF 0 0 61 [(3, .int xv), (2, .int (nI (2 ^ sh1 - 1))), (1, .int (nI st)), (0, .ref (G.1 + 88))] [] h3368 from L3378 ((2 ^ sh1) + 1) (2 ^ sh1) (nI (2 ^ sh1 - 1)) rs _ (Nat.lt_succ_self _) (Or.inr ⟨2 ^ sh1 - 1, by omega, rfl, by omega⟩) (fun q M h1 h2 h3 => absurd h1 (by omega)) f3358 f3359 f3360 f3361 f3362 f3363 f3364 f3365 (k3366)
      intro mm
      induction mm with
      | zero =>
        intro x xv rs1 h3368 hmm hx hR1 f3369 f3370 f3371 f3372 f3373 f3374 f3375 f3376 k3377
        exact absurd hmm (Nat.not_lt_zero _)
      | succ mm ih3378 =>
        intro x xv rs1 h3368 hmm hx hR1 f3369 f3370 f3371 f3372 f3373 f3374 f3375 f3376 k3377
        rcases hx with ⟨rfl, rfl⟩ | ⟨p, hp, rfl, rfl⟩
        · refine aw_iload_n 0 dX9_shelves_61 rfl rfl ?_
          refine aw_if_lt 181 dX9_shelves_62 (by decide) (fun c62 => ?_) (fun c62 => absurd (by decide) c62)
          refine aw_iconst (0) dX9_shelves_181 (by decide) ?_
          refine aw_istore_n [(3, .int 0), (2, .int (nI (2 ^ sh1 - 1))), (1, .int (nI st)), (0, .ref (G.1 + 88))] dX9_shelves_182 rfl (by decide) rfl ?_
          refine aw_iconst (-1) dX9_shelves_183 (by decide) ?_
          refine aw_istore [(4, .int (-1)), (3, .int 0), (2, .int (nI (2 ^ sh1 - 1))), (1, .int (nI st)), (0, .ref (G.1 + 88))] dX9_shelves_184 (by decide) rfl ?_
          refine aw_iconst (0) dX9_shelves_186 (by decide) ?_
          refine aw_istore [(5, .int 0), (4, .int (-1)), (3, .int 0), (2, .int (nI (2 ^ sh1 - 1))), (1, .int (nI st)), (0, .ref (G.1 + 88))] dX9_shelves_187 (by decide) rfl ?_
          refine aw_lv [(5, .int 0), (4, .int (-1)), (3, .int 0), (1, .int (nI st)), (0, .ref (G.1 + 88))] [0, 1, 2, 4, 5] rfl ?_
          suffices L3389 : ∀ (mm : Nat) (n : Nat) (L : Nat) (lvv : Int32) (p : Nat) (rw1 : Nat → Int32) (h3379 : List va_E), sh1 - n < mm → (n ≤ sh1) → (L ≤ sh1) → ((L = 0 ∧ lvv = -1) ∨ ∃ la, L = la + 1 ∧ lvv = nI la) → (p < 2 ^ sh1) → (popN p = n) → ((p, L, rw1) = rwF st so xx yy tr tg1 sh1 nv rw n) → h3379[88]? = some (oB 9 (lM G (nI sp) (nI fa) (nI nb) (nI ns) (nI nm) ho ow sl (nI nv) (nI sh1))) → h3379[116]? = some (aI 40 (nA so)) → h3379[117]? = some (aI 40 (nA xx)) → h3379[118]? = some (aI 40 yM) → h3379[119]? = some (aI 40 (nA tr)) → h3379[120]? = some (aI 8 (nA tg1)) → h3379[121]? = some (aI 2304 rs1) → h3379[122]? = some (aI 8 rw1) → rg2 88 88 120 122 h h3379 → AW l G yX9_shelves cX9_shelves 7 (some .int) (xR 2 0 0) (fun _ _ => True) QF 0 0 189 [(5, .int (nI n)), (4, .int lvv), (3, .int (nI p)), (1, .int (nI st)), (0, .ref (G.1 + 88))] [] h3379 from L3389 (sh1 - 0 + 1) 0 0 (-1) 0 rw _ (Nat.lt_succ_self _) (Nat.zero_le _) (Nat.zero_le _) (Or.inl ⟨rfl, rfl⟩) (by omega) (pop_0) (rfl) f3369 f3370 f3371 f3372 f3373 f3374 f3375 f3376 (k3377)
          intro mm
          induction mm with
          | zero =>
            intro n L lvv p rw1 h3379 hmm hn5 hL5 hl5 hp5 hpn hq5 f3380 f3381 f3382 f3383 f3384 f3385 f3386 f3387 k3388
            exact absurd hmm (Nat.not_lt_zero _)
          | succ mm ih3389 =>
            intro n L lvv p rw1 h3379 hmm hn5 hL5 hl5 hp5 hpn hq5 f3380 f3381 f3382 f3383 f3384 f3385 f3386 f3387 k3388
            rcases hl5 with ⟨rfl, rfl⟩ | ⟨la, rfl, rfl⟩
            · refine aw_iload 0 dX9_shelves_189 rfl ?_
              refine aw_aload_n 4 dX9_shelves_191 rfl rfl ?_
              refine aw_get fX9_233 dX9_shelves_192 f3380 rfl ?_
              refine aw_icmp_ge 295 dX9_shelves_195 (by decide) (fun c195 => ?_) (fun c195 => ?_)
              · have d195 := (nv_le (a := sh1) (b := n) (rfl) (rfl) (by omega) (by omega)).mp c195
                refine aw_aload_n 4 dX9_shelves_295 rfl rfl ?_
                refine aw_get fX9_113 dX9_shelves_296 f3380 rfl ?_
                refine aw_iconst (0) dX9_shelves_299 (by decide) ?_
                refine aw_iald 0 (rfl) (by decide) (by decide) dX9_shelves_300 f3386 ?_
                refine aw_toe (nI (RS st so xx yy tr tg1 sh1 nv 0 0)) (hR1 0 0 (Nat.zero_le _) (by omega) (Nat.zero_le _)) ?_
                subst hQF
                exact aw_iret rfl dX9_shelves_301 (by decide) (by decide) ⟨by rw [← hT], _, _, _, _, f3380, f3385, f3386, f3387, k3388, hT, by have e := hq5; rw [show n = sh1 by omega] at e; rw [← e]⟩
              · have d195 := mt (nv_le (a := sh1) (b := n) (rfl) (rfl) (by omega) (by omega)).mpr c195
                have hpa : p < 2 ^ sh1 - 1 := by
                  rcases Nat.lt_or_ge p (2 ^ sh1 - 1) with q | q
                  · exact q
                  · exfalso; have e := pop_all0 sh1 (by omega); rw [show 2 ^ sh1 - 1 = p by omega] at e; omega
                obtain ⟨k0, bk0, tk0, ek0⟩ := RS_at (st := st) (so := so) (xx := xx) (yy := yy) (tr := tr) (tg := tg1) (nv := nv) (L := 0) hsh1 hpa
                refine aw_iconst (0) dX9_shelves_198 (by decide) ?_
                refine aw_istore [(6, .int 0), (5, .int (nI n)), (4, .int (-1)), (3, .int (nI p)), (1, .int (nI st)), (0, .ref (G.1 + 88))] dX9_shelves_199 (by decide) rfl ?_
                refine aw_lv [(6, .int 0), (5, .int (nI n)), (4, .int (-1)), (3, .int (nI p)), (1, .int (nI st)), (0, .ref (G.1 + 88))] [0, 1, 2, 3, 4, 5] rfl ?_
                suffices L3390 : ∀ (mm : Nat) (k : Nat), sh1 - k < mm → (k ≤ k0) → (∀ j, 0 ≤ j → j < k → p.testBit j = true ∨ vS st so xx yy tr tg1 sh1 nv p 0 j ≠ (RS st so xx yy tr tg1 sh1 nv p 0)) → AW l G yX9_shelves cX9_shelves 7 (some .int) (xR 2 0 0) (fun _ _ => True) QF 0 0 201 [(6, .int (nI k)), (5, .int (nI n)), (4, .int (-1)), (3, .int (nI p)), (1, .int (nI st)), (0, .ref (G.1 + 88))] [] h3379 from L3390 (sh1 - 0 + 1) 0 (Nat.lt_succ_self _) (Nat.zero_le _) (fun j _ hj => absurd hj (by omega))
                intro mm
                induction mm with
                | zero =>
                  intro k hmm hk6 hfs
                  exact absurd hmm (Nat.not_lt_zero _)
                | succ mm ih3390 =>
                  intro k hmm hk6 hfs
                  refine aw_iload_n 3 dX9_shelves_201 rfl rfl ?_
                  refine aw_iload 0 dX9_shelves_202 rfl ?_
                  refine aw_ishr dX9_shelves_204 ?_
                  refine aw_iconst (1) dX9_shelves_205 (by decide) ?_
                  refine aw_iand dX9_shelves_206 ?_
                  refine aw_toe (if p.testBit k = true then 1 else 0) (nv_bit (rfl) (rfl) (by omega) (by omega)) ?_
                  refine aw_iconst (1) dX9_shelves_207 (by decide) ?_
                  refine aw_icmp_eq 258 dX9_shelves_208 (by decide) (fun c208 => ?_) (fun c208 => ?_)
                  · have t208 := ite_1e c208
                    refine aw_iinc (j := 0) (nI (k + 1)) [(6, .int (nI (k + 1))), (5, .int (nI n)), (4, .int (-1)), (3, .int (nI p)), (1, .int (nI st)), (0, .ref (G.1 + 88))] dX9_shelves_258 rfl (nv_inc (rfl)) (by decide) rfl ?_
                    refine aw_goto 201 dX9_shelves_261 (by decide) ?_
                    refine aw_lv [(6, .int (nI (k + 1))), (5, .int (nI n)), (4, .int (-1)), (3, .int (nI p)), (1, .int (nI st)), (0, .ref (G.1 + 88))] [0, 1, 2, 3, 4, 5] rfl ?_
                    exact ih3390 (k + 1) (by omega) (Nat.lt_of_le_of_ne hk6 (fun e => tk0 (by rw [← e]; exact t208))) (fst_s hfs (Or.inl t208))
                  · have t208 := ite_0e c208
                    have bor := or_gt t208
                    have bop := or_ps (k := k) hp5 (by omega)
                    have b7 := wnF_le (st := st) (so := so) (xx := xx) (yy := yy) (tg := tg1) (sh := sh1) (p := p) (L := 0) (nx := k) btr nv hnv
                    have b6 := RS_le (st := st) (so := so) (xx := xx) (yy := yy) (tg := tg1) (sh := sh1) (p := p ||| 2 ^ k) (L := k + 1) btr hnv
                    have b5 := RS_le (st := st) (so := so) (xx := xx) (yy := yy) (tg := tg1) (sh := sh1) (p := p) (L := 0) btr hnv
                    refine aw_aload_n 5 dX9_shelves_211 rfl rfl ?_
                    refine aw_iload_n 4 dX9_shelves_212 rfl rfl ?_
                    refine aw_iload_n 3 dX9_shelves_213 rfl rfl ?_
                    refine aw_iload 2 dX9_shelves_214 rfl ?_
                    refine aw_iload 0 dX9_shelves_216 rfl ?_
                    refine aw_dV [.int (nI st), .int (nI p), .int (-1), .int (nI k)] [] lX9_236 vX9_wins mX9_wins dX9_shelves_218 (bX9_wins0 (sp := sp) (fa := fa) (nb := nb) (ns := ns) (nm := nm) (nv := nv) (sh := sh1) (ho := ho) (ow := ow) (sl := sl) (so := so) (xx := xx) (tr := tr) (tg := tg1) (yM := yM) (st := st) (p := p) (nx := k) f3380 f3381 f3382 f3383 f3384 f3385 htg1 hsh1 (by omega) bso bxx byy btr hyM (by omega) (by omega) (by omega)) f3380 rfl rfl rfl (Nat.le_of_ble_eq_true rfl) (by decide) (by decide) rfl ?_
                    refine aw_aload_n 5 dX9_shelves_221 rfl rfl ?_
                    refine aw_get fX9_113 dX9_shelves_222 f3380 rfl ?_
                    refine aw_bipush (9) dX9_shelves_225 (by decide) ?_
                    refine aw_iload_n 3 dX9_shelves_227 rfl rfl ?_
                    refine aw_iconst (1) dX9_shelves_228 (by decide) ?_
                    refine aw_iload 0 dX9_shelves_229 rfl ?_
                    refine aw_ishl dX9_shelves_231 ?_
                    refine aw_toe (nI (2 ^ k)) (nv_shl1 (rfl) (by omega)) ?_
                    refine aw_ior dX9_shelves_232 ?_
                    refine aw_toe (nI (p ||| (2 ^ k))) (nv_or (rfl) (rfl)) ?_
                    refine aw_imul dX9_shelves_233 ?_
                    refine aw_toe (nI (9 * (p ||| (2 ^ k)))) (nv_mul (rfl) (rfl)) ?_
                    refine aw_iload 0 dX9_shelves_234 rfl ?_
                    refine aw_iadd dX9_shelves_236 ?_
                    refine aw_toe (nI ((9 * (p ||| (2 ^ k))) + k)) (nv_add (rfl) (rfl)) ?_
                    refine aw_iconst (1) dX9_shelves_237 (by decide) ?_
                    refine aw_iadd dX9_shelves_238 ?_
                    refine aw_toe (nI (((9 * (p ||| (2 ^ k))) + k) + 1)) (nv_add (rfl) (rfl)) ?_
                    refine aw_iald (((9 * (p ||| (2 ^ k))) + k) + 1) (rfl) (by omega) (by decide) dX9_shelves_239 f3386 ?_
                    refine aw_toe (nI (RS st so xx yy tr tg1 sh1 nv (p ||| 2 ^ k) (k + 1))) (hR1 _ (k + 1) (Nat.zero_le _) (by omega) (by omega)) ?_
                    refine aw_iadd dX9_shelves_240 ?_
                    refine aw_toe (nI ((wnF st so xx yy tr tg1 sh1 p 0 k nv) + (RS st so xx yy tr tg1 sh1 nv (p ||| 2 ^ k) (k + 1)))) (nv_add (rfl) (rfl)) ?_
                    refine aw_aload_n 5 dX9_shelves_241 rfl rfl ?_
                    refine aw_get fX9_113 dX9_shelves_242 f3380 rfl ?_
                    refine aw_bipush (9) dX9_shelves_245 (by decide) ?_
                    refine aw_iload_n 3 dX9_shelves_247 rfl rfl ?_
                    refine aw_imul dX9_shelves_248 ?_
                    refine aw_toe (nI (9 * p)) (nv_mul (rfl) (rfl)) ?_
                    refine aw_iload 2 dX9_shelves_249 rfl ?_
                    refine aw_iadd dX9_shelves_251 ?_
                    refine aw_iconst (1) dX9_shelves_252 (by decide) ?_
                    refine aw_iadd dX9_shelves_253 ?_
                    refine aw_toe (nI (9 * p)) (nI_mp) ?_
                    refine aw_iald (9 * p) (rfl) (by omega) (by decide) dX9_shelves_254 f3386 ?_
                    refine aw_toe (nI (RS st so xx yy tr tg1 sh1 nv p 0)) (hR1 p 0 (Nat.zero_le _) (by omega) (by omega)) ?_
                    refine aw_icmp_eq 264 dX9_shelves_255 (by decide) (fun c255 => ?_) (fun c255 => ?_)
                    · have d255 := (nv_eq (a := (wnF st so xx yy tr tg1 sh1 p 0 k nv) + (RS st so xx yy tr tg1 sh1 nv (p ||| 2 ^ k) (k + 1))) (b := (RS st so xx yy tr tg1 sh1 nv p 0)) (rfl) (rfl) (by omega) (by omega)).mp c255
                      refine aw_aload_n 5 dX9_shelves_264 rfl rfl ?_
                      refine aw_get fX9_116 dX9_shelves_265 f3380 rfl ?_
                      refine aw_iload 1 dX9_shelves_268 rfl ?_
                      refine aw_aload_n 5 dX9_shelves_270 rfl rfl ?_
                      refine aw_get fX9_110 dX9_shelves_271 f3380 rfl ?_
                      refine aw_iload 0 dX9_shelves_274 rfl ?_
                      refine aw_iald k (rfl) (by omega) (by decide) dX9_shelves_276 f3385 ?_
                      refine aw_toe (nI (tg1 k)) (rfl) ?_
                      have b3391 := htg1 k (by omega)
                      refine aw_iast n (rfl) (by omega) (by decide) dX9_shelves_277 f3387 ?_
                      refine aw_iload_n 3 dX9_shelves_278 rfl rfl ?_
                      refine aw_iconst (1) dX9_shelves_279 (by decide) ?_
                      refine aw_iload 0 dX9_shelves_280 rfl ?_
                      refine aw_ishl dX9_shelves_282 ?_
                      refine aw_toe (nI (2 ^ k)) (nv_shl1 (rfl) (by omega)) ?_
                      refine aw_ior dX9_shelves_283 ?_
                      refine aw_toe (nI (p ||| (2 ^ k))) (nv_or (rfl) (rfl)) ?_
                      refine aw_istore_n [(3, .int (nI (p ||| (2 ^ k)))), (6, .int (nI k)), (5, .int (nI n)), (4, .int (-1)), (1, .int (nI st)), (0, .ref (G.1 + 88))] dX9_shelves_284 rfl (by decide) rfl ?_
                      refine aw_iload 1 dX9_shelves_285 rfl ?_
                      refine aw_istore [(4, .int (nI k)), (3, .int (nI (p ||| (2 ^ k)))), (6, .int (nI k)), (5, .int (nI n)), (1, .int (nI st)), (0, .ref (G.1 + 88))] dX9_shelves_287 (by decide) rfl ?_
                      refine aw_iinc (j := 3) (nI (n + 1)) [(5, .int (nI (n + 1))), (4, .int (nI k)), (3, .int (nI (p ||| (2 ^ k)))), (6, .int (nI k)), (1, .int (nI st)), (0, .ref (G.1 + 88))] dX9_shelves_289 rfl (nv_inc (rfl)) (by decide) rfl ?_
                      refine aw_goto 189 dX9_shelves_292 (by decide) ?_
                      refine aw_lv [(5, .int (nI (n + 1))), (4, .int (nI k)), (3, .int (nI (p ||| (2 ^ k)))), (1, .int (nI st)), (0, .ref (G.1 + 88))] [0, 1, 2, 4, 5] rfl ?_
                      exact ih3389 (n + 1) (k + 1) (nI k) (p ||| (2 ^ k)) (upd rw1 n (nI (tg1 k))) _ (by omega) (by omega) (by omega) (Or.inr ⟨k, rfl, rfl⟩) (or_ps hp5 (by omega)) (by rw [pop_or0 p (by omega) k (by omega) t208, hpn]) (by simp only [rwF]; rw [← hq5]; dsimp only; rw [fsF_is (k := k) t208 d255 sh1 0 hfs (Nat.zero_le _) (by omega)]) (gn (by decide) (f3380)) (gn (by decide) (f3381)) (gn (by decide) (f3382)) (gn (by decide) (f3383)) (gn (by decide) (f3384)) (gn (by decide) (f3385)) (gn (by decide) (f3386)) (gs f3387) (rg2_set (k3388) (by decide))
                    · have d255 := mt (nv_eq (a := (wnF st so xx yy tr tg1 sh1 p 0 k nv) + (RS st so xx yy tr tg1 sh1 nv (p ||| 2 ^ k) (k + 1))) (b := (RS st so xx yy tr tg1 sh1 nv p 0)) (rfl) (rfl) (by omega) (by omega)).mpr c255
                      refine aw_iinc (j := 0) (nI (k + 1)) [(6, .int (nI (k + 1))), (5, .int (nI n)), (4, .int (-1)), (3, .int (nI p)), (1, .int (nI st)), (0, .ref (G.1 + 88))] dX9_shelves_258 rfl (nv_inc (rfl)) (by decide) rfl ?_
                      refine aw_goto 201 dX9_shelves_261 (by decide) ?_
                      refine aw_lv [(6, .int (nI (k + 1))), (5, .int (nI n)), (4, .int (-1)), (3, .int (nI p)), (1, .int (nI st)), (0, .ref (G.1 + 88))] [0, 1, 2, 3, 4, 5] rfl ?_
                      exact ih3390 (k + 1) (by omega) (Nat.lt_of_le_of_ne hk6 (fun e => d255 (by rw [e]; exact ek0))) (fst_s hfs (Or.inr d255))
            · refine aw_iload 0 dX9_shelves_189 rfl ?_
              refine aw_aload_n 4 dX9_shelves_191 rfl rfl ?_
              refine aw_get fX9_233 dX9_shelves_192 f3380 rfl ?_
              refine aw_icmp_ge 295 dX9_shelves_195 (by decide) (fun c195 => ?_) (fun c195 => ?_)
              · have d195 := (nv_le (a := sh1) (b := n) (rfl) (rfl) (by omega) (by omega)).mp c195
                refine aw_aload_n 4 dX9_shelves_295 rfl rfl ?_
                refine aw_get fX9_113 dX9_shelves_296 f3380 rfl ?_
                refine aw_iconst (0) dX9_shelves_299 (by decide) ?_
                refine aw_iald 0 (rfl) (by decide) (by decide) dX9_shelves_300 f3386 ?_
                refine aw_toe (nI (RS st so xx yy tr tg1 sh1 nv 0 0)) (hR1 0 0 (Nat.zero_le _) (by omega) (Nat.zero_le _)) ?_
                subst hQF
                exact aw_iret rfl dX9_shelves_301 (by decide) (by decide) ⟨by rw [← hT], _, _, _, _, f3380, f3385, f3386, f3387, k3388, hT, by have e := hq5; rw [show n = sh1 by omega] at e; rw [← e]⟩
              · have d195 := mt (nv_le (a := sh1) (b := n) (rfl) (rfl) (by omega) (by omega)).mpr c195
                have hpa : p < 2 ^ sh1 - 1 := by
                  rcases Nat.lt_or_ge p (2 ^ sh1 - 1) with q | q
                  · exact q
                  · exfalso; have e := pop_all0 sh1 (by omega); rw [show 2 ^ sh1 - 1 = p by omega] at e; omega
                obtain ⟨k0, bk0, tk0, ek0⟩ := RS_at (st := st) (so := so) (xx := xx) (yy := yy) (tr := tr) (tg := tg1) (nv := nv) (L := la + 1) hsh1 hpa
                refine aw_iconst (0) dX9_shelves_198 (by decide) ?_
                refine aw_istore [(6, .int 0), (5, .int (nI n)), (4, .int (nI la)), (3, .int (nI p)), (1, .int (nI st)), (0, .ref (G.1 + 88))] dX9_shelves_199 (by decide) rfl ?_
                refine aw_lv [(6, .int 0), (5, .int (nI n)), (4, .int (nI la)), (3, .int (nI p)), (1, .int (nI st)), (0, .ref (G.1 + 88))] [0, 1, 2, 3, 4, 5] rfl ?_
                suffices L3392 : ∀ (mm : Nat) (k : Nat), sh1 - k < mm → (k ≤ k0) → (∀ j, 0 ≤ j → j < k → p.testBit j = true ∨ vS st so xx yy tr tg1 sh1 nv p (la + 1) j ≠ (RS st so xx yy tr tg1 sh1 nv p (la + 1))) → AW l G yX9_shelves cX9_shelves 7 (some .int) (xR 2 0 0) (fun _ _ => True) QF 0 0 201 [(6, .int (nI k)), (5, .int (nI n)), (4, .int (nI la)), (3, .int (nI p)), (1, .int (nI st)), (0, .ref (G.1 + 88))] [] h3379 from L3392 (sh1 - 0 + 1) 0 (Nat.lt_succ_self _) (Nat.zero_le _) (fun j _ hj => absurd hj (by omega))
                intro mm
                induction mm with
                | zero =>
                  intro k hmm hk6 hfs
                  exact absurd hmm (Nat.not_lt_zero _)
                | succ mm ih3392 =>
                  intro k hmm hk6 hfs
                  refine aw_iload_n 3 dX9_shelves_201 rfl rfl ?_
                  refine aw_iload 0 dX9_shelves_202 rfl ?_
                  refine aw_ishr dX9_shelves_204 ?_
                  refine aw_iconst (1) dX9_shelves_205 (by decide) ?_
                  refine aw_iand dX9_shelves_206 ?_
                  refine aw_toe (if p.testBit k = true then 1 else 0) (nv_bit (rfl) (rfl) (by omega) (by omega)) ?_
                  refine aw_iconst (1) dX9_shelves_207 (by decide) ?_
                  refine aw_icmp_eq 258 dX9_shelves_208 (by decide) (fun c208 => ?_) (fun c208 => ?_)
                  · have t208 := ite_1e c208
                    refine aw_iinc (j := 0) (nI (k + 1)) [(6, .int (nI (k + 1))), (5, .int (nI n)), (4, .int (nI la)), (3, .int (nI p)), (1, .int (nI st)), (0, .ref (G.1 + 88))] dX9_shelves_258 rfl (nv_inc (rfl)) (by decide) rfl ?_
                    refine aw_goto 201 dX9_shelves_261 (by decide) ?_
                    refine aw_lv [(6, .int (nI (k + 1))), (5, .int (nI n)), (4, .int (nI la)), (3, .int (nI p)), (1, .int (nI st)), (0, .ref (G.1 + 88))] [0, 1, 2, 3, 4, 5] rfl ?_
                    exact ih3392 (k + 1) (by omega) (Nat.lt_of_le_of_ne hk6 (fun e => tk0 (by rw [← e]; exact t208))) (fst_s hfs (Or.inl t208))
                  · have t208 := ite_0e c208
                    have bor := or_gt t208
                    have bop := or_ps (k := k) hp5 (by omega)
                    have b7 := wnF_le (st := st) (so := so) (xx := xx) (yy := yy) (tg := tg1) (sh := sh1) (p := p) (L := la + 1) (nx := k) btr nv hnv
                    have b6 := RS_le (st := st) (so := so) (xx := xx) (yy := yy) (tg := tg1) (sh := sh1) (p := p ||| 2 ^ k) (L := k + 1) btr hnv
                    have b5 := RS_le (st := st) (so := so) (xx := xx) (yy := yy) (tg := tg1) (sh := sh1) (p := p) (L := la + 1) btr hnv
                    refine aw_aload_n 5 dX9_shelves_211 rfl rfl ?_
                    refine aw_iload_n 4 dX9_shelves_212 rfl rfl ?_
                    refine aw_iload_n 3 dX9_shelves_213 rfl rfl ?_
                    refine aw_iload 2 dX9_shelves_214 rfl ?_
                    refine aw_iload 0 dX9_shelves_216 rfl ?_
                    refine aw_dV [.int (nI st), .int (nI p), .int (nI la), .int (nI k)] [] lX9_236 vX9_wins mX9_wins dX9_shelves_218 (bX9_winsL (sp := sp) (fa := fa) (nb := nb) (ns := ns) (nm := nm) (nv := nv) (sh := sh1) (ho := ho) (ow := ow) (sl := sl) (so := so) (xx := xx) (tr := tr) (tg := tg1) (yM := yM) (st := st) (p := p) (nx := k) (la := la) f3380 f3381 f3382 f3383 f3384 f3385 htg1 hsh1 (by omega) bso bxx byy btr hyM (by omega) (by omega) (by omega) (by omega)) f3380 rfl rfl rfl (Nat.le_of_ble_eq_true rfl) (by decide) (by decide) rfl ?_
                    refine aw_aload_n 5 dX9_shelves_221 rfl rfl ?_
                    refine aw_get fX9_113 dX9_shelves_222 f3380 rfl ?_
                    refine aw_bipush (9) dX9_shelves_225 (by decide) ?_
                    refine aw_iload_n 3 dX9_shelves_227 rfl rfl ?_
                    refine aw_iconst (1) dX9_shelves_228 (by decide) ?_
                    refine aw_iload 0 dX9_shelves_229 rfl ?_
                    refine aw_ishl dX9_shelves_231 ?_
                    refine aw_toe (nI (2 ^ k)) (nv_shl1 (rfl) (by omega)) ?_
                    refine aw_ior dX9_shelves_232 ?_
                    refine aw_toe (nI (p ||| (2 ^ k))) (nv_or (rfl) (rfl)) ?_
                    refine aw_imul dX9_shelves_233 ?_
                    refine aw_toe (nI (9 * (p ||| (2 ^ k)))) (nv_mul (rfl) (rfl)) ?_
                    refine aw_iload 0 dX9_shelves_234 rfl ?_
                    refine aw_iadd dX9_shelves_236 ?_
                    refine aw_toe (nI ((9 * (p ||| (2 ^ k))) + k)) (nv_add (rfl) (rfl)) ?_
                    refine aw_iconst (1) dX9_shelves_237 (by decide) ?_
                    refine aw_iadd dX9_shelves_238 ?_
                    refine aw_toe (nI (((9 * (p ||| (2 ^ k))) + k) + 1)) (nv_add (rfl) (rfl)) ?_
                    refine aw_iald (((9 * (p ||| (2 ^ k))) + k) + 1) (rfl) (by omega) (by decide) dX9_shelves_239 f3386 ?_
                    refine aw_toe (nI (RS st so xx yy tr tg1 sh1 nv (p ||| 2 ^ k) (k + 1))) (hR1 _ (k + 1) (Nat.zero_le _) (by omega) (by omega)) ?_
                    refine aw_iadd dX9_shelves_240 ?_
                    refine aw_toe (nI ((wnF st so xx yy tr tg1 sh1 p (la + 1) k nv) + (RS st so xx yy tr tg1 sh1 nv (p ||| 2 ^ k) (k + 1)))) (nv_add (rfl) (rfl)) ?_
                    refine aw_aload_n 5 dX9_shelves_241 rfl rfl ?_
                    refine aw_get fX9_113 dX9_shelves_242 f3380 rfl ?_
                    refine aw_bipush (9) dX9_shelves_245 (by decide) ?_
                    refine aw_iload_n 3 dX9_shelves_247 rfl rfl ?_
                    refine aw_imul dX9_shelves_248 ?_
                    refine aw_toe (nI (9 * p)) (nv_mul (rfl) (rfl)) ?_
                    refine aw_iload 2 dX9_shelves_249 rfl ?_
                    refine aw_iadd dX9_shelves_251 ?_
                    refine aw_toe (nI ((9 * p) + la)) (nv_add (rfl) (rfl)) ?_
                    refine aw_iconst (1) dX9_shelves_252 (by decide) ?_
                    refine aw_iadd dX9_shelves_253 ?_
                    refine aw_toe (nI (((9 * p) + la) + 1)) (nv_add (rfl) (rfl)) ?_
                    refine aw_iald (((9 * p) + la) + 1) (rfl) (by omega) (by decide) dX9_shelves_254 f3386 ?_
                    refine aw_toe (nI (RS st so xx yy tr tg1 sh1 nv p (la + 1))) (hR1 p (la + 1) (Nat.zero_le _) (by omega) (by omega)) ?_
                    refine aw_icmp_eq 264 dX9_shelves_255 (by decide) (fun c255 => ?_) (fun c255 => ?_)
                    · have d255 := (nv_eq (a := (wnF st so xx yy tr tg1 sh1 p (la + 1) k nv) + (RS st so xx yy tr tg1 sh1 nv (p ||| 2 ^ k) (k + 1))) (b := (RS st so xx yy tr tg1 sh1 nv p (la + 1))) (rfl) (rfl) (by omega) (by omega)).mp c255
                      refine aw_aload_n 5 dX9_shelves_264 rfl rfl ?_
                      refine aw_get fX9_116 dX9_shelves_265 f3380 rfl ?_
                      refine aw_iload 1 dX9_shelves_268 rfl ?_
                      refine aw_aload_n 5 dX9_shelves_270 rfl rfl ?_
                      refine aw_get fX9_110 dX9_shelves_271 f3380 rfl ?_
                      refine aw_iload 0 dX9_shelves_274 rfl ?_
                      refine aw_iald k (rfl) (by omega) (by decide) dX9_shelves_276 f3385 ?_
                      refine aw_toe (nI (tg1 k)) (rfl) ?_
                      have b3393 := htg1 k (by omega)
                      refine aw_iast n (rfl) (by omega) (by decide) dX9_shelves_277 f3387 ?_
                      refine aw_iload_n 3 dX9_shelves_278 rfl rfl ?_
                      refine aw_iconst (1) dX9_shelves_279 (by decide) ?_
                      refine aw_iload 0 dX9_shelves_280 rfl ?_
                      refine aw_ishl dX9_shelves_282 ?_
                      refine aw_toe (nI (2 ^ k)) (nv_shl1 (rfl) (by omega)) ?_
                      refine aw_ior dX9_shelves_283 ?_
                      refine aw_toe (nI (p ||| (2 ^ k))) (nv_or (rfl) (rfl)) ?_
                      refine aw_istore_n [(3, .int (nI (p ||| (2 ^ k)))), (6, .int (nI k)), (5, .int (nI n)), (4, .int (nI la)), (1, .int (nI st)), (0, .ref (G.1 + 88))] dX9_shelves_284 rfl (by decide) rfl ?_
                      refine aw_iload 1 dX9_shelves_285 rfl ?_
                      refine aw_istore [(4, .int (nI k)), (3, .int (nI (p ||| (2 ^ k)))), (6, .int (nI k)), (5, .int (nI n)), (1, .int (nI st)), (0, .ref (G.1 + 88))] dX9_shelves_287 (by decide) rfl ?_
                      refine aw_iinc (j := 3) (nI (n + 1)) [(5, .int (nI (n + 1))), (4, .int (nI k)), (3, .int (nI (p ||| (2 ^ k)))), (6, .int (nI k)), (1, .int (nI st)), (0, .ref (G.1 + 88))] dX9_shelves_289 rfl (nv_inc (rfl)) (by decide) rfl ?_
                      refine aw_goto 189 dX9_shelves_292 (by decide) ?_
                      refine aw_lv [(5, .int (nI (n + 1))), (4, .int (nI k)), (3, .int (nI (p ||| (2 ^ k)))), (1, .int (nI st)), (0, .ref (G.1 + 88))] [0, 1, 2, 4, 5] rfl ?_
                      exact ih3389 (n + 1) (k + 1) (nI k) (p ||| (2 ^ k)) (upd rw1 n (nI (tg1 k))) _ (by omega) (by omega) (by omega) (Or.inr ⟨k, rfl, rfl⟩) (or_ps hp5 (by omega)) (by rw [pop_or0 p (by omega) k (by omega) t208, hpn]) (by simp only [rwF]; rw [← hq5]; dsimp only; rw [fsF_is (k := k) t208 d255 sh1 0 hfs (Nat.zero_le _) (by omega)]) (gn (by decide) (f3380)) (gn (by decide) (f3381)) (gn (by decide) (f3382)) (gn (by decide) (f3383)) (gn (by decide) (f3384)) (gn (by decide) (f3385)) (gn (by decide) (f3386)) (gs f3387) (rg2_set (k3388) (by decide))
                    · have d255 := mt (nv_eq (a := (wnF st so xx yy tr tg1 sh1 p (la + 1) k nv) + (RS st so xx yy tr tg1 sh1 nv (p ||| 2 ^ k) (k + 1))) (b := (RS st so xx yy tr tg1 sh1 nv p (la + 1))) (rfl) (rfl) (by omega) (by omega)).mpr c255
                      refine aw_iinc (j := 0) (nI (k + 1)) [(6, .int (nI (k + 1))), (5, .int (nI n)), (4, .int (nI la)), (3, .int (nI p)), (1, .int (nI st)), (0, .ref (G.1 + 88))] dX9_shelves_258 rfl (nv_inc (rfl)) (by decide) rfl ?_
                      refine aw_goto 201 dX9_shelves_261 (by decide) ?_
                      refine aw_lv [(6, .int (nI (k + 1))), (5, .int (nI n)), (4, .int (nI la)), (3, .int (nI p)), (1, .int (nI st)), (0, .ref (G.1 + 88))] [0, 1, 2, 3, 4, 5] rfl ?_
                      exact ih3392 (k + 1) (by omega) (Nat.lt_of_le_of_ne hk6 (fun e => d255 (by rw [e]; exact ek0))) (fst_s hfs (Or.inr d255))
        · refine aw_iload_n 0 dX9_shelves_61 rfl rfl ?_
          refine aw_if_lt 181 dX9_shelves_62 (by decide) (fun c62 => absurd c62 (by simp only [i_lt, (nI_toInt (n := p) (by omega)), (show (0 : Int32).toInt = 0 from rfl)] <;> omega)) (fun c62 => ?_)
          refine aw_iconst (-1) dX9_shelves_65 (by decide) ?_
          refine aw_istore [(4, .int (-1)), (3, .int (nI p)), (2, .int (nI (2 ^ sh1 - 1))), (1, .int (nI st)), (0, .ref (G.1 + 88))] dX9_shelves_66 (by decide) rfl ?_
          refine aw_lv [(4, .int (-1)), (3, .int (nI p)), (2, .int (nI (2 ^ sh1 - 1))), (1, .int (nI st)), (0, .ref (G.1 + 88))] [0, 1, 2, 3, 4] rfl ?_
          suffices L3404 : ∀ (mm : Nat) (L : Nat) (lvv : Int32) (rs2 : Nat → Int32) (h3394 : List va_E), sh1 + 1 - L < mm → (L ≤ sh1 + 1) → ((L = 0 ∧ lvv = -1) ∨ ∃ la, L = la + 1 ∧ lvv = nI la) → (∀ q M, ((p < q ∧ q < 2 ^ sh1) ∨ (q = p ∧ M < L)) → M ≤ sh1 → rs2 (9 * q + M) = nI (RS st so xx yy tr tg1 sh1 nv q M)) → h3394[88]? = some (oB 9 (lM G (nI sp) (nI fa) (nI nb) (nI ns) (nI nm) ho ow sl (nI nv) (nI sh1))) → h3394[116]? = some (aI 40 (nA so)) → h3394[117]? = some (aI 40 (nA xx)) → h3394[118]? = some (aI 40 yM) → h3394[119]? = some (aI 40 (nA tr)) → h3394[120]? = some (aI 8 (nA tg1)) → h3394[121]? = some (aI 2304 rs2) → h3394[122]? = some (aI 8 rw) → rg2 88 88 120 122 h h3394 → AW l G yX9_shelves cX9_shelves 7 (some .int) (xR 2 0 0) (fun _ _ => True) QF 0 0 68 [(4, .int lvv), (3, .int (nI p)), (2, .int (nI (2 ^ sh1 - 1))), (1, .int (nI st)), (0, .ref (G.1 + 88))] [] h3394 from L3404 (sh1 + 1 - 0 + 1) 0 (-1) rs1 _ (Nat.lt_succ_self _) (Nat.zero_le _) (Or.inl ⟨rfl, rfl⟩) (fun q M h1 h2 => hR1 q M (by omega) (by omega) h2) f3369 f3370 f3371 f3372 f3373 f3374 f3375 f3376 (k3377)
          intro mm
          induction mm with
          | zero =>
            intro L lvv rs2 h3394 hmm hL hl3 hR2 f3395 f3396 f3397 f3398 f3399 f3400 f3401 f3402 k3403
            exact absurd hmm (Nat.not_lt_zero _)
          | succ mm ih3404 =>
            intro L lvv rs2 h3394 hmm hL hl3 hR2 f3395 f3396 f3397 f3398 f3399 f3400 f3401 f3402 k3403
            rcases hl3 with ⟨rfl, rfl⟩ | ⟨la, rfl, rfl⟩
            · refine aw_iload 0 dX9_shelves_68 rfl ?_
              refine aw_aload_n 4 dX9_shelves_70 rfl rfl ?_
              refine aw_get fX9_233 dX9_shelves_71 f3395 rfl ?_
              refine aw_icmp_ge 175 dX9_shelves_74 (by decide) (fun c74 => ?_) (fun c74 => ?_)
              · have d74 := (j_le (a := ((sh1 : Nat) : Int)) (b := (-1)) (i_toNat (rfl) (by omega)) (rfl)).mp c74
                refine aw_iinc (j := 1) ((nI p) + (-1)) [(3, .int ((nI p) + (-1))), (4, .int (-1)), (2, .int (nI (2 ^ sh1 - 1))), (1, .int (nI st)), (0, .ref (G.1 + 88))] dX9_shelves_175 rfl (by rfl) (by decide) rfl ?_
                refine aw_goto 61 dX9_shelves_178 (by decide) ?_
                refine aw_lv [(3, .int ((nI p) + (-1))), (2, .int (nI (2 ^ sh1 - 1))), (1, .int (nI st)), (0, .ref (G.1 + 88))] [0, 2, 3, 4] rfl ?_
                exact ih3378 p ((nI p) + (-1)) rs2 _ (by omega) (dec_m (n := 2 ^ sh1) (by omega)) (fun q M h1 h2 h3 => hR2 q M (by omega) h3) f3395 f3396 f3397 f3398 f3399 f3400 f3401 f3402 (k3403)
              · have d74 := mt (j_le (a := ((sh1 : Nat) : Int)) (b := (-1)) (i_toNat (rfl) (by omega)) (rfl)).mpr c74
                refine aw_iload_n 1 dX9_shelves_77 rfl rfl ?_
                refine aw_iload_n 2 dX9_shelves_78 rfl rfl ?_
                refine aw_icmp_ne 86 dX9_shelves_79 (by decide) (fun c79 => ?_) (fun c79 => ?_)
                · have d79 := mt (nv_eq (a := p) (b := 2 ^ sh1 - 1) (rfl) (rfl) (by omega) (by omega)).mpr c79
                  refine aw_iconst (-1) dX9_shelves_86 (by decide) ?_
                  refine aw_istore [(5, .int (-1)), (4, .int (-1)), (3, .int (nI p)), (2, .int (nI (2 ^ sh1 - 1))), (1, .int (nI st)), (0, .ref (G.1 + 88))] dX9_shelves_87 (by decide) rfl ?_
                  refine aw_iconst (0) dX9_shelves_89 (by decide) ?_
                  refine aw_istore [(6, .int 0), (5, .int (-1)), (4, .int (-1)), (3, .int (nI p)), (2, .int (nI (2 ^ sh1 - 1))), (1, .int (nI st)), (0, .ref (G.1 + 88))] dX9_shelves_90 (by decide) rfl ?_
                  refine aw_lv [(6, .int 0), (5, .int (-1)), (4, .int (-1)), (3, .int (nI p)), (2, .int (nI (2 ^ sh1 - 1))), (1, .int (nI st)), (0, .ref (G.1 + 88))] [0, 1, 2, 3, 4, 5, 6] rfl ?_
                  suffices L3405 : ∀ (mm : Nat) (k : Nat) (bv : Int32) (mv : Nat), sh1 - k < mm → (k ≤ sh1) → ((bv = -1 ∧ ∀ j, j < k → p.testBit j = true) ∨ (bv = nI mv ∧ ∃ j, j < k ∧ ¬ p.testBit j = true)) → (mv = mxF (vS st so xx yy tr tg1 sh1 nv p 0) p k) → AW l G yX9_shelves cX9_shelves 7 (some .int) (xR 2 0 0) (fun _ _ => True) QF 0 0 92 [(6, .int (nI k)), (5, .int bv), (4, .int (-1)), (3, .int (nI p)), (2, .int (nI (2 ^ sh1 - 1))), (1, .int (nI st)), (0, .ref (G.1 + 88))] [] h3394 from L3405 (sh1 - 0 + 1) 0 (-1) 0 (Nat.lt_succ_self _) (Nat.zero_le _) (Or.inl ⟨rfl, fun j hj => absurd hj (by omega)⟩) (rfl)
                  intro mm
                  induction mm with
                  | zero =>
                    intro k bv mv hmm hk hb hm
                    exact absurd hmm (Nat.not_lt_zero _)
                  | succ mm ih3405 =>
                    intro k bv mv hmm hk hb hm
                    have b8 : mv ≤ 92520 := by rw [hm]; exact mxF_le (vS_le btr hnv) k
                    rcases hb with ⟨rfl, hall⟩ | ⟨rfl, hex⟩
                    · refine aw_iload 0 dX9_shelves_92 rfl ?_
                      refine aw_aload_n 6 dX9_shelves_94 rfl rfl ?_
                      refine aw_get fX9_233 dX9_shelves_95 f3395 rfl ?_
                      refine aw_icmp_ge 153 dX9_shelves_98 (by decide) (fun c98 => ?_) (fun c98 => ?_)
                      · have d98 := (nv_le (a := sh1) (b := k) (rfl) (rfl) (by omega) (by omega)).mp c98
                        exact absurd (ex_clr (s := sh1) (p := p) hsh1 (by omega)) (fun ⟨j, q1, q2⟩ => q2 (hall j (by omega)))
                      · have d98 := mt (nv_le (a := sh1) (b := k) (rfl) (rfl) (by omega) (by omega)).mpr c98
                        refine aw_iload_n 3 dX9_shelves_101 rfl rfl ?_
                        refine aw_iload 0 dX9_shelves_102 rfl ?_
                        refine aw_ishr dX9_shelves_104 ?_
                        refine aw_iconst (1) dX9_shelves_105 (by decide) ?_
                        refine aw_iand dX9_shelves_106 ?_
                        refine aw_toe (if p.testBit k = true then 1 else 0) (nv_bit (rfl) (rfl) (by omega) (by omega)) ?_
                        refine aw_if_ne 147 dX9_shelves_107 (by decide) (fun c107 => ?_) (fun c107 => ?_)
                        · have t107 := ite_1 c107
                          refine aw_iinc (j := 0) (nI (k + 1)) [(6, .int (nI (k + 1))), (5, .int (-1)), (4, .int (-1)), (3, .int (nI p)), (2, .int (nI (2 ^ sh1 - 1))), (1, .int (nI st)), (0, .ref (G.1 + 88))] dX9_shelves_147 rfl (nv_inc (rfl)) (by decide) rfl ?_
                          refine aw_goto 92 dX9_shelves_150 (by decide) ?_
                          refine aw_lv [(6, .int (nI (k + 1))), (5, .int (-1)), (4, .int (-1)), (3, .int (nI p)), (2, .int (nI (2 ^ sh1 - 1))), (1, .int (nI st)), (0, .ref (G.1 + 88))] [0, 1, 2, 3, 4, 5, 6] rfl ?_
                          exact ih3405 (k + 1) (-1) mv (by omega) (by omega) (Or.inl ⟨rfl, allb_s hall t107⟩) (by simp only [mxF]; rw [if_pos t107]; exact hm)
                        · have t107 := ite_0 c107
                          have bor := or_gt t107
                          have bop := or_ps (k := k) hp (by omega)
                          have b7 := wnF_le (st := st) (so := so) (xx := xx) (yy := yy) (tg := tg1) (sh := sh1) (p := p) (L := 0) (nx := k) btr nv hnv
                          have b6 := RS_le (st := st) (so := so) (xx := xx) (yy := yy) (tg := tg1) (sh := sh1) (p := p ||| 2 ^ k) (L := k + 1) btr hnv
                          refine aw_iload 1 dX9_shelves_110 rfl ?_
                          refine aw_aload_n 6 dX9_shelves_112 rfl rfl ?_
                          refine aw_iload_n 5 dX9_shelves_113 rfl rfl ?_
                          refine aw_iload_n 3 dX9_shelves_114 rfl rfl ?_
                          refine aw_iload 2 dX9_shelves_115 rfl ?_
                          refine aw_iload 0 dX9_shelves_117 rfl ?_
                          refine aw_dV [.int (nI st), .int (nI p), .int (-1), .int (nI k)] [.int (-1)] lX9_236 vX9_wins mX9_wins dX9_shelves_119 (bX9_wins0 (sp := sp) (fa := fa) (nb := nb) (ns := ns) (nm := nm) (nv := nv) (sh := sh1) (ho := ho) (ow := ow) (sl := sl) (so := so) (xx := xx) (tr := tr) (tg := tg1) (yM := yM) (st := st) (p := p) (nx := k) f3395 f3396 f3397 f3398 f3399 f3400 htg1 hsh1 (by omega) bso bxx byy btr hyM (by omega) (by omega) (by omega)) f3395 rfl rfl rfl (Nat.le_of_ble_eq_true rfl) (by decide) (by decide) rfl ?_
                          refine aw_aload_n 6 dX9_shelves_122 rfl rfl ?_
                          refine aw_get fX9_113 dX9_shelves_123 f3395 rfl ?_
                          refine aw_bipush (9) dX9_shelves_126 (by decide) ?_
                          refine aw_iload_n 3 dX9_shelves_128 rfl rfl ?_
                          refine aw_iconst (1) dX9_shelves_129 (by decide) ?_
                          refine aw_iload 0 dX9_shelves_130 rfl ?_
                          refine aw_ishl dX9_shelves_132 ?_
                          refine aw_toe (nI (2 ^ k)) (nv_shl1 (rfl) (by omega)) ?_
                          refine aw_ior dX9_shelves_133 ?_
                          refine aw_toe (nI (p ||| (2 ^ k))) (nv_or (rfl) (rfl)) ?_
                          refine aw_imul dX9_shelves_134 ?_
                          refine aw_toe (nI (9 * (p ||| (2 ^ k)))) (nv_mul (rfl) (rfl)) ?_
                          refine aw_iload 0 dX9_shelves_135 rfl ?_
                          refine aw_iadd dX9_shelves_137 ?_
                          refine aw_toe (nI ((9 * (p ||| (2 ^ k))) + k)) (nv_add (rfl) (rfl)) ?_
                          refine aw_iconst (1) dX9_shelves_138 (by decide) ?_
                          refine aw_iadd dX9_shelves_139 ?_
                          refine aw_toe (nI (((9 * (p ||| (2 ^ k))) + k) + 1)) (nv_add (rfl) (rfl)) ?_
                          refine aw_iald (((9 * (p ||| (2 ^ k))) + k) + 1) (rfl) (by omega) (by decide) dX9_shelves_140 f3401 ?_
                          refine aw_toe (nI (RS st so xx yy tr tg1 sh1 nv (p ||| 2 ^ k) (k + 1))) (hR2 _ (k + 1) (by omega) (by omega)) ?_
                          refine aw_iadd dX9_shelves_141 ?_
                          refine aw_toe (nI ((wnF st so xx yy tr tg1 sh1 p 0 k nv) + (RS st so xx yy tr tg1 sh1 nv (p ||| 2 ^ k) (k + 1)))) (nv_add (rfl) (rfl)) ?_
                          refine aw_mmax lX9_162 dX9_shelves_142 (Nat.le_of_ble_eq_true rfl) (by decide) (by decide) ?_
                          refine aw_toe (nI ((wnF st so xx yy tr tg1 sh1 p 0 k nv) + (RS st so xx yy tr tg1 sh1 nv (p ||| 2 ^ k) (k + 1)))) (mx_neg (by omega)) ?_
                          refine aw_istore [(5, .int (nI ((wnF st so xx yy tr tg1 sh1 p 0 k nv) + (RS st so xx yy tr tg1 sh1 nv (p ||| 2 ^ k) (k + 1))))), (6, .int (nI k)), (4, .int (-1)), (3, .int (nI p)), (2, .int (nI (2 ^ sh1 - 1))), (1, .int (nI st)), (0, .ref (G.1 + 88))] dX9_shelves_145 (by decide) rfl ?_
                          refine aw_iinc (j := 1) (nI (k + 1)) [(6, .int (nI (k + 1))), (5, .int (nI ((wnF st so xx yy tr tg1 sh1 p 0 k nv) + (RS st so xx yy tr tg1 sh1 nv (p ||| 2 ^ k) (k + 1))))), (4, .int (-1)), (3, .int (nI p)), (2, .int (nI (2 ^ sh1 - 1))), (1, .int (nI st)), (0, .ref (G.1 + 88))] dX9_shelves_147 rfl (nv_inc (rfl)) (by decide) rfl ?_
                          refine aw_goto 92 dX9_shelves_150 (by decide) ?_
                          refine aw_lv [(6, .int (nI (k + 1))), (5, .int (nI ((wnF st so xx yy tr tg1 sh1 p 0 k nv) + (RS st so xx yy tr tg1 sh1 nv (p ||| 2 ^ k) (k + 1))))), (4, .int (-1)), (3, .int (nI p)), (2, .int (nI (2 ^ sh1 - 1))), (1, .int (nI st)), (0, .ref (G.1 + 88))] [0, 1, 2, 3, 4, 5, 6] rfl ?_
                          exact ih3405 (k + 1) (nI ((wnF st so xx yy tr tg1 sh1 p 0 k nv) + (RS st so xx yy tr tg1 sh1 nv (p ||| 2 ^ k) (k + 1)))) ((wnF st so xx yy tr tg1 sh1 p 0 k nv) + (RS st so xx yy tr tg1 sh1 nv (p ||| 2 ^ k) (k + 1))) (by omega) (by omega) (Or.inr ⟨rfl, k, by omega, t107⟩) (by simp only [mxF]; rw [if_neg t107, mxF_0 k hall]; exact (Nat.zero_max _).symm)
                    · refine aw_iload 0 dX9_shelves_92 rfl ?_
                      refine aw_aload_n 6 dX9_shelves_94 rfl rfl ?_
                      refine aw_get fX9_233 dX9_shelves_95 f3395 rfl ?_
                      refine aw_icmp_ge 153 dX9_shelves_98 (by decide) (fun c98 => ?_) (fun c98 => ?_)
                      · have d98 := (nv_le (a := sh1) (b := k) (rfl) (rfl) (by omega) (by omega)).mp c98
                        refine aw_aload_n 6 dX9_shelves_153 rfl rfl ?_
                        refine aw_get fX9_113 dX9_shelves_154 f3395 rfl ?_
                        refine aw_bipush (9) dX9_shelves_157 (by decide) ?_
                        refine aw_iload_n 3 dX9_shelves_159 rfl rfl ?_
                        refine aw_imul dX9_shelves_160 ?_
                        refine aw_toe (nI (9 * p)) (nv_mul (rfl) (rfl)) ?_
                        refine aw_iload 2 dX9_shelves_161 rfl ?_
                        refine aw_iadd dX9_shelves_163 ?_
                        refine aw_iconst (1) dX9_shelves_164 (by decide) ?_
                        refine aw_iadd dX9_shelves_165 ?_
                        refine aw_toe (nI (9 * p)) (nI_mp) ?_
                        refine aw_iload 1 dX9_shelves_166 rfl ?_
                        refine aw_iast (9 * p) (rfl) (by omega) (by decide) dX9_shelves_168 f3401 ?_
                        refine aw_iinc (j := 2) ((-1) + 1) [(4, .int ((-1) + 1)), (6, .int (nI k)), (5, .int (nI mv)), (3, .int (nI p)), (2, .int (nI (2 ^ sh1 - 1))), (1, .int (nI st)), (0, .ref (G.1 + 88))] dX9_shelves_169 rfl (by rfl) (by decide) rfl ?_
                        refine aw_goto 68 dX9_shelves_172 (by decide) ?_
                        refine aw_lv [(4, .int ((-1) + 1)), (3, .int (nI p)), (2, .int (nI (2 ^ sh1 - 1))), (1, .int (nI st)), (0, .ref (G.1 + 88))] [0, 3, 4, 5, 6] rfl ?_
                        exact ih3404 1 ((-1) + 1) (upd rs2 (9 * p) (nI mv)) _ (by omega) (by omega) (Or.inr ⟨0, rfl, by decide⟩) (rs_up (L := 0) hR2 hsh1 (by omega) (by rw [RS_s hsh1 hp, hm, show k = sh1 by omega])) (gn (by decide) (f3395)) (gn (by decide) (f3396)) (gn (by decide) (f3397)) (gn (by decide) (f3398)) (gn (by decide) (f3399)) (gn (by decide) (f3400)) (gs f3401) (gn (by decide) (f3402)) (rg2_set (k3403) (by decide))
                      · have d98 := mt (nv_le (a := sh1) (b := k) (rfl) (rfl) (by omega) (by omega)).mpr c98
                        refine aw_iload_n 3 dX9_shelves_101 rfl rfl ?_
                        refine aw_iload 0 dX9_shelves_102 rfl ?_
                        refine aw_ishr dX9_shelves_104 ?_
                        refine aw_iconst (1) dX9_shelves_105 (by decide) ?_
                        refine aw_iand dX9_shelves_106 ?_
                        refine aw_toe (if p.testBit k = true then 1 else 0) (nv_bit (rfl) (rfl) (by omega) (by omega)) ?_
                        refine aw_if_ne 147 dX9_shelves_107 (by decide) (fun c107 => ?_) (fun c107 => ?_)
                        · have t107 := ite_1 c107
                          refine aw_iinc (j := 0) (nI (k + 1)) [(6, .int (nI (k + 1))), (5, .int (nI mv)), (4, .int (-1)), (3, .int (nI p)), (2, .int (nI (2 ^ sh1 - 1))), (1, .int (nI st)), (0, .ref (G.1 + 88))] dX9_shelves_147 rfl (nv_inc (rfl)) (by decide) rfl ?_
                          refine aw_goto 92 dX9_shelves_150 (by decide) ?_
                          refine aw_lv [(6, .int (nI (k + 1))), (5, .int (nI mv)), (4, .int (-1)), (3, .int (nI p)), (2, .int (nI (2 ^ sh1 - 1))), (1, .int (nI st)), (0, .ref (G.1 + 88))] [0, 1, 2, 3, 4, 5, 6] rfl ?_
                          exact ih3405 (k + 1) (nI mv) mv (by omega) (by omega) (Or.inr ⟨rfl, hex.elim (fun j q => ⟨j, by omega, q.2⟩)⟩) (by simp only [mxF]; rw [if_pos t107]; exact hm)
                        · have t107 := ite_0 c107
                          have bor := or_gt t107
                          have bop := or_ps (k := k) hp (by omega)
                          have b7 := wnF_le (st := st) (so := so) (xx := xx) (yy := yy) (tg := tg1) (sh := sh1) (p := p) (L := 0) (nx := k) btr nv hnv
                          have b6 := RS_le (st := st) (so := so) (xx := xx) (yy := yy) (tg := tg1) (sh := sh1) (p := p ||| 2 ^ k) (L := k + 1) btr hnv
                          refine aw_iload 1 dX9_shelves_110 rfl ?_
                          refine aw_aload_n 6 dX9_shelves_112 rfl rfl ?_
                          refine aw_iload_n 5 dX9_shelves_113 rfl rfl ?_
                          refine aw_iload_n 3 dX9_shelves_114 rfl rfl ?_
                          refine aw_iload 2 dX9_shelves_115 rfl ?_
                          refine aw_iload 0 dX9_shelves_117 rfl ?_
                          refine aw_dV [.int (nI st), .int (nI p), .int (-1), .int (nI k)] [.int (nI mv)] lX9_236 vX9_wins mX9_wins dX9_shelves_119 (bX9_wins0 (sp := sp) (fa := fa) (nb := nb) (ns := ns) (nm := nm) (nv := nv) (sh := sh1) (ho := ho) (ow := ow) (sl := sl) (so := so) (xx := xx) (tr := tr) (tg := tg1) (yM := yM) (st := st) (p := p) (nx := k) f3395 f3396 f3397 f3398 f3399 f3400 htg1 hsh1 (by omega) bso bxx byy btr hyM (by omega) (by omega) (by omega)) f3395 rfl rfl rfl (Nat.le_of_ble_eq_true rfl) (by decide) (by decide) rfl ?_
                          refine aw_aload_n 6 dX9_shelves_122 rfl rfl ?_
                          refine aw_get fX9_113 dX9_shelves_123 f3395 rfl ?_
                          refine aw_bipush (9) dX9_shelves_126 (by decide) ?_
                          refine aw_iload_n 3 dX9_shelves_128 rfl rfl ?_
                          refine aw_iconst (1) dX9_shelves_129 (by decide) ?_
                          refine aw_iload 0 dX9_shelves_130 rfl ?_
                          refine aw_ishl dX9_shelves_132 ?_
                          refine aw_toe (nI (2 ^ k)) (nv_shl1 (rfl) (by omega)) ?_
                          refine aw_ior dX9_shelves_133 ?_
                          refine aw_toe (nI (p ||| (2 ^ k))) (nv_or (rfl) (rfl)) ?_
                          refine aw_imul dX9_shelves_134 ?_
                          refine aw_toe (nI (9 * (p ||| (2 ^ k)))) (nv_mul (rfl) (rfl)) ?_
                          refine aw_iload 0 dX9_shelves_135 rfl ?_
                          refine aw_iadd dX9_shelves_137 ?_
                          refine aw_toe (nI ((9 * (p ||| (2 ^ k))) + k)) (nv_add (rfl) (rfl)) ?_
                          refine aw_iconst (1) dX9_shelves_138 (by decide) ?_
                          refine aw_iadd dX9_shelves_139 ?_
                          refine aw_toe (nI (((9 * (p ||| (2 ^ k))) + k) + 1)) (nv_add (rfl) (rfl)) ?_
                          refine aw_iald (((9 * (p ||| (2 ^ k))) + k) + 1) (rfl) (by omega) (by decide) dX9_shelves_140 f3401 ?_
                          refine aw_toe (nI (RS st so xx yy tr tg1 sh1 nv (p ||| 2 ^ k) (k + 1))) (hR2 _ (k + 1) (by omega) (by omega)) ?_
                          refine aw_iadd dX9_shelves_141 ?_
                          refine aw_toe (nI ((wnF st so xx yy tr tg1 sh1 p 0 k nv) + (RS st so xx yy tr tg1 sh1 nv (p ||| 2 ^ k) (k + 1)))) (nv_add (rfl) (rfl)) ?_
                          refine aw_mmax lX9_162 dX9_shelves_142 (Nat.le_of_ble_eq_true rfl) (by decide) (by decide) ?_
                          refine aw_toe (nI (max mv ((wnF st so xx yy tr tg1 sh1 p 0 k nv) + (RS st so xx yy tr tg1 sh1 nv (p ||| 2 ^ k) (k + 1))))) (nv_max (rfl) (rfl) (by omega) (by omega)) ?_
                          refine aw_istore [(5, .int (nI (max mv ((wnF st so xx yy tr tg1 sh1 p 0 k nv) + (RS st so xx yy tr tg1 sh1 nv (p ||| 2 ^ k) (k + 1)))))), (6, .int (nI k)), (4, .int (-1)), (3, .int (nI p)), (2, .int (nI (2 ^ sh1 - 1))), (1, .int (nI st)), (0, .ref (G.1 + 88))] dX9_shelves_145 (by decide) rfl ?_
                          refine aw_iinc (j := 1) (nI (k + 1)) [(6, .int (nI (k + 1))), (5, .int (nI (max mv ((wnF st so xx yy tr tg1 sh1 p 0 k nv) + (RS st so xx yy tr tg1 sh1 nv (p ||| 2 ^ k) (k + 1)))))), (4, .int (-1)), (3, .int (nI p)), (2, .int (nI (2 ^ sh1 - 1))), (1, .int (nI st)), (0, .ref (G.1 + 88))] dX9_shelves_147 rfl (nv_inc (rfl)) (by decide) rfl ?_
                          refine aw_goto 92 dX9_shelves_150 (by decide) ?_
                          refine aw_lv [(6, .int (nI (k + 1))), (5, .int (nI (max mv ((wnF st so xx yy tr tg1 sh1 p 0 k nv) + (RS st so xx yy tr tg1 sh1 nv (p ||| 2 ^ k) (k + 1)))))), (4, .int (-1)), (3, .int (nI p)), (2, .int (nI (2 ^ sh1 - 1))), (1, .int (nI st)), (0, .ref (G.1 + 88))] [0, 1, 2, 3, 4, 5, 6] rfl ?_
                          exact ih3405 (k + 1) (nI (max mv ((wnF st so xx yy tr tg1 sh1 p 0 k nv) + (RS st so xx yy tr tg1 sh1 nv (p ||| 2 ^ k) (k + 1))))) (max mv ((wnF st so xx yy tr tg1 sh1 p 0 k nv) + (RS st so xx yy tr tg1 sh1 nv (p ||| 2 ^ k) (k + 1)))) (by omega) (by omega) (Or.inr ⟨rfl, k, by omega, t107⟩) (by simp only [mxF]; rw [if_neg t107, ← hm]; rfl)
                · have d79 := (nv_eq (a := p) (b := 2 ^ sh1 - 1) (rfl) (rfl) (by omega) (by omega)).mp c79
                  refine aw_iconst (0) dX9_shelves_82 (by decide) ?_
                  refine aw_goto 87 dX9_shelves_83 (by decide) ?_
                  refine aw_istore [(5, .int 0), (4, .int (-1)), (3, .int (nI p)), (2, .int (nI (2 ^ sh1 - 1))), (1, .int (nI st)), (0, .ref (G.1 + 88))] dX9_shelves_87 (by decide) rfl ?_
                  refine aw_iconst (0) dX9_shelves_89 (by decide) ?_
                  refine aw_istore [(6, .int 0), (5, .int 0), (4, .int (-1)), (3, .int (nI p)), (2, .int (nI (2 ^ sh1 - 1))), (1, .int (nI st)), (0, .ref (G.1 + 88))] dX9_shelves_90 (by decide) rfl ?_
                  refine aw_lv [(6, .int 0), (5, .int 0), (4, .int (-1)), (3, .int (nI p)), (2, .int (nI (2 ^ sh1 - 1))), (1, .int (nI st)), (0, .ref (G.1 + 88))] [0, 1, 2, 3, 4, 5, 6] rfl ?_
                  suffices L3406 : ∀ (mm : Nat) (k : Nat), sh1 - k < mm → (k ≤ sh1) → AW l G yX9_shelves cX9_shelves 7 (some .int) (xR 2 0 0) (fun _ _ => True) QF 0 0 92 [(6, .int (nI k)), (5, .int 0), (4, .int (-1)), (3, .int (nI p)), (2, .int (nI (2 ^ sh1 - 1))), (1, .int (nI st)), (0, .ref (G.1 + 88))] [] h3394 from L3406 (sh1 - 0 + 1) 0 (Nat.lt_succ_self _) (Nat.zero_le _)
                  intro mm
                  induction mm with
                  | zero =>
                    intro k hmm hk
                    exact absurd hmm (Nat.not_lt_zero _)
                  | succ mm ih3406 =>
                    intro k hmm hk
                    refine aw_iload 0 dX9_shelves_92 rfl ?_
                    refine aw_aload_n 6 dX9_shelves_94 rfl rfl ?_
                    refine aw_get fX9_233 dX9_shelves_95 f3395 rfl ?_
                    refine aw_icmp_ge 153 dX9_shelves_98 (by decide) (fun c98 => ?_) (fun c98 => ?_)
                    · have d98 := (nv_le (a := sh1) (b := k) (rfl) (rfl) (by omega) (by omega)).mp c98
                      refine aw_aload_n 6 dX9_shelves_153 rfl rfl ?_
                      refine aw_get fX9_113 dX9_shelves_154 f3395 rfl ?_
                      refine aw_bipush (9) dX9_shelves_157 (by decide) ?_
                      refine aw_iload_n 3 dX9_shelves_159 rfl rfl ?_
                      refine aw_imul dX9_shelves_160 ?_
                      refine aw_toe (nI (9 * p)) (nv_mul (rfl) (rfl)) ?_
                      refine aw_iload 2 dX9_shelves_161 rfl ?_
                      refine aw_iadd dX9_shelves_163 ?_
                      refine aw_iconst (1) dX9_shelves_164 (by decide) ?_
                      refine aw_iadd dX9_shelves_165 ?_
                      refine aw_toe (nI (9 * p)) (nI_mp) ?_
                      refine aw_iload 1 dX9_shelves_166 rfl ?_
                      refine aw_iast (9 * p) (rfl) (by omega) (by decide) dX9_shelves_168 f3401 ?_
                      refine aw_iinc (j := 2) ((-1) + 1) [(4, .int ((-1) + 1)), (6, .int (nI k)), (5, .int 0), (3, .int (nI p)), (2, .int (nI (2 ^ sh1 - 1))), (1, .int (nI st)), (0, .ref (G.1 + 88))] dX9_shelves_169 rfl (by rfl) (by decide) rfl ?_
                      refine aw_goto 68 dX9_shelves_172 (by decide) ?_
                      refine aw_lv [(4, .int ((-1) + 1)), (3, .int (nI p)), (2, .int (nI (2 ^ sh1 - 1))), (1, .int (nI st)), (0, .ref (G.1 + 88))] [0, 3, 4, 5, 6] rfl ?_
                      exact ih3404 1 ((-1) + 1) (upd rs2 (9 * p) 0) _ (by omega) (by omega) (Or.inr ⟨0, rfl, by decide⟩) (rs_up (L := 0) hR2 hsh1 (by omega) (by rw [show (RS st so xx yy tr tg1 sh1 nv p 0) = 0 from rsF_all d79]; rfl)) (gn (by decide) (f3395)) (gn (by decide) (f3396)) (gn (by decide) (f3397)) (gn (by decide) (f3398)) (gn (by decide) (f3399)) (gn (by decide) (f3400)) (gs f3401) (gn (by decide) (f3402)) (rg2_set (k3403) (by decide))
                    · have d98 := mt (nv_le (a := sh1) (b := k) (rfl) (rfl) (by omega) (by omega)).mpr c98
                      refine aw_iload_n 3 dX9_shelves_101 rfl rfl ?_
                      refine aw_iload 0 dX9_shelves_102 rfl ?_
                      refine aw_ishr dX9_shelves_104 ?_
                      refine aw_iconst (1) dX9_shelves_105 (by decide) ?_
                      refine aw_iand dX9_shelves_106 ?_
                      refine aw_toe (if p.testBit k = true then 1 else 0) (nv_bit (rfl) (rfl) (by omega) (by omega)) ?_
                      refine aw_if_ne 147 dX9_shelves_107 (by decide) (fun c107 => ?_) (fun c107 => ?_)
                      · have t107 := ite_1 c107
                        refine aw_iinc (j := 0) (nI (k + 1)) [(6, .int (nI (k + 1))), (5, .int 0), (4, .int (-1)), (3, .int (nI p)), (2, .int (nI (2 ^ sh1 - 1))), (1, .int (nI st)), (0, .ref (G.1 + 88))] dX9_shelves_147 rfl (nv_inc (rfl)) (by decide) rfl ?_
                        refine aw_goto 92 dX9_shelves_150 (by decide) ?_
                        refine aw_lv [(6, .int (nI (k + 1))), (5, .int 0), (4, .int (-1)), (3, .int (nI p)), (2, .int (nI (2 ^ sh1 - 1))), (1, .int (nI st)), (0, .ref (G.1 + 88))] [0, 1, 2, 3, 4, 5, 6] rfl ?_
                        exact ih3406 (k + 1) (by omega) (by omega)
                      · have t107 := ite_0 c107
                        exact absurd (allbit d79 (by omega)) t107
            · refine aw_iload 0 dX9_shelves_68 rfl ?_
              refine aw_aload_n 4 dX9_shelves_70 rfl rfl ?_
              refine aw_get fX9_233 dX9_shelves_71 f3395 rfl ?_
              refine aw_icmp_ge 175 dX9_shelves_74 (by decide) (fun c74 => ?_) (fun c74 => ?_)
              · have d74 := (nv_le (a := sh1) (b := la) (rfl) (rfl) (by omega) (by omega)).mp c74
                refine aw_iinc (j := 1) ((nI p) + (-1)) [(3, .int ((nI p) + (-1))), (4, .int (nI la)), (2, .int (nI (2 ^ sh1 - 1))), (1, .int (nI st)), (0, .ref (G.1 + 88))] dX9_shelves_175 rfl (by rfl) (by decide) rfl ?_
                refine aw_goto 61 dX9_shelves_178 (by decide) ?_
                refine aw_lv [(3, .int ((nI p) + (-1))), (2, .int (nI (2 ^ sh1 - 1))), (1, .int (nI st)), (0, .ref (G.1 + 88))] [0, 2, 3, 4] rfl ?_
                exact ih3378 p ((nI p) + (-1)) rs2 _ (by omega) (dec_m (n := 2 ^ sh1) (by omega)) (fun q M h1 h2 h3 => hR2 q M (by omega) h3) f3395 f3396 f3397 f3398 f3399 f3400 f3401 f3402 (k3403)
              · have d74 := mt (nv_le (a := sh1) (b := la) (rfl) (rfl) (by omega) (by omega)).mpr c74
                refine aw_iload_n 1 dX9_shelves_77 rfl rfl ?_
                refine aw_iload_n 2 dX9_shelves_78 rfl rfl ?_
                refine aw_icmp_ne 86 dX9_shelves_79 (by decide) (fun c79 => ?_) (fun c79 => ?_)
                · have d79 := mt (nv_eq (a := p) (b := 2 ^ sh1 - 1) (rfl) (rfl) (by omega) (by omega)).mpr c79
                  refine aw_iconst (-1) dX9_shelves_86 (by decide) ?_
                  refine aw_istore [(5, .int (-1)), (4, .int (nI la)), (3, .int (nI p)), (2, .int (nI (2 ^ sh1 - 1))), (1, .int (nI st)), (0, .ref (G.1 + 88))] dX9_shelves_87 (by decide) rfl ?_
                  refine aw_iconst (0) dX9_shelves_89 (by decide) ?_
                  refine aw_istore [(6, .int 0), (5, .int (-1)), (4, .int (nI la)), (3, .int (nI p)), (2, .int (nI (2 ^ sh1 - 1))), (1, .int (nI st)), (0, .ref (G.1 + 88))] dX9_shelves_90 (by decide) rfl ?_
                  refine aw_lv [(6, .int 0), (5, .int (-1)), (4, .int (nI la)), (3, .int (nI p)), (2, .int (nI (2 ^ sh1 - 1))), (1, .int (nI st)), (0, .ref (G.1 + 88))] [0, 1, 2, 3, 4, 5, 6] rfl ?_
                  suffices L3407 : ∀ (mm : Nat) (k : Nat) (bv : Int32) (mv : Nat), sh1 - k < mm → (k ≤ sh1) → ((bv = -1 ∧ ∀ j, j < k → p.testBit j = true) ∨ (bv = nI mv ∧ ∃ j, j < k ∧ ¬ p.testBit j = true)) → (mv = mxF (vS st so xx yy tr tg1 sh1 nv p (la + 1)) p k) → AW l G yX9_shelves cX9_shelves 7 (some .int) (xR 2 0 0) (fun _ _ => True) QF 0 0 92 [(6, .int (nI k)), (5, .int bv), (4, .int (nI la)), (3, .int (nI p)), (2, .int (nI (2 ^ sh1 - 1))), (1, .int (nI st)), (0, .ref (G.1 + 88))] [] h3394 from L3407 (sh1 - 0 + 1) 0 (-1) 0 (Nat.lt_succ_self _) (Nat.zero_le _) (Or.inl ⟨rfl, fun j hj => absurd hj (by omega)⟩) (rfl)
                  intro mm
                  induction mm with
                  | zero =>
                    intro k bv mv hmm hk hb hm
                    exact absurd hmm (Nat.not_lt_zero _)
                  | succ mm ih3407 =>
                    intro k bv mv hmm hk hb hm
                    have b8 : mv ≤ 92520 := by rw [hm]; exact mxF_le (vS_le btr hnv) k
                    rcases hb with ⟨rfl, hall⟩ | ⟨rfl, hex⟩
                    · refine aw_iload 0 dX9_shelves_92 rfl ?_
                      refine aw_aload_n 6 dX9_shelves_94 rfl rfl ?_
                      refine aw_get fX9_233 dX9_shelves_95 f3395 rfl ?_
                      refine aw_icmp_ge 153 dX9_shelves_98 (by decide) (fun c98 => ?_) (fun c98 => ?_)
                      · have d98 := (nv_le (a := sh1) (b := k) (rfl) (rfl) (by omega) (by omega)).mp c98
                        exact absurd (ex_clr (s := sh1) (p := p) hsh1 (by omega)) (fun ⟨j, q1, q2⟩ => q2 (hall j (by omega)))
                      · have d98 := mt (nv_le (a := sh1) (b := k) (rfl) (rfl) (by omega) (by omega)).mpr c98
                        refine aw_iload_n 3 dX9_shelves_101 rfl rfl ?_
                        refine aw_iload 0 dX9_shelves_102 rfl ?_
                        refine aw_ishr dX9_shelves_104 ?_
                        refine aw_iconst (1) dX9_shelves_105 (by decide) ?_
                        refine aw_iand dX9_shelves_106 ?_
                        refine aw_toe (if p.testBit k = true then 1 else 0) (nv_bit (rfl) (rfl) (by omega) (by omega)) ?_
                        refine aw_if_ne 147 dX9_shelves_107 (by decide) (fun c107 => ?_) (fun c107 => ?_)
                        · have t107 := ite_1 c107
                          refine aw_iinc (j := 0) (nI (k + 1)) [(6, .int (nI (k + 1))), (5, .int (-1)), (4, .int (nI la)), (3, .int (nI p)), (2, .int (nI (2 ^ sh1 - 1))), (1, .int (nI st)), (0, .ref (G.1 + 88))] dX9_shelves_147 rfl (nv_inc (rfl)) (by decide) rfl ?_
                          refine aw_goto 92 dX9_shelves_150 (by decide) ?_
                          refine aw_lv [(6, .int (nI (k + 1))), (5, .int (-1)), (4, .int (nI la)), (3, .int (nI p)), (2, .int (nI (2 ^ sh1 - 1))), (1, .int (nI st)), (0, .ref (G.1 + 88))] [0, 1, 2, 3, 4, 5, 6] rfl ?_
                          exact ih3407 (k + 1) (-1) mv (by omega) (by omega) (Or.inl ⟨rfl, allb_s hall t107⟩) (by simp only [mxF]; rw [if_pos t107]; exact hm)
                        · have t107 := ite_0 c107
                          have bor := or_gt t107
                          have bop := or_ps (k := k) hp (by omega)
                          have b7 := wnF_le (st := st) (so := so) (xx := xx) (yy := yy) (tg := tg1) (sh := sh1) (p := p) (L := la + 1) (nx := k) btr nv hnv
                          have b6 := RS_le (st := st) (so := so) (xx := xx) (yy := yy) (tg := tg1) (sh := sh1) (p := p ||| 2 ^ k) (L := k + 1) btr hnv
                          refine aw_iload 1 dX9_shelves_110 rfl ?_
                          refine aw_aload_n 6 dX9_shelves_112 rfl rfl ?_
                          refine aw_iload_n 5 dX9_shelves_113 rfl rfl ?_
                          refine aw_iload_n 3 dX9_shelves_114 rfl rfl ?_
                          refine aw_iload 2 dX9_shelves_115 rfl ?_
                          refine aw_iload 0 dX9_shelves_117 rfl ?_
                          refine aw_dV [.int (nI st), .int (nI p), .int (nI la), .int (nI k)] [.int (-1)] lX9_236 vX9_wins mX9_wins dX9_shelves_119 (bX9_winsL (sp := sp) (fa := fa) (nb := nb) (ns := ns) (nm := nm) (nv := nv) (sh := sh1) (ho := ho) (ow := ow) (sl := sl) (so := so) (xx := xx) (tr := tr) (tg := tg1) (yM := yM) (st := st) (p := p) (nx := k) (la := la) f3395 f3396 f3397 f3398 f3399 f3400 htg1 hsh1 (by omega) bso bxx byy btr hyM (by omega) (by omega) (by omega) (by omega)) f3395 rfl rfl rfl (Nat.le_of_ble_eq_true rfl) (by decide) (by decide) rfl ?_
                          refine aw_aload_n 6 dX9_shelves_122 rfl rfl ?_
                          refine aw_get fX9_113 dX9_shelves_123 f3395 rfl ?_
                          refine aw_bipush (9) dX9_shelves_126 (by decide) ?_
                          refine aw_iload_n 3 dX9_shelves_128 rfl rfl ?_
                          refine aw_iconst (1) dX9_shelves_129 (by decide) ?_
                          refine aw_iload 0 dX9_shelves_130 rfl ?_
                          refine aw_ishl dX9_shelves_132 ?_
                          refine aw_toe (nI (2 ^ k)) (nv_shl1 (rfl) (by omega)) ?_
                          refine aw_ior dX9_shelves_133 ?_
                          refine aw_toe (nI (p ||| (2 ^ k))) (nv_or (rfl) (rfl)) ?_
                          refine aw_imul dX9_shelves_134 ?_
                          refine aw_toe (nI (9 * (p ||| (2 ^ k)))) (nv_mul (rfl) (rfl)) ?_
                          refine aw_iload 0 dX9_shelves_135 rfl ?_
                          refine aw_iadd dX9_shelves_137 ?_
                          refine aw_toe (nI ((9 * (p ||| (2 ^ k))) + k)) (nv_add (rfl) (rfl)) ?_
                          refine aw_iconst (1) dX9_shelves_138 (by decide) ?_
                          refine aw_iadd dX9_shelves_139 ?_
                          refine aw_toe (nI (((9 * (p ||| (2 ^ k))) + k) + 1)) (nv_add (rfl) (rfl)) ?_
                          refine aw_iald (((9 * (p ||| (2 ^ k))) + k) + 1) (rfl) (by omega) (by decide) dX9_shelves_140 f3401 ?_
                          refine aw_toe (nI (RS st so xx yy tr tg1 sh1 nv (p ||| 2 ^ k) (k + 1))) (hR2 _ (k + 1) (by omega) (by omega)) ?_
                          refine aw_iadd dX9_shelves_141 ?_
                          refine aw_toe (nI ((wnF st so xx yy tr tg1 sh1 p (la + 1) k nv) + (RS st so xx yy tr tg1 sh1 nv (p ||| 2 ^ k) (k + 1)))) (nv_add (rfl) (rfl)) ?_
                          refine aw_mmax lX9_162 dX9_shelves_142 (Nat.le_of_ble_eq_true rfl) (by decide) (by decide) ?_
                          refine aw_toe (nI ((wnF st so xx yy tr tg1 sh1 p (la + 1) k nv) + (RS st so xx yy tr tg1 sh1 nv (p ||| 2 ^ k) (k + 1)))) (mx_neg (by omega)) ?_
                          refine aw_istore [(5, .int (nI ((wnF st so xx yy tr tg1 sh1 p (la + 1) k nv) + (RS st so xx yy tr tg1 sh1 nv (p ||| 2 ^ k) (k + 1))))), (6, .int (nI k)), (4, .int (nI la)), (3, .int (nI p)), (2, .int (nI (2 ^ sh1 - 1))), (1, .int (nI st)), (0, .ref (G.1 + 88))] dX9_shelves_145 (by decide) rfl ?_
                          refine aw_iinc (j := 1) (nI (k + 1)) [(6, .int (nI (k + 1))), (5, .int (nI ((wnF st so xx yy tr tg1 sh1 p (la + 1) k nv) + (RS st so xx yy tr tg1 sh1 nv (p ||| 2 ^ k) (k + 1))))), (4, .int (nI la)), (3, .int (nI p)), (2, .int (nI (2 ^ sh1 - 1))), (1, .int (nI st)), (0, .ref (G.1 + 88))] dX9_shelves_147 rfl (nv_inc (rfl)) (by decide) rfl ?_
                          refine aw_goto 92 dX9_shelves_150 (by decide) ?_
                          refine aw_lv [(6, .int (nI (k + 1))), (5, .int (nI ((wnF st so xx yy tr tg1 sh1 p (la + 1) k nv) + (RS st so xx yy tr tg1 sh1 nv (p ||| 2 ^ k) (k + 1))))), (4, .int (nI la)), (3, .int (nI p)), (2, .int (nI (2 ^ sh1 - 1))), (1, .int (nI st)), (0, .ref (G.1 + 88))] [0, 1, 2, 3, 4, 5, 6] rfl ?_
                          exact ih3407 (k + 1) (nI ((wnF st so xx yy tr tg1 sh1 p (la + 1) k nv) + (RS st so xx yy tr tg1 sh1 nv (p ||| 2 ^ k) (k + 1)))) ((wnF st so xx yy tr tg1 sh1 p (la + 1) k nv) + (RS st so xx yy tr tg1 sh1 nv (p ||| 2 ^ k) (k + 1))) (by omega) (by omega) (Or.inr ⟨rfl, k, by omega, t107⟩) (by simp only [mxF]; rw [if_neg t107, mxF_0 k hall]; exact (Nat.zero_max _).symm)
                    · refine aw_iload 0 dX9_shelves_92 rfl ?_
                      refine aw_aload_n 6 dX9_shelves_94 rfl rfl ?_
                      refine aw_get fX9_233 dX9_shelves_95 f3395 rfl ?_
                      refine aw_icmp_ge 153 dX9_shelves_98 (by decide) (fun c98 => ?_) (fun c98 => ?_)
                      · have d98 := (nv_le (a := sh1) (b := k) (rfl) (rfl) (by omega) (by omega)).mp c98
                        refine aw_aload_n 6 dX9_shelves_153 rfl rfl ?_
                        refine aw_get fX9_113 dX9_shelves_154 f3395 rfl ?_
                        refine aw_bipush (9) dX9_shelves_157 (by decide) ?_
                        refine aw_iload_n 3 dX9_shelves_159 rfl rfl ?_
                        refine aw_imul dX9_shelves_160 ?_
                        refine aw_toe (nI (9 * p)) (nv_mul (rfl) (rfl)) ?_
                        refine aw_iload 2 dX9_shelves_161 rfl ?_
                        refine aw_iadd dX9_shelves_163 ?_
                        refine aw_toe (nI ((9 * p) + la)) (nv_add (rfl) (rfl)) ?_
                        refine aw_iconst (1) dX9_shelves_164 (by decide) ?_
                        refine aw_iadd dX9_shelves_165 ?_
                        refine aw_toe (nI (((9 * p) + la) + 1)) (nv_add (rfl) (rfl)) ?_
                        refine aw_iload 1 dX9_shelves_166 rfl ?_
                        refine aw_iast (((9 * p) + la) + 1) (rfl) (by omega) (by decide) dX9_shelves_168 f3401 ?_
                        refine aw_iinc (j := 2) (nI (la + 1)) [(4, .int (nI (la + 1))), (6, .int (nI k)), (5, .int (nI mv)), (3, .int (nI p)), (2, .int (nI (2 ^ sh1 - 1))), (1, .int (nI st)), (0, .ref (G.1 + 88))] dX9_shelves_169 rfl (nv_inc (rfl)) (by decide) rfl ?_
                        refine aw_goto 68 dX9_shelves_172 (by decide) ?_
                        refine aw_lv [(4, .int (nI (la + 1))), (3, .int (nI p)), (2, .int (nI (2 ^ sh1 - 1))), (1, .int (nI st)), (0, .ref (G.1 + 88))] [0, 3, 4, 5, 6] rfl ?_
                        exact ih3404 (la + 1 + 1) (nI (la + 1)) (upd rs2 (((9 * p) + la) + 1) (nI mv)) _ (by omega) (by omega) (Or.inr ⟨la + 1, rfl, rfl⟩) (rs_up (L := la + 1) hR2 hsh1 (by omega) (by rw [RS_s hsh1 hp, hm, show k = sh1 by omega])) (gn (by decide) (f3395)) (gn (by decide) (f3396)) (gn (by decide) (f3397)) (gn (by decide) (f3398)) (gn (by decide) (f3399)) (gn (by decide) (f3400)) (gs f3401) (gn (by decide) (f3402)) (rg2_set (k3403) (by decide))
                      · have d98 := mt (nv_le (a := sh1) (b := k) (rfl) (rfl) (by omega) (by omega)).mpr c98
                        refine aw_iload_n 3 dX9_shelves_101 rfl rfl ?_
                        refine aw_iload 0 dX9_shelves_102 rfl ?_
                        refine aw_ishr dX9_shelves_104 ?_
                        refine aw_iconst (1) dX9_shelves_105 (by decide) ?_
                        refine aw_iand dX9_shelves_106 ?_
                        refine aw_toe (if p.testBit k = true then 1 else 0) (nv_bit (rfl) (rfl) (by omega) (by omega)) ?_
                        refine aw_if_ne 147 dX9_shelves_107 (by decide) (fun c107 => ?_) (fun c107 => ?_)
                        · have t107 := ite_1 c107
                          refine aw_iinc (j := 0) (nI (k + 1)) [(6, .int (nI (k + 1))), (5, .int (nI mv)), (4, .int (nI la)), (3, .int (nI p)), (2, .int (nI (2 ^ sh1 - 1))), (1, .int (nI st)), (0, .ref (G.1 + 88))] dX9_shelves_147 rfl (nv_inc (rfl)) (by decide) rfl ?_
                          refine aw_goto 92 dX9_shelves_150 (by decide) ?_
                          refine aw_lv [(6, .int (nI (k + 1))), (5, .int (nI mv)), (4, .int (nI la)), (3, .int (nI p)), (2, .int (nI (2 ^ sh1 - 1))), (1, .int (nI st)), (0, .ref (G.1 + 88))] [0, 1, 2, 3, 4, 5, 6] rfl ?_
                          exact ih3407 (k + 1) (nI mv) mv (by omega) (by omega) (Or.inr ⟨rfl, hex.elim (fun j q => ⟨j, by omega, q.2⟩)⟩) (by simp only [mxF]; rw [if_pos t107]; exact hm)
                        · have t107 := ite_0 c107
                          have bor := or_gt t107
                          have bop := or_ps (k := k) hp (by omega)
                          have b7 := wnF_le (st := st) (so := so) (xx := xx) (yy := yy) (tg := tg1) (sh := sh1) (p := p) (L := la + 1) (nx := k) btr nv hnv
                          have b6 := RS_le (st := st) (so := so) (xx := xx) (yy := yy) (tg := tg1) (sh := sh1) (p := p ||| 2 ^ k) (L := k + 1) btr hnv
                          refine aw_iload 1 dX9_shelves_110 rfl ?_
                          refine aw_aload_n 6 dX9_shelves_112 rfl rfl ?_
                          refine aw_iload_n 5 dX9_shelves_113 rfl rfl ?_
                          refine aw_iload_n 3 dX9_shelves_114 rfl rfl ?_
                          refine aw_iload 2 dX9_shelves_115 rfl ?_
                          refine aw_iload 0 dX9_shelves_117 rfl ?_
                          refine aw_dV [.int (nI st), .int (nI p), .int (nI la), .int (nI k)] [.int (nI mv)] lX9_236 vX9_wins mX9_wins dX9_shelves_119 (bX9_winsL (sp := sp) (fa := fa) (nb := nb) (ns := ns) (nm := nm) (nv := nv) (sh := sh1) (ho := ho) (ow := ow) (sl := sl) (so := so) (xx := xx) (tr := tr) (tg := tg1) (yM := yM) (st := st) (p := p) (nx := k) (la := la) f3395 f3396 f3397 f3398 f3399 f3400 htg1 hsh1 (by omega) bso bxx byy btr hyM (by omega) (by omega) (by omega) (by omega)) f3395 rfl rfl rfl (Nat.le_of_ble_eq_true rfl) (by decide) (by decide) rfl ?_
                          refine aw_aload_n 6 dX9_shelves_122 rfl rfl ?_
                          refine aw_get fX9_113 dX9_shelves_123 f3395 rfl ?_
                          refine aw_bipush (9) dX9_shelves_126 (by decide) ?_
                          refine aw_iload_n 3 dX9_shelves_128 rfl rfl ?_
                          refine aw_iconst (1) dX9_shelves_129 (by decide) ?_
                          refine aw_iload 0 dX9_shelves_130 rfl ?_
                          refine aw_ishl dX9_shelves_132 ?_
                          refine aw_toe (nI (2 ^ k)) (nv_shl1 (rfl) (by omega)) ?_
                          refine aw_ior dX9_shelves_133 ?_
                          refine aw_toe (nI (p ||| (2 ^ k))) (nv_or (rfl) (rfl)) ?_
                          refine aw_imul dX9_shelves_134 ?_
                          refine aw_toe (nI (9 * (p ||| (2 ^ k)))) (nv_mul (rfl) (rfl)) ?_
                          refine aw_iload 0 dX9_shelves_135 rfl ?_
                          refine aw_iadd dX9_shelves_137 ?_
                          refine aw_toe (nI ((9 * (p ||| (2 ^ k))) + k)) (nv_add (rfl) (rfl)) ?_
                          refine aw_iconst (1) dX9_shelves_138 (by decide) ?_
                          refine aw_iadd dX9_shelves_139 ?_
                          refine aw_toe (nI (((9 * (p ||| (2 ^ k))) + k) + 1)) (nv_add (rfl) (rfl)) ?_
                          refine aw_iald (((9 * (p ||| (2 ^ k))) + k) + 1) (rfl) (by omega) (by decide) dX9_shelves_140 f3401 ?_
                          refine aw_toe (nI (RS st so xx yy tr tg1 sh1 nv (p ||| 2 ^ k) (k + 1))) (hR2 _ (k + 1) (by omega) (by omega)) ?_
                          refine aw_iadd dX9_shelves_141 ?_
                          refine aw_toe (nI ((wnF st so xx yy tr tg1 sh1 p (la + 1) k nv) + (RS st so xx yy tr tg1 sh1 nv (p ||| 2 ^ k) (k + 1)))) (nv_add (rfl) (rfl)) ?_
                          refine aw_mmax lX9_162 dX9_shelves_142 (Nat.le_of_ble_eq_true rfl) (by decide) (by decide) ?_
                          refine aw_toe (nI (max mv ((wnF st so xx yy tr tg1 sh1 p (la + 1) k nv) + (RS st so xx yy tr tg1 sh1 nv (p ||| 2 ^ k) (k + 1))))) (nv_max (rfl) (rfl) (by omega) (by omega)) ?_
                          refine aw_istore [(5, .int (nI (max mv ((wnF st so xx yy tr tg1 sh1 p (la + 1) k nv) + (RS st so xx yy tr tg1 sh1 nv (p ||| 2 ^ k) (k + 1)))))), (6, .int (nI k)), (4, .int (nI la)), (3, .int (nI p)), (2, .int (nI (2 ^ sh1 - 1))), (1, .int (nI st)), (0, .ref (G.1 + 88))] dX9_shelves_145 (by decide) rfl ?_
                          refine aw_iinc (j := 1) (nI (k + 1)) [(6, .int (nI (k + 1))), (5, .int (nI (max mv ((wnF st so xx yy tr tg1 sh1 p (la + 1) k nv) + (RS st so xx yy tr tg1 sh1 nv (p ||| 2 ^ k) (k + 1)))))), (4, .int (nI la)), (3, .int (nI p)), (2, .int (nI (2 ^ sh1 - 1))), (1, .int (nI st)), (0, .ref (G.1 + 88))] dX9_shelves_147 rfl (nv_inc (rfl)) (by decide) rfl ?_
                          refine aw_goto 92 dX9_shelves_150 (by decide) ?_
                          refine aw_lv [(6, .int (nI (k + 1))), (5, .int (nI (max mv ((wnF st so xx yy tr tg1 sh1 p (la + 1) k nv) + (RS st so xx yy tr tg1 sh1 nv (p ||| 2 ^ k) (k + 1)))))), (4, .int (nI la)), (3, .int (nI p)), (2, .int (nI (2 ^ sh1 - 1))), (1, .int (nI st)), (0, .ref (G.1 + 88))] [0, 1, 2, 3, 4, 5, 6] rfl ?_
                          exact ih3407 (k + 1) (nI (max mv ((wnF st so xx yy tr tg1 sh1 p (la + 1) k nv) + (RS st so xx yy tr tg1 sh1 nv (p ||| 2 ^ k) (k + 1))))) (max mv ((wnF st so xx yy tr tg1 sh1 p (la + 1) k nv) + (RS st so xx yy tr tg1 sh1 nv (p ||| 2 ^ k) (k + 1)))) (by omega) (by omega) (Or.inr ⟨rfl, k, by omega, t107⟩) (by simp only [mxF]; rw [if_neg t107, ← hm]; rfl)
                · have d79 := (nv_eq (a := p) (b := 2 ^ sh1 - 1) (rfl) (rfl) (by omega) (by omega)).mp c79
                  refine aw_iconst (0) dX9_shelves_82 (by decide) ?_
                  refine aw_goto 87 dX9_shelves_83 (by decide) ?_
                  refine aw_istore [(5, .int 0), (4, .int (nI la)), (3, .int (nI p)), (2, .int (nI (2 ^ sh1 - 1))), (1, .int (nI st)), (0, .ref (G.1 + 88))] dX9_shelves_87 (by decide) rfl ?_
                  refine aw_iconst (0) dX9_shelves_89 (by decide) ?_
                  refine aw_istore [(6, .int 0), (5, .int 0), (4, .int (nI la)), (3, .int (nI p)), (2, .int (nI (2 ^ sh1 - 1))), (1, .int (nI st)), (0, .ref (G.1 + 88))] dX9_shelves_90 (by decide) rfl ?_
                  refine aw_lv [(6, .int 0), (5, .int 0), (4, .int (nI la)), (3, .int (nI p)), (2, .int (nI (2 ^ sh1 - 1))), (1, .int (nI st)), (0, .ref (G.1 + 88))] [0, 1, 2, 3, 4, 5, 6] rfl ?_
                  suffices L3408 : ∀ (mm : Nat) (k : Nat), sh1 - k < mm → (k ≤ sh1) → AW l G yX9_shelves cX9_shelves 7 (some .int) (xR 2 0 0) (fun _ _ => True) QF 0 0 92 [(6, .int (nI k)), (5, .int 0), (4, .int (nI la)), (3, .int (nI p)), (2, .int (nI (2 ^ sh1 - 1))), (1, .int (nI st)), (0, .ref (G.1 + 88))] [] h3394 from L3408 (sh1 - 0 + 1) 0 (Nat.lt_succ_self _) (Nat.zero_le _)
                  intro mm
                  induction mm with
                  | zero =>
                    intro k hmm hk
                    exact absurd hmm (Nat.not_lt_zero _)
                  | succ mm ih3408 =>
                    intro k hmm hk
                    refine aw_iload 0 dX9_shelves_92 rfl ?_
                    refine aw_aload_n 6 dX9_shelves_94 rfl rfl ?_
                    refine aw_get fX9_233 dX9_shelves_95 f3395 rfl ?_
                    refine aw_icmp_ge 153 dX9_shelves_98 (by decide) (fun c98 => ?_) (fun c98 => ?_)
                    · have d98 := (nv_le (a := sh1) (b := k) (rfl) (rfl) (by omega) (by omega)).mp c98
                      refine aw_aload_n 6 dX9_shelves_153 rfl rfl ?_
                      refine aw_get fX9_113 dX9_shelves_154 f3395 rfl ?_
                      refine aw_bipush (9) dX9_shelves_157 (by decide) ?_
                      refine aw_iload_n 3 dX9_shelves_159 rfl rfl ?_
                      refine aw_imul dX9_shelves_160 ?_
                      refine aw_toe (nI (9 * p)) (nv_mul (rfl) (rfl)) ?_
                      refine aw_iload 2 dX9_shelves_161 rfl ?_
                      refine aw_iadd dX9_shelves_163 ?_
                      refine aw_toe (nI ((9 * p) + la)) (nv_add (rfl) (rfl)) ?_
                      refine aw_iconst (1) dX9_shelves_164 (by decide) ?_
                      refine aw_iadd dX9_shelves_165 ?_
                      refine aw_toe (nI (((9 * p) + la) + 1)) (nv_add (rfl) (rfl)) ?_
                      refine aw_iload 1 dX9_shelves_166 rfl ?_
                      refine aw_iast (((9 * p) + la) + 1) (rfl) (by omega) (by decide) dX9_shelves_168 f3401 ?_
                      refine aw_iinc (j := 2) (nI (la + 1)) [(4, .int (nI (la + 1))), (6, .int (nI k)), (5, .int 0), (3, .int (nI p)), (2, .int (nI (2 ^ sh1 - 1))), (1, .int (nI st)), (0, .ref (G.1 + 88))] dX9_shelves_169 rfl (nv_inc (rfl)) (by decide) rfl ?_
                      refine aw_goto 68 dX9_shelves_172 (by decide) ?_
                      refine aw_lv [(4, .int (nI (la + 1))), (3, .int (nI p)), (2, .int (nI (2 ^ sh1 - 1))), (1, .int (nI st)), (0, .ref (G.1 + 88))] [0, 3, 4, 5, 6] rfl ?_
                      exact ih3404 (la + 1 + 1) (nI (la + 1)) (upd rs2 (((9 * p) + la) + 1) 0) _ (by omega) (by omega) (Or.inr ⟨la + 1, rfl, rfl⟩) (rs_up (L := la + 1) hR2 hsh1 (by omega) (by rw [show (RS st so xx yy tr tg1 sh1 nv p (la + 1)) = 0 from rsF_all d79]; rfl)) (gn (by decide) (f3395)) (gn (by decide) (f3396)) (gn (by decide) (f3397)) (gn (by decide) (f3398)) (gn (by decide) (f3399)) (gn (by decide) (f3400)) (gs f3401) (gn (by decide) (f3402)) (rg2_set (k3403) (by decide))
                    · have d98 := mt (nv_le (a := sh1) (b := k) (rfl) (rfl) (by omega) (by omega)).mpr c98
                      refine aw_iload_n 3 dX9_shelves_101 rfl rfl ?_
                      refine aw_iload 0 dX9_shelves_102 rfl ?_
                      refine aw_ishr dX9_shelves_104 ?_
                      refine aw_iconst (1) dX9_shelves_105 (by decide) ?_
                      refine aw_iand dX9_shelves_106 ?_
                      refine aw_toe (if p.testBit k = true then 1 else 0) (nv_bit (rfl) (rfl) (by omega) (by omega)) ?_
                      refine aw_if_ne 147 dX9_shelves_107 (by decide) (fun c107 => ?_) (fun c107 => ?_)
                      · have t107 := ite_1 c107
                        refine aw_iinc (j := 0) (nI (k + 1)) [(6, .int (nI (k + 1))), (5, .int 0), (4, .int (nI la)), (3, .int (nI p)), (2, .int (nI (2 ^ sh1 - 1))), (1, .int (nI st)), (0, .ref (G.1 + 88))] dX9_shelves_147 rfl (nv_inc (rfl)) (by decide) rfl ?_
                        refine aw_goto 92 dX9_shelves_150 (by decide) ?_
                        refine aw_lv [(6, .int (nI (k + 1))), (5, .int 0), (4, .int (nI la)), (3, .int (nI p)), (2, .int (nI (2 ^ sh1 - 1))), (1, .int (nI st)), (0, .ref (G.1 + 88))] [0, 1, 2, 3, 4, 5, 6] rfl ?_
                        exact ih3408 (k + 1) (by omega) (by omega)
                      · have t107 := ite_0 c107
                        exact absurd (allbit d79 (by omega)) t107
    · have d10 := mt (nv_le (a := 12) (b := t) (rfl) (rfl) (by omega) (by omega)).mpr c10
      refine aw_iload_n 1 dX9_shelves_13 rfl rfl ?_
      refine aw_iload_n 0 dX9_shelves_14 rfl rfl ?_
      refine aw_ishr dX9_shelves_15 ?_
      refine aw_iconst (1) dX9_shelves_16 (by decide) ?_
      refine aw_iand dX9_shelves_17 ?_
      refine aw_toe (if st.testBit t = true then 1 else 0) (nv_bit (rfl) (rfl) (by omega) (by omega)) ?_
      refine aw_if_ne 24 dX9_shelves_18 (by decide) (fun c18 => ?_) (fun c18 => ?_)
      · have t18 := ite_1 c18
        have hl := thL_lt (s := st) t18 (by omega)
        have hl2 := rdF_len (st := st) (tg := tg) t
        rw [← hT] at hl2
        dsimp only at hl2
        rw [← popL] at hl
        refine aw_aload_n 2 dX9_shelves_24 rfl rfl ?_
        refine aw_get fX9_110 dX9_shelves_25 f3358 rfl ?_
        refine aw_aload_n 2 dX9_shelves_28 rfl rfl ?_
        refine aw_get fX9_233 dX9_shelves_29 f3358 rfl ?_
        refine aw_iload_n 0 dX9_shelves_32 rfl rfl ?_
        refine aw_iast sh1 (rfl) (by omega) (by decide) dX9_shelves_33 f3363 ?_
        rw [nA_u (f := tg1) (i := sh1) (x := (nI t)) (v := t) (rfl)]
        refine aw_aload_n 2 dX9_shelves_34 rfl rfl ?_
        refine aw_dup dX9_shelves_35 rfl ?_
        refine aw_get fX9_233 dX9_shelves_36 (gn (by decide) (f3358)) rfl ?_
        refine aw_iconst (1) dX9_shelves_39 (by decide) ?_
        refine aw_iadd dX9_shelves_40 ?_
        refine aw_toe (nI (sh1 + 1)) (nv_add (rfl) (rfl)) ?_
        refine aw_putQ fX9_233 dX9_shelves_41 (lM G (nI sp) (nI fa) (nI nb) (nI ns) (nI nm) ho ow sl (nI nv) (nI (sh1 + 1))) (gn (by decide) (f3358)) rfl rfl rfl (Nat.le_of_ble_eq_true rfl) rfl ?_
        refine aw_iinc (j := 0) (nI (t + 1)) [(2, .int (nI (t + 1))), (1, .int (nI st)), (0, .ref (G.1 + 88))] dX9_shelves_44 rfl (nv_inc (rfl)) (by decide) rfl ?_
        refine aw_goto 7 dX9_shelves_47 (by decide) ?_
        refine aw_lv [(2, .int (nI (t + 1))), (1, .int (nI st)), (0, .ref (G.1 + 88))] [0, 1, 2] rfl ?_
        exact ih3367 (t + 1) (sh1 + 1) (un tg1 sh1 t) _ (by omega) (by omega) (by simp only [rdF]; rw [if_pos (show st.testBit t = true from t18), ← hT]) (gs (gn (by decide) (f3358))) (gn (by decide) (gn (by decide) (f3359))) (gn (by decide) (gn (by decide) (f3360))) (gn (by decide) (gn (by decide) (f3361))) (gn (by decide) (gn (by decide) (f3362))) (gn (by decide) (gs f3363)) (gn (by decide) (gn (by decide) (f3364))) (gn (by decide) (gn (by decide) (f3365))) (rg2_set (rg2_set (k3366) (by decide)) (by decide))
      · have t18 := ite_0 c18
        refine aw_goto 44 dX9_shelves_21 (by decide) ?_
        refine aw_iinc (j := 0) (nI (t + 1)) [(2, .int (nI (t + 1))), (1, .int (nI st)), (0, .ref (G.1 + 88))] dX9_shelves_44 rfl (nv_inc (rfl)) (by decide) rfl ?_
        refine aw_goto 7 dX9_shelves_47 (by decide) ?_
        refine aw_lv [(2, .int (nI (t + 1))), (1, .int (nI st)), (0, .ref (G.1 + 88))] [0, 1, 2] rfl ?_
        exact ih3367 (t + 1) sh1 tg1 _ (by omega) (by omega) (by simp only [rdF]; rw [if_neg (show ¬ st.testBit t = true from t18)]; exact hT) f3358 f3359 f3360 f3361 f3362 f3363 f3364 f3365 (k3366)
