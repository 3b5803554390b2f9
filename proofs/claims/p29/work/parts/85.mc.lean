set_option maxHeartbeats 4000000 in
theorem bX9_winsL {l : Launch} {G : xG} {h : List va_E} {sp fa nb ns nm nv sh : Nat} {ho ow sl : Int32} {so xx yy tr tg : Nat → Nat} {yM : Nat → Int32} {st p nx la : Nat} (h88 : h[88]? = some (oB 9 (lM G (nI sp) (nI fa) (nI nb) (nI ns) (nI nm) ho ow sl (nI nv) (nI sh)))) (h116 : h[116]? = some (aI 40 (nA so))) (h117 : h[117]? = some (aI 40 (nA xx))) (h118 : h[118]? = some (aI 40 yM)) (h119 : h[119]? = some (aI 40 (nA tr))) (h120 : h[120]? = some (aI 8 (nA tg))) (htg : ∀ j, j < 8 → tg j < 12) (hsh : sh ≤ 8) (hnv : nv ≤ 40) (bso : ∀ j, j < 40 → so j < 4) (bxx : ∀ j, j < 40 → xx j < 12) (byy : ∀ j, j < 40 → yy j < 12) (btr : ∀ j, j < 40 → tr j ≤ 9) (hyM : ∀ j, j < nv → so j < 2 → yM j = nI (yy j)) (bst : st < 4096) (bp : p < 256) (bnx : nx < sh) (bla : la < 8) : CD l G yX9_wins cX9_wins 10 (some .int) 1 0 0 [.ref (G.1 + 88), .int (nI st), .int (nI p), .int (nI la), .int (nI nx)] h (some (.int (nI (wnF st so xx yy tr tg sh p (la + 1) nx nv)))) h := by
  refine cm_ofQ rfl (Nat.le_of_ble_eq_true rfl) [(0, .ref (G.1 + 88)), (1, .int (nI st)), (2, .int (nI p)), (3, .int (nI la)), (4, .int (nI nx))] rfl (fun QF hQF => ?_)
  refine aw_aload_n 0 dX9_wins_0 rfl rfl ?_
  refine aw_get fX9_110 dX9_wins_1 h88 rfl ?_
  refine aw_iload 4 dX9_wins_4 rfl ?_
  refine aw_iald nx (rfl) (by omega) (by decide) dX9_wins_6 h120 ?_
  refine aw_toe (nI (tg nx)) (rfl) ?_
  have b3312 := htg nx (by omega)
  refine aw_istore [(5, .int (nI (tg nx))), (0, .ref (G.1 + 88)), (1, .int (nI st)), (2, .int (nI p)), (3, .int (nI la)), (4, .int (nI nx))] dX9_wins_7 (by decide) rfl ?_
  refine aw_iconst (0) dX9_wins_9 (by decide) ?_
  refine aw_istore [(6, .int 0), (5, .int (nI (tg nx))), (0, .ref (G.1 + 88)), (1, .int (nI st)), (2, .int (nI p)), (3, .int (nI la)), (4, .int (nI nx))] dX9_wins_10 (by decide) rfl ?_
  refine aw_iconst (0) dX9_wins_12 (by decide) ?_
  refine aw_istore [(7, .int 0), (6, .int 0), (5, .int (nI (tg nx))), (0, .ref (G.1 + 88)), (1, .int (nI st)), (2, .int (nI p)), (3, .int (nI la)), (4, .int (nI nx))] dX9_wins_13 (by decide) rfl ?_
  refine aw_lv [(7, .int 0), (6, .int 0), (5, .int (nI (tg nx))), (4, .int (nI nx)), (3, .int (nI la)), (2, .int (nI p)), (1, .int (nI st)), (0, .ref (G.1 + 88))] [0, 1, 2, 7, 6, 5, 4, 3] rfl ?_
  suffices L3313 : ∀ (mm : Nat) (k : Nat) (wv : Nat), nv - k < mm → (k ≤ nv) → (wv = wnF st so xx yy tr tg sh p (la + 1) nx k) → AW l G yX9_wins cX9_wins 10 (some .int) (xR 1 0 0) (fun _ _ => True) QF 0 0 15 [(7, .int (nI k)), (6, .int (nI wv)), (5, .int (nI (tg nx))), (4, .int (nI nx)), (3, .int (nI la)), (2, .int (nI p)), (1, .int (nI st)), (0, .ref (G.1 + 88))] [] h from L3313 (nv - 0 + 1) 0 0 (Nat.lt_succ_self _) (Nat.zero_le _) (rfl)
  intro mm
  induction mm with
  | zero =>
    intro k wv hmm hk hw
    exact absurd hmm (Nat.not_lt_zero _)
  | succ mm ih3313 =>
    intro k wv hmm hk hw
    have b9 := wnF_le (st := st) (so := so) (xx := xx) (yy := yy) (tg := tg) (sh := sh) (p := p) (L := la + 1) (nx := nx) btr k (by omega)
    have eL : tg (la + 1 - 1) = tg la := rfl
    refine aw_iload 0 dX9_wins_15 rfl ?_
    refine aw_aload_n 7 dX9_wins_17 rfl rfl ?_
    refine aw_get fX9_227 dX9_wins_18 h88 rfl ?_
    refine aw_icmp_ge 308 dX9_wins_21 (by decide) (fun c21 => ?_) (fun c21 => ?_)
    · have d21 := (nv_le (a := nv) (b := k) (rfl) (rfl) (by omega) (by omega)).mp c21
      refine aw_iload 1 dX9_wins_308 rfl ?_
      subst hQF
      exact aw_iret rfl dX9_wins_310 (by decide) (by decide) ⟨by rw [hw, show k = nv by omega], rfl⟩
    · have d21 := mt (nv_le (a := nv) (b := k) (rfl) (rfl) (by omega) (by omega)).mpr c21
      refine aw_iload_n 6 dX9_wins_24 rfl rfl ?_
      refine aw_aload_n 7 dX9_wins_25 rfl rfl ?_
      refine aw_get fX9_101 dX9_wins_26 h88 rfl ?_
      refine aw_iload 0 dX9_wins_29 rfl ?_
      refine aw_iald k (rfl) (by omega) (by decide) dX9_wins_31 h117 ?_
      refine aw_toe (nI (xx k)) (rfl) ?_
      have b3314 := bxx k (by omega)
      refine aw_ishr dX9_wins_32 ?_
      refine aw_iconst (1) dX9_wins_33 (by decide) ?_
      refine aw_iand dX9_wins_34 ?_
      refine aw_toe (if st.testBit (xx k) = true then 1 else 0) (nv_bit (rfl) (rfl) (by omega) (by omega)) ?_
      refine aw_iconst (1) dX9_wins_35 (by decide) ?_
      refine aw_icmp_ne 69 dX9_wins_36 (by decide) (fun c36 => ?_) (fun c36 => ?_)
      · have t36 := ite_0e c36
        refine aw_iconst (0) dX9_wins_69 (by decide) ?_
        refine aw_istore [(8, .int 0), (7, .int (nI k)), (6, .int (nI wv)), (5, .int (nI (tg nx))), (4, .int (nI nx)), (3, .int (nI la)), (2, .int (nI p)), (1, .int (nI st)), (0, .ref (G.1 + 88))] dX9_wins_70 (by decide) rfl ?_
        refine aw_iload 0 dX9_wins_72 rfl ?_
        refine aw_if_ne 80 dX9_wins_74 (by decide) (fun c74 => absurd (by decide) c74) (fun c74 => ?_)
        refine aw_goto 302 dX9_wins_77 (by decide) ?_
        refine aw_iinc (j := 1) (nI (k + 1)) [(7, .int (nI (k + 1))), (8, .int 0), (6, .int (nI wv)), (5, .int (nI (tg nx))), (4, .int (nI nx)), (3, .int (nI la)), (2, .int (nI p)), (1, .int (nI st)), (0, .ref (G.1 + 88))] dX9_wins_302 rfl (nv_inc (rfl)) (by decide) rfl ?_
        refine aw_goto 15 dX9_wins_305 (by decide) ?_
        refine aw_lv [(7, .int (nI (k + 1))), (6, .int (nI wv)), (5, .int (nI (tg nx))), (4, .int (nI nx)), (3, .int (nI la)), (2, .int (nI p)), (1, .int (nI st)), (0, .ref (G.1 + 88))] [0, 2, 3, 4, 5, 6, 7, 8] rfl ?_
        exact ih3313 (k + 1) wv (by omega) (by omega) (wnF_n hw (fun q => t36 q.1))
      · have t36 := ite_1e c36
        refine aw_aload_n 7 dX9_wins_39 rfl rfl ?_
        refine aw_get fX9_98 dX9_wins_40 h88 rfl ?_
        refine aw_iload 0 dX9_wins_43 rfl ?_
        refine aw_iald k (rfl) (by omega) (by decide) dX9_wins_45 h116 ?_
        refine aw_toe (nI (so k)) (rfl) ?_
        have b3315 := bso k (by omega)
        refine aw_iconst (1) dX9_wins_46 (by decide) ?_
        refine aw_icmp_gt 65 dX9_wins_47 (by decide) (fun c47 => ?_) (fun c47 => ?_)
        · have d47 := (nv_lt (a := 1) (b := so k) (rfl) (rfl) (by omega) (by omega)).mp c47
          refine aw_iconst (1) dX9_wins_65 (by decide) ?_
          refine aw_goto 70 dX9_wins_66 (by decide) ?_
          refine aw_istore [(8, .int 1), (7, .int (nI k)), (6, .int (nI wv)), (5, .int (nI (tg nx))), (4, .int (nI nx)), (3, .int (nI la)), (2, .int (nI p)), (1, .int (nI st)), (0, .ref (G.1 + 88))] dX9_wins_70 (by decide) rfl ?_
          refine aw_iload 0 dX9_wins_72 rfl ?_
          refine aw_if_ne 80 dX9_wins_74 (by decide) (fun c74 => ?_) (fun c74 => absurd c74 (by decide))
          refine aw_aload_n 8 dX9_wins_80 rfl rfl ?_
          refine aw_get fX9_98 dX9_wins_81 h88 rfl ?_
          refine aw_iload 1 dX9_wins_84 rfl ?_
          refine aw_iald k (rfl) (by omega) (by decide) dX9_wins_86 h116 ?_
          refine aw_toe (nI (so k)) (rfl) ?_
          have b3316 := bso k (by omega)
          rcases (show so k = 0 ∨ so k = 1 ∨ so k = 2 ∨ so k = 3 by omega) with e0 | e0 | e0 | e0
          · refine aw_toe 0 (by rw [e0]; rfl) ?_
            refine aw_tableIn 112 dX9_wins_87 (by decide) (by decide) rfl (by decide) ?_
            refine aw_aload_n 8 dX9_wins_112 rfl rfl ?_
            refine aw_get fX9_104 dX9_wins_113 h88 rfl ?_
            refine aw_iload 1 dX9_wins_116 rfl ?_
            refine aw_iald k (rfl) (by omega) (by decide) dX9_wins_118 h118 ?_
            refine aw_toe (nI (yy k)) (hyM k (by omega) (by omega)) ?_
            have b3317 := byy k (by omega)
            refine aw_iload 3 dX9_wins_119 rfl ?_
            refine aw_icmp_ne 143 dX9_wins_121 (by decide) (fun c121 => ?_) (fun c121 => ?_)
            · have d121 := mt (nv_eq (a := yy k) (b := tg nx) (rfl) (rfl) (by omega) (by omega)).mpr c121
              refine aw_iconst (0) dX9_wins_143 (by decide) ?_
              refine aw_istore [(9, .int 0), (8, .int 1), (7, .int (nI k)), (6, .int (nI wv)), (5, .int (nI (tg nx))), (4, .int (nI nx)), (3, .int (nI la)), (2, .int (nI p)), (1, .int (nI st)), (0, .ref (G.1 + 88))] dX9_wins_144 (by decide) rfl ?_
              refine aw_goto 281 dX9_wins_146 (by decide) ?_
              refine aw_iload 3 dX9_wins_281 rfl ?_
              refine aw_iload 0 dX9_wins_283 rfl ?_
              refine aw_if_eq 298 dX9_wins_285 (by decide) (fun c285 => ?_) (fun c285 => absurd (by decide) c285)
              refine aw_iconst (0) dX9_wins_298 (by decide) ?_
              refine aw_iadd dX9_wins_299 ?_
              refine aw_toe (nI (wv + 0)) (nv_add (rfl) (rfl)) ?_
              refine aw_istore [(6, .int (nI (wv + 0))), (9, .int 0), (8, .int 1), (7, .int (nI k)), (5, .int (nI (tg nx))), (4, .int (nI nx)), (3, .int (nI la)), (2, .int (nI p)), (1, .int (nI st)), (0, .ref (G.1 + 88))] dX9_wins_300 (by decide) rfl ?_
              refine aw_iinc (j := 3) (nI (k + 1)) [(7, .int (nI (k + 1))), (6, .int (nI (wv + 0))), (9, .int 0), (8, .int 1), (5, .int (nI (tg nx))), (4, .int (nI nx)), (3, .int (nI la)), (2, .int (nI p)), (1, .int (nI st)), (0, .ref (G.1 + 88))] dX9_wins_302 rfl (nv_inc (rfl)) (by decide) rfl ?_
              refine aw_goto 15 dX9_wins_305 (by decide) ?_
              refine aw_lv [(7, .int (nI (k + 1))), (6, .int (nI (wv + 0))), (5, .int (nI (tg nx))), (4, .int (nI nx)), (3, .int (nI la)), (2, .int (nI p)), (1, .int (nI st)), (0, .ref (G.1 + 88))] [0, 1, 4, 5, 6, 7, 8, 9] rfl ?_
              exact ih3313 (k + 1) (wv + 0) (by omega) (by omega) (wnF_n hw (fun q => by rcases q with ⟨qa, qb, ⟨e, q1, q2⟩ | ⟨e, q1, q2⟩ | ⟨e, q1, q2⟩ | ⟨e, q1, q2⟩⟩ <;> first | omega | exact absurd q2 (by assumption)))
            · have d121 := (nv_eq (a := yy k) (b := tg nx) (rfl) (rfl) (by omega) (by omega)).mp c121
              refine aw_aload_n 8 dX9_wins_124 rfl rfl ?_
              refine aw_iload_n 6 dX9_wins_125 rfl rfl ?_
              refine aw_aload_n 8 dX9_wins_126 rfl rfl ?_
              refine aw_get fX9_101 dX9_wins_127 h88 rfl ?_
              refine aw_iload 1 dX9_wins_130 rfl ?_
              refine aw_iald k (rfl) (by omega) (by decide) dX9_wins_132 h117 ?_
              refine aw_toe (nI (xx k)) (rfl) ?_
              have b3318 := bxx k (by omega)
              refine aw_dV [.int (nI p), .int (nI (xx k))] [] lX9_230 vX9_stands mX9_stands dX9_wins_133 (bX9_stands (sp := sp) (fa := fa) (nb := nb) (ns := ns) (nm := nm) (nv := nv) (sh := sh) (ho := ho) (ow := ow) (sl := sl) (tg := tg) (p := p) (t := xx k) h88 h120 htg (by omega) (by omega) (by omega)) h88 rfl rfl rfl (Nat.le_of_ble_eq_true rfl) (by decide) (by decide) rfl ?_
              refine aw_if_eq 143 dX9_wins_136 (by decide) (fun c136 => ?_) (fun c136 => ?_)
              · have t136 := ite_0 c136
                refine aw_iconst (0) dX9_wins_143 (by decide) ?_
                refine aw_istore [(9, .int 0), (8, .int 1), (7, .int (nI k)), (6, .int (nI wv)), (5, .int (nI (tg nx))), (4, .int (nI nx)), (3, .int (nI la)), (2, .int (nI p)), (1, .int (nI st)), (0, .ref (G.1 + 88))] dX9_wins_144 (by decide) rfl ?_
                refine aw_goto 281 dX9_wins_146 (by decide) ?_
                refine aw_iload 3 dX9_wins_281 rfl ?_
                refine aw_iload 0 dX9_wins_283 rfl ?_
                refine aw_if_eq 298 dX9_wins_285 (by decide) (fun c285 => ?_) (fun c285 => absurd (by decide) c285)
                refine aw_iconst (0) dX9_wins_298 (by decide) ?_
                refine aw_iadd dX9_wins_299 ?_
                refine aw_toe (nI (wv + 0)) (nv_add (rfl) (rfl)) ?_
                refine aw_istore [(6, .int (nI (wv + 0))), (9, .int 0), (8, .int 1), (7, .int (nI k)), (5, .int (nI (tg nx))), (4, .int (nI nx)), (3, .int (nI la)), (2, .int (nI p)), (1, .int (nI st)), (0, .ref (G.1 + 88))] dX9_wins_300 (by decide) rfl ?_
                refine aw_iinc (j := 3) (nI (k + 1)) [(7, .int (nI (k + 1))), (6, .int (nI (wv + 0))), (9, .int 0), (8, .int 1), (5, .int (nI (tg nx))), (4, .int (nI nx)), (3, .int (nI la)), (2, .int (nI p)), (1, .int (nI st)), (0, .ref (G.1 + 88))] dX9_wins_302 rfl (nv_inc (rfl)) (by decide) rfl ?_
                refine aw_goto 15 dX9_wins_305 (by decide) ?_
                refine aw_lv [(7, .int (nI (k + 1))), (6, .int (nI (wv + 0))), (5, .int (nI (tg nx))), (4, .int (nI nx)), (3, .int (nI la)), (2, .int (nI p)), (1, .int (nI st)), (0, .ref (G.1 + 88))] [0, 1, 4, 5, 6, 7, 8, 9] rfl ?_
                exact ih3313 (k + 1) (wv + 0) (by omega) (by omega) (wnF_n hw (fun q => by rcases q with ⟨qa, qb, ⟨e, q1, q2⟩ | ⟨e, q1, q2⟩ | ⟨e, q1, q2⟩ | ⟨e, q1, q2⟩⟩ <;> first | omega | exact absurd q2 (by assumption)))
              · have t136 := ite_1 c136
                refine aw_iconst (1) dX9_wins_139 (by decide) ?_
                refine aw_goto 144 dX9_wins_140 (by decide) ?_
                refine aw_istore [(9, .int 1), (8, .int 1), (7, .int (nI k)), (6, .int (nI wv)), (5, .int (nI (tg nx))), (4, .int (nI nx)), (3, .int (nI la)), (2, .int (nI p)), (1, .int (nI st)), (0, .ref (G.1 + 88))] dX9_wins_144 (by decide) rfl ?_
                refine aw_goto 281 dX9_wins_146 (by decide) ?_
                refine aw_iload 3 dX9_wins_281 rfl ?_
                refine aw_iload 0 dX9_wins_283 rfl ?_
                refine aw_if_eq 298 dX9_wins_285 (by decide) (fun c285 => absurd c285 (by decide)) (fun c285 => ?_)
                refine aw_aload_n 9 dX9_wins_288 rfl rfl ?_
                refine aw_get fX9_107 dX9_wins_289 h88 rfl ?_
                refine aw_iload 2 dX9_wins_292 rfl ?_
                refine aw_iald k (rfl) (by omega) (by decide) dX9_wins_294 h119 ?_
                refine aw_toe (nI (tr k)) (rfl) ?_
                have b3319 := btr k (by omega)
                refine aw_goto 299 dX9_wins_295 (by decide) ?_
                refine aw_iadd dX9_wins_299 ?_
                refine aw_toe (nI (wv + (tr k))) (nv_add (rfl) (rfl)) ?_
                refine aw_istore [(6, .int (nI (wv + (tr k)))), (9, .int 1), (8, .int 1), (7, .int (nI k)), (5, .int (nI (tg nx))), (4, .int (nI nx)), (3, .int (nI la)), (2, .int (nI p)), (1, .int (nI st)), (0, .ref (G.1 + 88))] dX9_wins_300 (by decide) rfl ?_
                refine aw_iinc (j := 3) (nI (k + 1)) [(7, .int (nI (k + 1))), (6, .int (nI (wv + (tr k)))), (9, .int 1), (8, .int 1), (5, .int (nI (tg nx))), (4, .int (nI nx)), (3, .int (nI la)), (2, .int (nI p)), (1, .int (nI st)), (0, .ref (G.1 + 88))] dX9_wins_302 rfl (nv_inc (rfl)) (by decide) rfl ?_
                refine aw_goto 15 dX9_wins_305 (by decide) ?_
                refine aw_lv [(7, .int (nI (k + 1))), (6, .int (nI (wv + (tr k)))), (5, .int (nI (tg nx))), (4, .int (nI nx)), (3, .int (nI la)), (2, .int (nI p)), (1, .int (nI st)), (0, .ref (G.1 + 88))] [0, 1, 4, 5, 6, 7, 8, 9] rfl ?_
                exact ih3313 (k + 1) (wv + (tr k)) (by omega) (by omega) (wnF_y hw ⟨t36, Or.inl (by omega), Or.inl ⟨e0, by omega, t136⟩⟩)
          · refine aw_toe 1 (by rw [e0]; rfl) ?_
            refine aw_tableIn 149 dX9_wins_87 (by decide) (by decide) rfl (by decide) ?_
            refine aw_iload_n 5 dX9_wins_149 rfl rfl ?_
            refine aw_if_lt 213 dX9_wins_150 (by decide) (fun c150 => absurd c150 (by simp only [i_lt, (nI_toInt (n := la) (by omega)), (show (0 : Int32).toInt = 0 from rfl)] <;> omega)) (fun c150 => ?_)
            refine aw_aload_n 8 dX9_wins_153 rfl rfl ?_
            refine aw_get fX9_101 dX9_wins_154 h88 rfl ?_
            refine aw_iload 1 dX9_wins_157 rfl ?_
            refine aw_iald k (rfl) (by omega) (by decide) dX9_wins_159 h117 ?_
            refine aw_toe (nI (xx k)) (rfl) ?_
            have b3320 := bxx k (by omega)
            refine aw_iload 3 dX9_wins_160 rfl ?_
            refine aw_icmp_ne 181 dX9_wins_162 (by decide) (fun c162 => ?_) (fun c162 => ?_)
            · have d162 := mt (nv_eq (a := xx k) (b := tg nx) (rfl) (rfl) (by omega) (by omega)).mpr c162
              refine aw_aload_n 8 dX9_wins_181 rfl rfl ?_
              refine aw_get fX9_104 dX9_wins_182 h88 rfl ?_
              refine aw_iload 1 dX9_wins_185 rfl ?_
              refine aw_iald k (rfl) (by omega) (by decide) dX9_wins_187 h118 ?_
              refine aw_toe (nI (yy k)) (hyM k (by omega) (by omega)) ?_
              have b3321 := byy k (by omega)
              refine aw_iload 3 dX9_wins_188 rfl ?_
              refine aw_icmp_ne 213 dX9_wins_190 (by decide) (fun c190 => ?_) (fun c190 => ?_)
              · have d190 := mt (nv_eq (a := yy k) (b := tg nx) (rfl) (rfl) (by omega) (by omega)).mpr c190
                refine aw_iconst (0) dX9_wins_213 (by decide) ?_
                refine aw_istore [(9, .int 0), (8, .int 1), (7, .int (nI k)), (6, .int (nI wv)), (5, .int (nI (tg nx))), (4, .int (nI nx)), (3, .int (nI la)), (2, .int (nI p)), (1, .int (nI st)), (0, .ref (G.1 + 88))] dX9_wins_214 (by decide) rfl ?_
                refine aw_goto 281 dX9_wins_216 (by decide) ?_
                refine aw_iload 3 dX9_wins_281 rfl ?_
                refine aw_iload 0 dX9_wins_283 rfl ?_
                refine aw_if_eq 298 dX9_wins_285 (by decide) (fun c285 => ?_) (fun c285 => absurd (by decide) c285)
                refine aw_iconst (0) dX9_wins_298 (by decide) ?_
                refine aw_iadd dX9_wins_299 ?_
                refine aw_toe (nI (wv + 0)) (nv_add (rfl) (rfl)) ?_
                refine aw_istore [(6, .int (nI (wv + 0))), (9, .int 0), (8, .int 1), (7, .int (nI k)), (5, .int (nI (tg nx))), (4, .int (nI nx)), (3, .int (nI la)), (2, .int (nI p)), (1, .int (nI st)), (0, .ref (G.1 + 88))] dX9_wins_300 (by decide) rfl ?_
                refine aw_iinc (j := 3) (nI (k + 1)) [(7, .int (nI (k + 1))), (6, .int (nI (wv + 0))), (9, .int 0), (8, .int 1), (5, .int (nI (tg nx))), (4, .int (nI nx)), (3, .int (nI la)), (2, .int (nI p)), (1, .int (nI st)), (0, .ref (G.1 + 88))] dX9_wins_302 rfl (nv_inc (rfl)) (by decide) rfl ?_
                refine aw_goto 15 dX9_wins_305 (by decide) ?_
                refine aw_lv [(7, .int (nI (k + 1))), (6, .int (nI (wv + 0))), (5, .int (nI (tg nx))), (4, .int (nI nx)), (3, .int (nI la)), (2, .int (nI p)), (1, .int (nI st)), (0, .ref (G.1 + 88))] [0, 1, 4, 5, 6, 7, 8, 9] rfl ?_
                exact ih3313 (k + 1) (wv + 0) (by omega) (by omega) (wnF_n hw (fun q => by rcases q with ⟨qa, qb, ⟨e, q1, q2⟩ | ⟨e, q1, q2⟩ | ⟨e, q1, q2⟩ | ⟨e, q1, q2⟩⟩ <;> first | omega | exact absurd q2 (by assumption)))
              · have d190 := (nv_eq (a := yy k) (b := tg nx) (rfl) (rfl) (by omega) (by omega)).mp c190
                refine aw_aload_n 8 dX9_wins_193 rfl rfl ?_
                refine aw_get fX9_101 dX9_wins_194 h88 rfl ?_
                refine aw_iload 1 dX9_wins_197 rfl ?_
                refine aw_iald k (rfl) (by omega) (by decide) dX9_wins_199 h117 ?_
                refine aw_toe (nI (xx k)) (rfl) ?_
                have b3322 := bxx k (by omega)
                refine aw_aload_n 8 dX9_wins_200 rfl rfl ?_
                refine aw_get fX9_110 dX9_wins_201 h88 rfl ?_
                refine aw_iload_n 5 dX9_wins_204 rfl rfl ?_
                refine aw_iald la (rfl) (by omega) (by decide) dX9_wins_205 h120 ?_
                refine aw_toe (nI (tg la)) (rfl) ?_
                have b3323 := htg la (by omega)
                refine aw_icmp_ne 213 dX9_wins_206 (by decide) (fun c206 => ?_) (fun c206 => ?_)
                · have d206 := mt (nv_eq (a := xx k) (b := tg la) (rfl) (rfl) (by omega) (by omega)).mpr c206
                  refine aw_iconst (0) dX9_wins_213 (by decide) ?_
                  refine aw_istore [(9, .int 0), (8, .int 1), (7, .int (nI k)), (6, .int (nI wv)), (5, .int (nI (tg nx))), (4, .int (nI nx)), (3, .int (nI la)), (2, .int (nI p)), (1, .int (nI st)), (0, .ref (G.1 + 88))] dX9_wins_214 (by decide) rfl ?_
                  refine aw_goto 281 dX9_wins_216 (by decide) ?_
                  refine aw_iload 3 dX9_wins_281 rfl ?_
                  refine aw_iload 0 dX9_wins_283 rfl ?_
                  refine aw_if_eq 298 dX9_wins_285 (by decide) (fun c285 => ?_) (fun c285 => absurd (by decide) c285)
                  refine aw_iconst (0) dX9_wins_298 (by decide) ?_
                  refine aw_iadd dX9_wins_299 ?_
                  refine aw_toe (nI (wv + 0)) (nv_add (rfl) (rfl)) ?_
                  refine aw_istore [(6, .int (nI (wv + 0))), (9, .int 0), (8, .int 1), (7, .int (nI k)), (5, .int (nI (tg nx))), (4, .int (nI nx)), (3, .int (nI la)), (2, .int (nI p)), (1, .int (nI st)), (0, .ref (G.1 + 88))] dX9_wins_300 (by decide) rfl ?_
                  refine aw_iinc (j := 3) (nI (k + 1)) [(7, .int (nI (k + 1))), (6, .int (nI (wv + 0))), (9, .int 0), (8, .int 1), (5, .int (nI (tg nx))), (4, .int (nI nx)), (3, .int (nI la)), (2, .int (nI p)), (1, .int (nI st)), (0, .ref (G.1 + 88))] dX9_wins_302 rfl (nv_inc (rfl)) (by decide) rfl ?_
                  refine aw_goto 15 dX9_wins_305 (by decide) ?_
                  refine aw_lv [(7, .int (nI (k + 1))), (6, .int (nI (wv + 0))), (5, .int (nI (tg nx))), (4, .int (nI nx)), (3, .int (nI la)), (2, .int (nI p)), (1, .int (nI st)), (0, .ref (G.1 + 88))] [0, 1, 4, 5, 6, 7, 8, 9] rfl ?_
                  exact ih3313 (k + 1) (wv + 0) (by omega) (by omega) (wnF_n hw (fun q => by rcases q with ⟨qa, qb, ⟨e, q1, q2⟩ | ⟨e, q1, q2⟩ | ⟨e, q1, q2⟩ | ⟨e, q1, q2⟩⟩ <;> first | omega | exact absurd q2 (by assumption)))
                · have d206 := (nv_eq (a := xx k) (b := tg la) (rfl) (rfl) (by omega) (by omega)).mp c206
                  refine aw_iconst (1) dX9_wins_209 (by decide) ?_
                  refine aw_goto 214 dX9_wins_210 (by decide) ?_
                  refine aw_istore [(9, .int 1), (8, .int 1), (7, .int (nI k)), (6, .int (nI wv)), (5, .int (nI (tg nx))), (4, .int (nI nx)), (3, .int (nI la)), (2, .int (nI p)), (1, .int (nI st)), (0, .ref (G.1 + 88))] dX9_wins_214 (by decide) rfl ?_
                  refine aw_goto 281 dX9_wins_216 (by decide) ?_
                  refine aw_iload 3 dX9_wins_281 rfl ?_
                  refine aw_iload 0 dX9_wins_283 rfl ?_
                  refine aw_if_eq 298 dX9_wins_285 (by decide) (fun c285 => absurd c285 (by decide)) (fun c285 => ?_)
                  refine aw_aload_n 9 dX9_wins_288 rfl rfl ?_
                  refine aw_get fX9_107 dX9_wins_289 h88 rfl ?_
                  refine aw_iload 2 dX9_wins_292 rfl ?_
                  refine aw_iald k (rfl) (by omega) (by decide) dX9_wins_294 h119 ?_
                  refine aw_toe (nI (tr k)) (rfl) ?_
                  have b3324 := btr k (by omega)
                  refine aw_goto 299 dX9_wins_295 (by decide) ?_
                  refine aw_iadd dX9_wins_299 ?_
                  refine aw_toe (nI (wv + (tr k))) (nv_add (rfl) (rfl)) ?_
                  refine aw_istore [(6, .int (nI (wv + (tr k)))), (9, .int 1), (8, .int 1), (7, .int (nI k)), (5, .int (nI (tg nx))), (4, .int (nI nx)), (3, .int (nI la)), (2, .int (nI p)), (1, .int (nI st)), (0, .ref (G.1 + 88))] dX9_wins_300 (by decide) rfl ?_
                  refine aw_iinc (j := 3) (nI (k + 1)) [(7, .int (nI (k + 1))), (6, .int (nI (wv + (tr k)))), (9, .int 1), (8, .int 1), (5, .int (nI (tg nx))), (4, .int (nI nx)), (3, .int (nI la)), (2, .int (nI p)), (1, .int (nI st)), (0, .ref (G.1 + 88))] dX9_wins_302 rfl (nv_inc (rfl)) (by decide) rfl ?_
                  refine aw_goto 15 dX9_wins_305 (by decide) ?_
                  refine aw_lv [(7, .int (nI (k + 1))), (6, .int (nI (wv + (tr k)))), (5, .int (nI (tg nx))), (4, .int (nI nx)), (3, .int (nI la)), (2, .int (nI p)), (1, .int (nI st)), (0, .ref (G.1 + 88))] [0, 1, 4, 5, 6, 7, 8, 9] rfl ?_
                  exact ih3313 (k + 1) (wv + (tr k)) (by omega) (by omega) (wnF_y hw ⟨t36, Or.inl (by omega), Or.inr (Or.inl ⟨e0, by omega, by omega⟩)⟩)
            · have d162 := (nv_eq (a := xx k) (b := tg nx) (rfl) (rfl) (by omega) (by omega)).mp c162
              refine aw_aload_n 8 dX9_wins_165 rfl rfl ?_
              refine aw_get fX9_104 dX9_wins_166 h88 rfl ?_
              refine aw_iload 1 dX9_wins_169 rfl ?_
              refine aw_iald k (rfl) (by omega) (by decide) dX9_wins_171 h118 ?_
              refine aw_toe (nI (yy k)) (hyM k (by omega) (by omega)) ?_
              have b3325 := byy k (by omega)
              refine aw_aload_n 8 dX9_wins_172 rfl rfl ?_
              refine aw_get fX9_110 dX9_wins_173 h88 rfl ?_
              refine aw_iload_n 5 dX9_wins_176 rfl rfl ?_
              refine aw_iald la (rfl) (by omega) (by decide) dX9_wins_177 h120 ?_
              refine aw_toe (nI (tg la)) (rfl) ?_
              have b3326 := htg la (by omega)
              refine aw_icmp_eq 209 dX9_wins_178 (by decide) (fun c178 => ?_) (fun c178 => ?_)
              · have d178 := (nv_eq (a := yy k) (b := tg la) (rfl) (rfl) (by omega) (by omega)).mp c178
                refine aw_iconst (1) dX9_wins_209 (by decide) ?_
                refine aw_goto 214 dX9_wins_210 (by decide) ?_
                refine aw_istore [(9, .int 1), (8, .int 1), (7, .int (nI k)), (6, .int (nI wv)), (5, .int (nI (tg nx))), (4, .int (nI nx)), (3, .int (nI la)), (2, .int (nI p)), (1, .int (nI st)), (0, .ref (G.1 + 88))] dX9_wins_214 (by decide) rfl ?_
                refine aw_goto 281 dX9_wins_216 (by decide) ?_
                refine aw_iload 3 dX9_wins_281 rfl ?_
                refine aw_iload 0 dX9_wins_283 rfl ?_
                refine aw_if_eq 298 dX9_wins_285 (by decide) (fun c285 => absurd c285 (by decide)) (fun c285 => ?_)
                refine aw_aload_n 9 dX9_wins_288 rfl rfl ?_
                refine aw_get fX9_107 dX9_wins_289 h88 rfl ?_
                refine aw_iload 2 dX9_wins_292 rfl ?_
                refine aw_iald k (rfl) (by omega) (by decide) dX9_wins_294 h119 ?_
                refine aw_toe (nI (tr k)) (rfl) ?_
                have b3327 := btr k (by omega)
                refine aw_goto 299 dX9_wins_295 (by decide) ?_
                refine aw_iadd dX9_wins_299 ?_
                refine aw_toe (nI (wv + (tr k))) (nv_add (rfl) (rfl)) ?_
                refine aw_istore [(6, .int (nI (wv + (tr k)))), (9, .int 1), (8, .int 1), (7, .int (nI k)), (5, .int (nI (tg nx))), (4, .int (nI nx)), (3, .int (nI la)), (2, .int (nI p)), (1, .int (nI st)), (0, .ref (G.1 + 88))] dX9_wins_300 (by decide) rfl ?_
                refine aw_iinc (j := 3) (nI (k + 1)) [(7, .int (nI (k + 1))), (6, .int (nI (wv + (tr k)))), (9, .int 1), (8, .int 1), (5, .int (nI (tg nx))), (4, .int (nI nx)), (3, .int (nI la)), (2, .int (nI p)), (1, .int (nI st)), (0, .ref (G.1 + 88))] dX9_wins_302 rfl (nv_inc (rfl)) (by decide) rfl ?_
                refine aw_goto 15 dX9_wins_305 (by decide) ?_
                refine aw_lv [(7, .int (nI (k + 1))), (6, .int (nI (wv + (tr k)))), (5, .int (nI (tg nx))), (4, .int (nI nx)), (3, .int (nI la)), (2, .int (nI p)), (1, .int (nI st)), (0, .ref (G.1 + 88))] [0, 1, 4, 5, 6, 7, 8, 9] rfl ?_
                exact ih3313 (k + 1) (wv + (tr k)) (by omega) (by omega) (wnF_y hw ⟨t36, Or.inl (by omega), Or.inr (Or.inl ⟨e0, by omega, by omega⟩)⟩)
              · have d178 := mt (nv_eq (a := yy k) (b := tg la) (rfl) (rfl) (by omega) (by omega)).mpr c178
                refine aw_aload_n 8 dX9_wins_181 rfl rfl ?_
                refine aw_get fX9_104 dX9_wins_182 h88 rfl ?_
                refine aw_iload 1 dX9_wins_185 rfl ?_
                refine aw_iald k (rfl) (by omega) (by decide) dX9_wins_187 h118 ?_
                refine aw_toe (nI (yy k)) (hyM k (by omega) (by omega)) ?_
                have b3328 := byy k (by omega)
                refine aw_iload 3 dX9_wins_188 rfl ?_
                refine aw_icmp_ne 213 dX9_wins_190 (by decide) (fun c190 => ?_) (fun c190 => ?_)
                · have d190 := mt (nv_eq (a := yy k) (b := tg nx) (rfl) (rfl) (by omega) (by omega)).mpr c190
                  refine aw_iconst (0) dX9_wins_213 (by decide) ?_
                  refine aw_istore [(9, .int 0), (8, .int 1), (7, .int (nI k)), (6, .int (nI wv)), (5, .int (nI (tg nx))), (4, .int (nI nx)), (3, .int (nI la)), (2, .int (nI p)), (1, .int (nI st)), (0, .ref (G.1 + 88))] dX9_wins_214 (by decide) rfl ?_
                  refine aw_goto 281 dX9_wins_216 (by decide) ?_
                  refine aw_iload 3 dX9_wins_281 rfl ?_
                  refine aw_iload 0 dX9_wins_283 rfl ?_
                  refine aw_if_eq 298 dX9_wins_285 (by decide) (fun c285 => ?_) (fun c285 => absurd (by decide) c285)
                  refine aw_iconst (0) dX9_wins_298 (by decide) ?_
                  refine aw_iadd dX9_wins_299 ?_
                  refine aw_toe (nI (wv + 0)) (nv_add (rfl) (rfl)) ?_
                  refine aw_istore [(6, .int (nI (wv + 0))), (9, .int 0), (8, .int 1), (7, .int (nI k)), (5, .int (nI (tg nx))), (4, .int (nI nx)), (3, .int (nI la)), (2, .int (nI p)), (1, .int (nI st)), (0, .ref (G.1 + 88))] dX9_wins_300 (by decide) rfl ?_
                  refine aw_iinc (j := 3) (nI (k + 1)) [(7, .int (nI (k + 1))), (6, .int (nI (wv + 0))), (9, .int 0), (8, .int 1), (5, .int (nI (tg nx))), (4, .int (nI nx)), (3, .int (nI la)), (2, .int (nI p)), (1, .int (nI st)), (0, .ref (G.1 + 88))] dX9_wins_302 rfl (nv_inc (rfl)) (by decide) rfl ?_
                  refine aw_goto 15 dX9_wins_305 (by decide) ?_
                  refine aw_lv [(7, .int (nI (k + 1))), (6, .int (nI (wv + 0))), (5, .int (nI (tg nx))), (4, .int (nI nx)), (3, .int (nI la)), (2, .int (nI p)), (1, .int (nI st)), (0, .ref (G.1 + 88))] [0, 1, 4, 5, 6, 7, 8, 9] rfl ?_
                  exact ih3313 (k + 1) (wv + 0) (by omega) (by omega) (wnF_n hw (fun q => by rcases q with ⟨qa, qb, ⟨e, q1, q2⟩ | ⟨e, q1, q2⟩ | ⟨e, q1, q2⟩ | ⟨e, q1, q2⟩⟩ <;> first | omega | exact absurd q2 (by assumption)))
                · have d190 := (nv_eq (a := yy k) (b := tg nx) (rfl) (rfl) (by omega) (by omega)).mp c190
                  refine aw_aload_n 8 dX9_wins_193 rfl rfl ?_
                  refine aw_get fX9_101 dX9_wins_194 h88 rfl ?_
                  refine aw_iload 1 dX9_wins_197 rfl ?_
                  refine aw_iald k (rfl) (by omega) (by decide) dX9_wins_199 h117 ?_
                  refine aw_toe (nI (xx k)) (rfl) ?_
                  have b3329 := bxx k (by omega)
                  refine aw_aload_n 8 dX9_wins_200 rfl rfl ?_
                  refine aw_get fX9_110 dX9_wins_201 h88 rfl ?_
                  refine aw_iload_n 5 dX9_wins_204 rfl rfl ?_
                  refine aw_iald la (rfl) (by omega) (by decide) dX9_wins_205 h120 ?_
                  refine aw_toe (nI (tg la)) (rfl) ?_
                  have b3330 := htg la (by omega)
                  refine aw_icmp_ne 213 dX9_wins_206 (by decide) (fun c206 => ?_) (fun c206 => ?_)
                  · have d206 := mt (nv_eq (a := xx k) (b := tg la) (rfl) (rfl) (by omega) (by omega)).mpr c206
                    refine aw_iconst (0) dX9_wins_213 (by decide) ?_
                    refine aw_istore [(9, .int 0), (8, .int 1), (7, .int (nI k)), (6, .int (nI wv)), (5, .int (nI (tg nx))), (4, .int (nI nx)), (3, .int (nI la)), (2, .int (nI p)), (1, .int (nI st)), (0, .ref (G.1 + 88))] dX9_wins_214 (by decide) rfl ?_
                    refine aw_goto 281 dX9_wins_216 (by decide) ?_
                    refine aw_iload 3 dX9_wins_281 rfl ?_
                    refine aw_iload 0 dX9_wins_283 rfl ?_
                    refine aw_if_eq 298 dX9_wins_285 (by decide) (fun c285 => ?_) (fun c285 => absurd (by decide) c285)
                    refine aw_iconst (0) dX9_wins_298 (by decide) ?_
                    refine aw_iadd dX9_wins_299 ?_
                    refine aw_toe (nI (wv + 0)) (nv_add (rfl) (rfl)) ?_
                    refine aw_istore [(6, .int (nI (wv + 0))), (9, .int 0), (8, .int 1), (7, .int (nI k)), (5, .int (nI (tg nx))), (4, .int (nI nx)), (3, .int (nI la)), (2, .int (nI p)), (1, .int (nI st)), (0, .ref (G.1 + 88))] dX9_wins_300 (by decide) rfl ?_
                    refine aw_iinc (j := 3) (nI (k + 1)) [(7, .int (nI (k + 1))), (6, .int (nI (wv + 0))), (9, .int 0), (8, .int 1), (5, .int (nI (tg nx))), (4, .int (nI nx)), (3, .int (nI la)), (2, .int (nI p)), (1, .int (nI st)), (0, .ref (G.1 + 88))] dX9_wins_302 rfl (nv_inc (rfl)) (by decide) rfl ?_
                    refine aw_goto 15 dX9_wins_305 (by decide) ?_
                    refine aw_lv [(7, .int (nI (k + 1))), (6, .int (nI (wv + 0))), (5, .int (nI (tg nx))), (4, .int (nI nx)), (3, .int (nI la)), (2, .int (nI p)), (1, .int (nI st)), (0, .ref (G.1 + 88))] [0, 1, 4, 5, 6, 7, 8, 9] rfl ?_
                    exact ih3313 (k + 1) (wv + 0) (by omega) (by omega) (wnF_n hw (fun q => by rcases q with ⟨qa, qb, ⟨e, q1, q2⟩ | ⟨e, q1, q2⟩ | ⟨e, q1, q2⟩ | ⟨e, q1, q2⟩⟩ <;> first | omega | exact absurd q2 (by assumption)))
                  · have d206 := (nv_eq (a := xx k) (b := tg la) (rfl) (rfl) (by omega) (by omega)).mp c206
                    refine aw_iconst (1) dX9_wins_209 (by decide) ?_
                    refine aw_goto 214 dX9_wins_210 (by decide) ?_
                    refine aw_istore [(9, .int 1), (8, .int 1), (7, .int (nI k)), (6, .int (nI wv)), (5, .int (nI (tg nx))), (4, .int (nI nx)), (3, .int (nI la)), (2, .int (nI p)), (1, .int (nI st)), (0, .ref (G.1 + 88))] dX9_wins_214 (by decide) rfl ?_
                    refine aw_goto 281 dX9_wins_216 (by decide) ?_
                    refine aw_iload 3 dX9_wins_281 rfl ?_
                    refine aw_iload 0 dX9_wins_283 rfl ?_
                    refine aw_if_eq 298 dX9_wins_285 (by decide) (fun c285 => absurd c285 (by decide)) (fun c285 => ?_)
                    refine aw_aload_n 9 dX9_wins_288 rfl rfl ?_
                    refine aw_get fX9_107 dX9_wins_289 h88 rfl ?_
                    refine aw_iload 2 dX9_wins_292 rfl ?_
                    refine aw_iald k (rfl) (by omega) (by decide) dX9_wins_294 h119 ?_
                    refine aw_toe (nI (tr k)) (rfl) ?_
                    have b3331 := btr k (by omega)
                    refine aw_goto 299 dX9_wins_295 (by decide) ?_
                    refine aw_iadd dX9_wins_299 ?_
                    refine aw_toe (nI (wv + (tr k))) (nv_add (rfl) (rfl)) ?_
                    refine aw_istore [(6, .int (nI (wv + (tr k)))), (9, .int 1), (8, .int 1), (7, .int (nI k)), (5, .int (nI (tg nx))), (4, .int (nI nx)), (3, .int (nI la)), (2, .int (nI p)), (1, .int (nI st)), (0, .ref (G.1 + 88))] dX9_wins_300 (by decide) rfl ?_
                    refine aw_iinc (j := 3) (nI (k + 1)) [(7, .int (nI (k + 1))), (6, .int (nI (wv + (tr k)))), (9, .int 1), (8, .int 1), (5, .int (nI (tg nx))), (4, .int (nI nx)), (3, .int (nI la)), (2, .int (nI p)), (1, .int (nI st)), (0, .ref (G.1 + 88))] dX9_wins_302 rfl (nv_inc (rfl)) (by decide) rfl ?_
                    refine aw_goto 15 dX9_wins_305 (by decide) ?_
                    refine aw_lv [(7, .int (nI (k + 1))), (6, .int (nI (wv + (tr k)))), (5, .int (nI (tg nx))), (4, .int (nI nx)), (3, .int (nI la)), (2, .int (nI p)), (1, .int (nI st)), (0, .ref (G.1 + 88))] [0, 1, 4, 5, 6, 7, 8, 9] rfl ?_
                    exact ih3313 (k + 1) (wv + (tr k)) (by omega) (by omega) (wnF_y hw ⟨t36, Or.inl (by omega), Or.inr (Or.inl ⟨e0, by omega, by omega⟩)⟩)
          · refine aw_toe 2 (by rw [e0]; rfl) ?_
            refine aw_tableIn 219 dX9_wins_87 (by decide) (by decide) rfl (by decide) ?_
            refine aw_aload_n 8 dX9_wins_219 rfl rfl ?_
            refine aw_get fX9_101 dX9_wins_220 h88 rfl ?_
            refine aw_iload 1 dX9_wins_223 rfl ?_
            refine aw_iald k (rfl) (by omega) (by decide) dX9_wins_225 h117 ?_
            refine aw_toe (nI (xx k)) (rfl) ?_
            have b3332 := bxx k (by omega)
            refine aw_iload 3 dX9_wins_226 rfl ?_
            refine aw_icmp_ne 239 dX9_wins_228 (by decide) (fun c228 => ?_) (fun c228 => ?_)
            · have d228 := mt (nv_eq (a := xx k) (b := tg nx) (rfl) (rfl) (by omega) (by omega)).mpr c228
              refine aw_iconst (0) dX9_wins_239 (by decide) ?_
              refine aw_istore [(9, .int 0), (8, .int 1), (7, .int (nI k)), (6, .int (nI wv)), (5, .int (nI (tg nx))), (4, .int (nI nx)), (3, .int (nI la)), (2, .int (nI p)), (1, .int (nI st)), (0, .ref (G.1 + 88))] dX9_wins_240 (by decide) rfl ?_
              refine aw_goto 281 dX9_wins_242 (by decide) ?_
              refine aw_iload 3 dX9_wins_281 rfl ?_
              refine aw_iload 0 dX9_wins_283 rfl ?_
              refine aw_if_eq 298 dX9_wins_285 (by decide) (fun c285 => ?_) (fun c285 => absurd (by decide) c285)
              refine aw_iconst (0) dX9_wins_298 (by decide) ?_
              refine aw_iadd dX9_wins_299 ?_
              refine aw_toe (nI (wv + 0)) (nv_add (rfl) (rfl)) ?_
              refine aw_istore [(6, .int (nI (wv + 0))), (9, .int 0), (8, .int 1), (7, .int (nI k)), (5, .int (nI (tg nx))), (4, .int (nI nx)), (3, .int (nI la)), (2, .int (nI p)), (1, .int (nI st)), (0, .ref (G.1 + 88))] dX9_wins_300 (by decide) rfl ?_
              refine aw_iinc (j := 3) (nI (k + 1)) [(7, .int (nI (k + 1))), (6, .int (nI (wv + 0))), (9, .int 0), (8, .int 1), (5, .int (nI (tg nx))), (4, .int (nI nx)), (3, .int (nI la)), (2, .int (nI p)), (1, .int (nI st)), (0, .ref (G.1 + 88))] dX9_wins_302 rfl (nv_inc (rfl)) (by decide) rfl ?_
              refine aw_goto 15 dX9_wins_305 (by decide) ?_
              refine aw_lv [(7, .int (nI (k + 1))), (6, .int (nI (wv + 0))), (5, .int (nI (tg nx))), (4, .int (nI nx)), (3, .int (nI la)), (2, .int (nI p)), (1, .int (nI st)), (0, .ref (G.1 + 88))] [0, 1, 4, 5, 6, 7, 8, 9] rfl ?_
              exact ih3313 (k + 1) (wv + 0) (by omega) (by omega) (wnF_n hw (fun q => by rcases q with ⟨qa, qb, ⟨e, q1, q2⟩ | ⟨e, q1, q2⟩ | ⟨e, q1, q2⟩ | ⟨e, q1, q2⟩⟩ <;> first | omega | exact absurd q2 (by assumption)))
            · have d228 := (nv_eq (a := xx k) (b := tg nx) (rfl) (rfl) (by omega) (by omega)).mp c228
              refine aw_iload_n 6 dX9_wins_231 rfl rfl ?_
              refine aw_if_ne 239 dX9_wins_232 (by decide) (fun c232 => ?_) (fun c232 => ?_)
              · have d232 := mt (nv_eq (a := p) (b := 0) (rfl) (rfl) (by omega) (by omega)).mpr c232
                refine aw_iconst (0) dX9_wins_239 (by decide) ?_
                refine aw_istore [(9, .int 0), (8, .int 1), (7, .int (nI k)), (6, .int (nI wv)), (5, .int (nI (tg nx))), (4, .int (nI nx)), (3, .int (nI la)), (2, .int (nI p)), (1, .int (nI st)), (0, .ref (G.1 + 88))] dX9_wins_240 (by decide) rfl ?_
                refine aw_goto 281 dX9_wins_242 (by decide) ?_
                refine aw_iload 3 dX9_wins_281 rfl ?_
                refine aw_iload 0 dX9_wins_283 rfl ?_
                refine aw_if_eq 298 dX9_wins_285 (by decide) (fun c285 => ?_) (fun c285 => absurd (by decide) c285)
                refine aw_iconst (0) dX9_wins_298 (by decide) ?_
                refine aw_iadd dX9_wins_299 ?_
                refine aw_toe (nI (wv + 0)) (nv_add (rfl) (rfl)) ?_
                refine aw_istore [(6, .int (nI (wv + 0))), (9, .int 0), (8, .int 1), (7, .int (nI k)), (5, .int (nI (tg nx))), (4, .int (nI nx)), (3, .int (nI la)), (2, .int (nI p)), (1, .int (nI st)), (0, .ref (G.1 + 88))] dX9_wins_300 (by decide) rfl ?_
                refine aw_iinc (j := 3) (nI (k + 1)) [(7, .int (nI (k + 1))), (6, .int (nI (wv + 0))), (9, .int 0), (8, .int 1), (5, .int (nI (tg nx))), (4, .int (nI nx)), (3, .int (nI la)), (2, .int (nI p)), (1, .int (nI st)), (0, .ref (G.1 + 88))] dX9_wins_302 rfl (nv_inc (rfl)) (by decide) rfl ?_
                refine aw_goto 15 dX9_wins_305 (by decide) ?_
                refine aw_lv [(7, .int (nI (k + 1))), (6, .int (nI (wv + 0))), (5, .int (nI (tg nx))), (4, .int (nI nx)), (3, .int (nI la)), (2, .int (nI p)), (1, .int (nI st)), (0, .ref (G.1 + 88))] [0, 1, 4, 5, 6, 7, 8, 9] rfl ?_
                exact ih3313 (k + 1) (wv + 0) (by omega) (by omega) (wnF_n hw (fun q => by rcases q with ⟨qa, qb, ⟨e, q1, q2⟩ | ⟨e, q1, q2⟩ | ⟨e, q1, q2⟩ | ⟨e, q1, q2⟩⟩ <;> first | omega | exact absurd q2 (by assumption)))
              · have d232 := (nv_eq (a := p) (b := 0) (rfl) (rfl) (by omega) (by omega)).mp c232
                refine aw_iconst (1) dX9_wins_235 (by decide) ?_
                refine aw_goto 240 dX9_wins_236 (by decide) ?_
                refine aw_istore [(9, .int 1), (8, .int 1), (7, .int (nI k)), (6, .int (nI wv)), (5, .int (nI (tg nx))), (4, .int (nI nx)), (3, .int (nI la)), (2, .int (nI p)), (1, .int (nI st)), (0, .ref (G.1 + 88))] dX9_wins_240 (by decide) rfl ?_
                refine aw_goto 281 dX9_wins_242 (by decide) ?_
                refine aw_iload 3 dX9_wins_281 rfl ?_
                refine aw_iload 0 dX9_wins_283 rfl ?_
                refine aw_if_eq 298 dX9_wins_285 (by decide) (fun c285 => absurd c285 (by decide)) (fun c285 => ?_)
                refine aw_aload_n 9 dX9_wins_288 rfl rfl ?_
                refine aw_get fX9_107 dX9_wins_289 h88 rfl ?_
                refine aw_iload 2 dX9_wins_292 rfl ?_
                refine aw_iald k (rfl) (by omega) (by decide) dX9_wins_294 h119 ?_
                refine aw_toe (nI (tr k)) (rfl) ?_
                have b3333 := btr k (by omega)
                refine aw_goto 299 dX9_wins_295 (by decide) ?_
                refine aw_iadd dX9_wins_299 ?_
                refine aw_toe (nI (wv + (tr k))) (nv_add (rfl) (rfl)) ?_
                refine aw_istore [(6, .int (nI (wv + (tr k)))), (9, .int 1), (8, .int 1), (7, .int (nI k)), (5, .int (nI (tg nx))), (4, .int (nI nx)), (3, .int (nI la)), (2, .int (nI p)), (1, .int (nI st)), (0, .ref (G.1 + 88))] dX9_wins_300 (by decide) rfl ?_
                refine aw_iinc (j := 3) (nI (k + 1)) [(7, .int (nI (k + 1))), (6, .int (nI (wv + (tr k)))), (9, .int 1), (8, .int 1), (5, .int (nI (tg nx))), (4, .int (nI nx)), (3, .int (nI la)), (2, .int (nI p)), (1, .int (nI st)), (0, .ref (G.1 + 88))] dX9_wins_302 rfl (nv_inc (rfl)) (by decide) rfl ?_
                refine aw_goto 15 dX9_wins_305 (by decide) ?_
                refine aw_lv [(7, .int (nI (k + 1))), (6, .int (nI (wv + (tr k)))), (5, .int (nI (tg nx))), (4, .int (nI nx)), (3, .int (nI la)), (2, .int (nI p)), (1, .int (nI st)), (0, .ref (G.1 + 88))] [0, 1, 4, 5, 6, 7, 8, 9] rfl ?_
                exact ih3313 (k + 1) (wv + (tr k)) (by omega) (by omega) (wnF_y hw ⟨t36, Or.inl (by omega), Or.inr (Or.inr (Or.inl ⟨e0, by omega, by omega⟩))⟩)
          · refine aw_toe 3 (by rw [e0]; rfl) ?_
            refine aw_tableOut 245 dX9_wins_87 (by decide) (by decide) ?_
            refine aw_aload_n 8 dX9_wins_245 rfl rfl ?_
            refine aw_get fX9_101 dX9_wins_246 h88 rfl ?_
            refine aw_iload 1 dX9_wins_249 rfl ?_
            refine aw_iald k (rfl) (by omega) (by decide) dX9_wins_251 h117 ?_
            refine aw_toe (nI (xx k)) (rfl) ?_
            have b3334 := bxx k (by omega)
            refine aw_iload 3 dX9_wins_252 rfl ?_
            refine aw_icmp_ne 278 dX9_wins_254 (by decide) (fun c254 => ?_) (fun c254 => ?_)
            · have d254 := mt (nv_eq (a := xx k) (b := tg nx) (rfl) (rfl) (by omega) (by omega)).mpr c254
              refine aw_iconst (0) dX9_wins_278 (by decide) ?_
              refine aw_istore [(9, .int 0), (8, .int 1), (7, .int (nI k)), (6, .int (nI wv)), (5, .int (nI (tg nx))), (4, .int (nI nx)), (3, .int (nI la)), (2, .int (nI p)), (1, .int (nI st)), (0, .ref (G.1 + 88))] dX9_wins_279 (by decide) rfl ?_
              refine aw_iload 3 dX9_wins_281 rfl ?_
              refine aw_iload 0 dX9_wins_283 rfl ?_
              refine aw_if_eq 298 dX9_wins_285 (by decide) (fun c285 => ?_) (fun c285 => absurd (by decide) c285)
              refine aw_iconst (0) dX9_wins_298 (by decide) ?_
              refine aw_iadd dX9_wins_299 ?_
              refine aw_toe (nI (wv + 0)) (nv_add (rfl) (rfl)) ?_
              refine aw_istore [(6, .int (nI (wv + 0))), (9, .int 0), (8, .int 1), (7, .int (nI k)), (5, .int (nI (tg nx))), (4, .int (nI nx)), (3, .int (nI la)), (2, .int (nI p)), (1, .int (nI st)), (0, .ref (G.1 + 88))] dX9_wins_300 (by decide) rfl ?_
              refine aw_iinc (j := 3) (nI (k + 1)) [(7, .int (nI (k + 1))), (6, .int (nI (wv + 0))), (9, .int 0), (8, .int 1), (5, .int (nI (tg nx))), (4, .int (nI nx)), (3, .int (nI la)), (2, .int (nI p)), (1, .int (nI st)), (0, .ref (G.1 + 88))] dX9_wins_302 rfl (nv_inc (rfl)) (by decide) rfl ?_
              refine aw_goto 15 dX9_wins_305 (by decide) ?_
              refine aw_lv [(7, .int (nI (k + 1))), (6, .int (nI (wv + 0))), (5, .int (nI (tg nx))), (4, .int (nI nx)), (3, .int (nI la)), (2, .int (nI p)), (1, .int (nI st)), (0, .ref (G.1 + 88))] [0, 1, 4, 5, 6, 7, 8, 9] rfl ?_
              exact ih3313 (k + 1) (wv + 0) (by omega) (by omega) (wnF_n hw (fun q => by rcases q with ⟨qa, qb, ⟨e, q1, q2⟩ | ⟨e, q1, q2⟩ | ⟨e, q1, q2⟩ | ⟨e, q1, q2⟩⟩ <;> first | omega | exact absurd q2 (by assumption)))
            · have d254 := (nv_eq (a := xx k) (b := tg nx) (rfl) (rfl) (by omega) (by omega)).mp c254
              refine aw_iload_n 6 dX9_wins_257 rfl rfl ?_
              refine aw_iconst (1) dX9_wins_258 (by decide) ?_
              refine aw_iload 4 dX9_wins_259 rfl ?_
              refine aw_ishl dX9_wins_261 ?_
              refine aw_toe (nI (2 ^ nx)) (nv_shl1 (rfl) (by omega)) ?_
              refine aw_ior dX9_wins_262 ?_
              refine aw_toe (nI (p ||| (2 ^ nx))) (nv_or (rfl) (rfl)) ?_
              have pw := pw8 sh hsh
              have bq := or_lt8 (a := p) (b := nx) bp (by omega)
              refine aw_iconst (1) dX9_wins_263 (by decide) ?_
              refine aw_aload_n 8 dX9_wins_264 rfl rfl ?_
              refine aw_get fX9_233 dX9_wins_265 h88 rfl ?_
              refine aw_ishl dX9_wins_268 ?_
              refine aw_toe (nI (2 ^ sh)) (nv_shl1 (rfl) (by omega)) ?_
              refine aw_iconst (1) dX9_wins_269 (by decide) ?_
              refine aw_isub dX9_wins_270 ?_
              refine aw_toe (nI ((2 ^ sh) - 1)) (nv_sub (rfl) (rfl) (by omega)) ?_
              refine aw_icmp_ne 278 dX9_wins_271 (by decide) (fun c271 => ?_) (fun c271 => ?_)
              · have d271 := mt (nv_eq (a := p ||| (2 ^ nx)) (b := (2 ^ sh) - 1) (rfl) (rfl) (by omega) (by omega)).mpr c271
                refine aw_iconst (0) dX9_wins_278 (by decide) ?_
                refine aw_istore [(9, .int 0), (8, .int 1), (7, .int (nI k)), (6, .int (nI wv)), (5, .int (nI (tg nx))), (4, .int (nI nx)), (3, .int (nI la)), (2, .int (nI p)), (1, .int (nI st)), (0, .ref (G.1 + 88))] dX9_wins_279 (by decide) rfl ?_
                refine aw_iload 3 dX9_wins_281 rfl ?_
                refine aw_iload 0 dX9_wins_283 rfl ?_
                refine aw_if_eq 298 dX9_wins_285 (by decide) (fun c285 => ?_) (fun c285 => absurd (by decide) c285)
                refine aw_iconst (0) dX9_wins_298 (by decide) ?_
                refine aw_iadd dX9_wins_299 ?_
                refine aw_toe (nI (wv + 0)) (nv_add (rfl) (rfl)) ?_
                refine aw_istore [(6, .int (nI (wv + 0))), (9, .int 0), (8, .int 1), (7, .int (nI k)), (5, .int (nI (tg nx))), (4, .int (nI nx)), (3, .int (nI la)), (2, .int (nI p)), (1, .int (nI st)), (0, .ref (G.1 + 88))] dX9_wins_300 (by decide) rfl ?_
                refine aw_iinc (j := 3) (nI (k + 1)) [(7, .int (nI (k + 1))), (6, .int (nI (wv + 0))), (9, .int 0), (8, .int 1), (5, .int (nI (tg nx))), (4, .int (nI nx)), (3, .int (nI la)), (2, .int (nI p)), (1, .int (nI st)), (0, .ref (G.1 + 88))] dX9_wins_302 rfl (nv_inc (rfl)) (by decide) rfl ?_
                refine aw_goto 15 dX9_wins_305 (by decide) ?_
                refine aw_lv [(7, .int (nI (k + 1))), (6, .int (nI (wv + 0))), (5, .int (nI (tg nx))), (4, .int (nI nx)), (3, .int (nI la)), (2, .int (nI p)), (1, .int (nI st)), (0, .ref (G.1 + 88))] [0, 1, 4, 5, 6, 7, 8, 9] rfl ?_
                exact ih3313 (k + 1) (wv + 0) (by omega) (by omega) (wnF_n hw (fun q => by rcases q with ⟨qa, qb, ⟨e, q1, q2⟩ | ⟨e, q1, q2⟩ | ⟨e, q1, q2⟩ | ⟨e, q1, q2⟩⟩ <;> first | omega | exact absurd q2 (by assumption)))
              · have d271 := (nv_eq (a := p ||| (2 ^ nx)) (b := (2 ^ sh) - 1) (rfl) (rfl) (by omega) (by omega)).mp c271
                refine aw_iconst (1) dX9_wins_274 (by decide) ?_
                refine aw_goto 279 dX9_wins_275 (by decide) ?_
                refine aw_istore [(9, .int 1), (8, .int 1), (7, .int (nI k)), (6, .int (nI wv)), (5, .int (nI (tg nx))), (4, .int (nI nx)), (3, .int (nI la)), (2, .int (nI p)), (1, .int (nI st)), (0, .ref (G.1 + 88))] dX9_wins_279 (by decide) rfl ?_
                refine aw_iload 3 dX9_wins_281 rfl ?_
                refine aw_iload 0 dX9_wins_283 rfl ?_
                refine aw_if_eq 298 dX9_wins_285 (by decide) (fun c285 => absurd c285 (by decide)) (fun c285 => ?_)
                refine aw_aload_n 9 dX9_wins_288 rfl rfl ?_
                refine aw_get fX9_107 dX9_wins_289 h88 rfl ?_
                refine aw_iload 2 dX9_wins_292 rfl ?_
                refine aw_iald k (rfl) (by omega) (by decide) dX9_wins_294 h119 ?_
                refine aw_toe (nI (tr k)) (rfl) ?_
                have b3335 := btr k (by omega)
                refine aw_goto 299 dX9_wins_295 (by decide) ?_
                refine aw_iadd dX9_wins_299 ?_
                refine aw_toe (nI (wv + (tr k))) (nv_add (rfl) (rfl)) ?_
                refine aw_istore [(6, .int (nI (wv + (tr k)))), (9, .int 1), (8, .int 1), (7, .int (nI k)), (5, .int (nI (tg nx))), (4, .int (nI nx)), (3, .int (nI la)), (2, .int (nI p)), (1, .int (nI st)), (0, .ref (G.1 + 88))] dX9_wins_300 (by decide) rfl ?_
                refine aw_iinc (j := 3) (nI (k + 1)) [(7, .int (nI (k + 1))), (6, .int (nI (wv + (tr k)))), (9, .int 1), (8, .int 1), (5, .int (nI (tg nx))), (4, .int (nI nx)), (3, .int (nI la)), (2, .int (nI p)), (1, .int (nI st)), (0, .ref (G.1 + 88))] dX9_wins_302 rfl (nv_inc (rfl)) (by decide) rfl ?_
                refine aw_goto 15 dX9_wins_305 (by decide) ?_
                refine aw_lv [(7, .int (nI (k + 1))), (6, .int (nI (wv + (tr k)))), (5, .int (nI (tg nx))), (4, .int (nI nx)), (3, .int (nI la)), (2, .int (nI p)), (1, .int (nI st)), (0, .ref (G.1 + 88))] [0, 1, 4, 5, 6, 7, 8, 9] rfl ?_
                exact ih3313 (k + 1) (wv + (tr k)) (by omega) (by omega) (wnF_y hw ⟨t36, Or.inl (by omega), Or.inr (Or.inr (Or.inr ⟨e0, by omega, d271⟩))⟩)
        · have d47 := mt (nv_lt (a := 1) (b := so k) (rfl) (rfl) (by omega) (by omega)).mpr c47
          refine aw_iload_n 6 dX9_wins_50 rfl rfl ?_
          refine aw_aload_n 7 dX9_wins_51 rfl rfl ?_
          refine aw_get fX9_104 dX9_wins_52 h88 rfl ?_
          refine aw_iload 0 dX9_wins_55 rfl ?_
          refine aw_iald k (rfl) (by omega) (by decide) dX9_wins_57 h118 ?_
          refine aw_toe (nI (yy k)) (hyM k (by omega) (by omega)) ?_
          have b3336 := byy k (by omega)
          refine aw_ishr dX9_wins_58 ?_
          refine aw_iconst (1) dX9_wins_59 (by decide) ?_
          refine aw_iand dX9_wins_60 ?_
          refine aw_toe (if st.testBit (yy k) = true then 1 else 0) (nv_bit (rfl) (rfl) (by omega) (by omega)) ?_
          refine aw_iconst (1) dX9_wins_61 (by decide) ?_
          refine aw_icmp_ne 69 dX9_wins_62 (by decide) (fun c62 => ?_) (fun c62 => ?_)
          · have t62 := ite_0e c62
            refine aw_iconst (0) dX9_wins_69 (by decide) ?_
            refine aw_istore [(8, .int 0), (7, .int (nI k)), (6, .int (nI wv)), (5, .int (nI (tg nx))), (4, .int (nI nx)), (3, .int (nI la)), (2, .int (nI p)), (1, .int (nI st)), (0, .ref (G.1 + 88))] dX9_wins_70 (by decide) rfl ?_
            refine aw_iload 0 dX9_wins_72 rfl ?_
            refine aw_if_ne 80 dX9_wins_74 (by decide) (fun c74 => absurd (by decide) c74) (fun c74 => ?_)
            refine aw_goto 302 dX9_wins_77 (by decide) ?_
            refine aw_iinc (j := 1) (nI (k + 1)) [(7, .int (nI (k + 1))), (8, .int 0), (6, .int (nI wv)), (5, .int (nI (tg nx))), (4, .int (nI nx)), (3, .int (nI la)), (2, .int (nI p)), (1, .int (nI st)), (0, .ref (G.1 + 88))] dX9_wins_302 rfl (nv_inc (rfl)) (by decide) rfl ?_
            refine aw_goto 15 dX9_wins_305 (by decide) ?_
            refine aw_lv [(7, .int (nI (k + 1))), (6, .int (nI wv)), (5, .int (nI (tg nx))), (4, .int (nI nx)), (3, .int (nI la)), (2, .int (nI p)), (1, .int (nI st)), (0, .ref (G.1 + 88))] [0, 2, 3, 4, 5, 6, 7, 8] rfl ?_
            exact ih3313 (k + 1) wv (by omega) (by omega) (wnF_n hw (fun q => q.2.1.elim (fun e => by omega) t62))
          · have t62 := ite_1e c62
            refine aw_iconst (1) dX9_wins_65 (by decide) ?_
            refine aw_goto 70 dX9_wins_66 (by decide) ?_
            refine aw_istore [(8, .int 1), (7, .int (nI k)), (6, .int (nI wv)), (5, .int (nI (tg nx))), (4, .int (nI nx)), (3, .int (nI la)), (2, .int (nI p)), (1, .int (nI st)), (0, .ref (G.1 + 88))] dX9_wins_70 (by decide) rfl ?_
            refine aw_iload 0 dX9_wins_72 rfl ?_
            refine aw_if_ne 80 dX9_wins_74 (by decide) (fun c74 => ?_) (fun c74 => absurd c74 (by decide))
            refine aw_aload_n 8 dX9_wins_80 rfl rfl ?_
            refine aw_get fX9_98 dX9_wins_81 h88 rfl ?_
            refine aw_iload 1 dX9_wins_84 rfl ?_
            refine aw_iald k (rfl) (by omega) (by decide) dX9_wins_86 h116 ?_
            refine aw_toe (nI (so k)) (rfl) ?_
            have b3337 := bso k (by omega)
            rcases (show so k = 0 ∨ so k = 1 ∨ so k = 2 ∨ so k = 3 by omega) with e0 | e0 | e0 | e0
            · refine aw_toe 0 (by rw [e0]; rfl) ?_
              refine aw_tableIn 112 dX9_wins_87 (by decide) (by decide) rfl (by decide) ?_
              refine aw_aload_n 8 dX9_wins_112 rfl rfl ?_
              refine aw_get fX9_104 dX9_wins_113 h88 rfl ?_
              refine aw_iload 1 dX9_wins_116 rfl ?_
              refine aw_iald k (rfl) (by omega) (by decide) dX9_wins_118 h118 ?_
              refine aw_toe (nI (yy k)) (hyM k (by omega) (by omega)) ?_
              have b3338 := byy k (by omega)
              refine aw_iload 3 dX9_wins_119 rfl ?_
              refine aw_icmp_ne 143 dX9_wins_121 (by decide) (fun c121 => ?_) (fun c121 => ?_)
              · have d121 := mt (nv_eq (a := yy k) (b := tg nx) (rfl) (rfl) (by omega) (by omega)).mpr c121
                refine aw_iconst (0) dX9_wins_143 (by decide) ?_
                refine aw_istore [(9, .int 0), (8, .int 1), (7, .int (nI k)), (6, .int (nI wv)), (5, .int (nI (tg nx))), (4, .int (nI nx)), (3, .int (nI la)), (2, .int (nI p)), (1, .int (nI st)), (0, .ref (G.1 + 88))] dX9_wins_144 (by decide) rfl ?_
                refine aw_goto 281 dX9_wins_146 (by decide) ?_
                refine aw_iload 3 dX9_wins_281 rfl ?_
                refine aw_iload 0 dX9_wins_283 rfl ?_
                refine aw_if_eq 298 dX9_wins_285 (by decide) (fun c285 => ?_) (fun c285 => absurd (by decide) c285)
                refine aw_iconst (0) dX9_wins_298 (by decide) ?_
                refine aw_iadd dX9_wins_299 ?_
                refine aw_toe (nI (wv + 0)) (nv_add (rfl) (rfl)) ?_
                refine aw_istore [(6, .int (nI (wv + 0))), (9, .int 0), (8, .int 1), (7, .int (nI k)), (5, .int (nI (tg nx))), (4, .int (nI nx)), (3, .int (nI la)), (2, .int (nI p)), (1, .int (nI st)), (0, .ref (G.1 + 88))] dX9_wins_300 (by decide) rfl ?_
                refine aw_iinc (j := 3) (nI (k + 1)) [(7, .int (nI (k + 1))), (6, .int (nI (wv + 0))), (9, .int 0), (8, .int 1), (5, .int (nI (tg nx))), (4, .int (nI nx)), (3, .int (nI la)), (2, .int (nI p)), (1, .int (nI st)), (0, .ref (G.1 + 88))] dX9_wins_302 rfl (nv_inc (rfl)) (by decide) rfl ?_
                refine aw_goto 15 dX9_wins_305 (by decide) ?_
                refine aw_lv [(7, .int (nI (k + 1))), (6, .int (nI (wv + 0))), (5, .int (nI (tg nx))), (4, .int (nI nx)), (3, .int (nI la)), (2, .int (nI p)), (1, .int (nI st)), (0, .ref (G.1 + 88))] [0, 1, 4, 5, 6, 7, 8, 9] rfl ?_
                exact ih3313 (k + 1) (wv + 0) (by omega) (by omega) (wnF_n hw (fun q => by rcases q with ⟨qa, qb, ⟨e, q1, q2⟩ | ⟨e, q1, q2⟩ | ⟨e, q1, q2⟩ | ⟨e, q1, q2⟩⟩ <;> first | omega | exact absurd q2 (by assumption)))
              · have d121 := (nv_eq (a := yy k) (b := tg nx) (rfl) (rfl) (by omega) (by omega)).mp c121
                refine aw_aload_n 8 dX9_wins_124 rfl rfl ?_
                refine aw_iload_n 6 dX9_wins_125 rfl rfl ?_
                refine aw_aload_n 8 dX9_wins_126 rfl rfl ?_
                refine aw_get fX9_101 dX9_wins_127 h88 rfl ?_
                refine aw_iload 1 dX9_wins_130 rfl ?_
                refine aw_iald k (rfl) (by omega) (by decide) dX9_wins_132 h117 ?_
                refine aw_toe (nI (xx k)) (rfl) ?_
                have b3339 := bxx k (by omega)
                refine aw_dV [.int (nI p), .int (nI (xx k))] [] lX9_230 vX9_stands mX9_stands dX9_wins_133 (bX9_stands (sp := sp) (fa := fa) (nb := nb) (ns := ns) (nm := nm) (nv := nv) (sh := sh) (ho := ho) (ow := ow) (sl := sl) (tg := tg) (p := p) (t := xx k) h88 h120 htg (by omega) (by omega) (by omega)) h88 rfl rfl rfl (Nat.le_of_ble_eq_true rfl) (by decide) (by decide) rfl ?_
                refine aw_if_eq 143 dX9_wins_136 (by decide) (fun c136 => ?_) (fun c136 => ?_)
                · have t136 := ite_0 c136
                  refine aw_iconst (0) dX9_wins_143 (by decide) ?_
                  refine aw_istore [(9, .int 0), (8, .int 1), (7, .int (nI k)), (6, .int (nI wv)), (5, .int (nI (tg nx))), (4, .int (nI nx)), (3, .int (nI la)), (2, .int (nI p)), (1, .int (nI st)), (0, .ref (G.1 + 88))] dX9_wins_144 (by decide) rfl ?_
                  refine aw_goto 281 dX9_wins_146 (by decide) ?_
                  refine aw_iload 3 dX9_wins_281 rfl ?_
                  refine aw_iload 0 dX9_wins_283 rfl ?_
                  refine aw_if_eq 298 dX9_wins_285 (by decide) (fun c285 => ?_) (fun c285 => absurd (by decide) c285)
                  refine aw_iconst (0) dX9_wins_298 (by decide) ?_
                  refine aw_iadd dX9_wins_299 ?_
                  refine aw_toe (nI (wv + 0)) (nv_add (rfl) (rfl)) ?_
                  refine aw_istore [(6, .int (nI (wv + 0))), (9, .int 0), (8, .int 1), (7, .int (nI k)), (5, .int (nI (tg nx))), (4, .int (nI nx)), (3, .int (nI la)), (2, .int (nI p)), (1, .int (nI st)), (0, .ref (G.1 + 88))] dX9_wins_300 (by decide) rfl ?_
                  refine aw_iinc (j := 3) (nI (k + 1)) [(7, .int (nI (k + 1))), (6, .int (nI (wv + 0))), (9, .int 0), (8, .int 1), (5, .int (nI (tg nx))), (4, .int (nI nx)), (3, .int (nI la)), (2, .int (nI p)), (1, .int (nI st)), (0, .ref (G.1 + 88))] dX9_wins_302 rfl (nv_inc (rfl)) (by decide) rfl ?_
                  refine aw_goto 15 dX9_wins_305 (by decide) ?_
                  refine aw_lv [(7, .int (nI (k + 1))), (6, .int (nI (wv + 0))), (5, .int (nI (tg nx))), (4, .int (nI nx)), (3, .int (nI la)), (2, .int (nI p)), (1, .int (nI st)), (0, .ref (G.1 + 88))] [0, 1, 4, 5, 6, 7, 8, 9] rfl ?_
                  exact ih3313 (k + 1) (wv + 0) (by omega) (by omega) (wnF_n hw (fun q => by rcases q with ⟨qa, qb, ⟨e, q1, q2⟩ | ⟨e, q1, q2⟩ | ⟨e, q1, q2⟩ | ⟨e, q1, q2⟩⟩ <;> first | omega | exact absurd q2 (by assumption)))
                · have t136 := ite_1 c136
                  refine aw_iconst (1) dX9_wins_139 (by decide) ?_
                  refine aw_goto 144 dX9_wins_140 (by decide) ?_
                  refine aw_istore [(9, .int 1), (8, .int 1), (7, .int (nI k)), (6, .int (nI wv)), (5, .int (nI (tg nx))), (4, .int (nI nx)), (3, .int (nI la)), (2, .int (nI p)), (1, .int (nI st)), (0, .ref (G.1 + 88))] dX9_wins_144 (by decide) rfl ?_
                  refine aw_goto 281 dX9_wins_146 (by decide) ?_
                  refine aw_iload 3 dX9_wins_281 rfl ?_
                  refine aw_iload 0 dX9_wins_283 rfl ?_
                  refine aw_if_eq 298 dX9_wins_285 (by decide) (fun c285 => absurd c285 (by decide)) (fun c285 => ?_)
                  refine aw_aload_n 9 dX9_wins_288 rfl rfl ?_
                  refine aw_get fX9_107 dX9_wins_289 h88 rfl ?_
                  refine aw_iload 2 dX9_wins_292 rfl ?_
                  refine aw_iald k (rfl) (by omega) (by decide) dX9_wins_294 h119 ?_
                  refine aw_toe (nI (tr k)) (rfl) ?_
                  have b3340 := btr k (by omega)
                  refine aw_goto 299 dX9_wins_295 (by decide) ?_
                  refine aw_iadd dX9_wins_299 ?_
                  refine aw_toe (nI (wv + (tr k))) (nv_add (rfl) (rfl)) ?_
                  refine aw_istore [(6, .int (nI (wv + (tr k)))), (9, .int 1), (8, .int 1), (7, .int (nI k)), (5, .int (nI (tg nx))), (4, .int (nI nx)), (3, .int (nI la)), (2, .int (nI p)), (1, .int (nI st)), (0, .ref (G.1 + 88))] dX9_wins_300 (by decide) rfl ?_
                  refine aw_iinc (j := 3) (nI (k + 1)) [(7, .int (nI (k + 1))), (6, .int (nI (wv + (tr k)))), (9, .int 1), (8, .int 1), (5, .int (nI (tg nx))), (4, .int (nI nx)), (3, .int (nI la)), (2, .int (nI p)), (1, .int (nI st)), (0, .ref (G.1 + 88))] dX9_wins_302 rfl (nv_inc (rfl)) (by decide) rfl ?_
                  refine aw_goto 15 dX9_wins_305 (by decide) ?_
                  refine aw_lv [(7, .int (nI (k + 1))), (6, .int (nI (wv + (tr k)))), (5, .int (nI (tg nx))), (4, .int (nI nx)), (3, .int (nI la)), (2, .int (nI p)), (1, .int (nI st)), (0, .ref (G.1 + 88))] [0, 1, 4, 5, 6, 7, 8, 9] rfl ?_
                  exact ih3313 (k + 1) (wv + (tr k)) (by omega) (by omega) (wnF_y hw ⟨t36, Or.inr t62, Or.inl ⟨e0, by omega, t136⟩⟩)
            · refine aw_toe 1 (by rw [e0]; rfl) ?_
              refine aw_tableIn 149 dX9_wins_87 (by decide) (by decide) rfl (by decide) ?_
              refine aw_iload_n 5 dX9_wins_149 rfl rfl ?_
              refine aw_if_lt 213 dX9_wins_150 (by decide) (fun c150 => absurd c150 (by simp only [i_lt, (nI_toInt (n := la) (by omega)), (show (0 : Int32).toInt = 0 from rfl)] <;> omega)) (fun c150 => ?_)
              refine aw_aload_n 8 dX9_wins_153 rfl rfl ?_
              refine aw_get fX9_101 dX9_wins_154 h88 rfl ?_
              refine aw_iload 1 dX9_wins_157 rfl ?_
              refine aw_iald k (rfl) (by omega) (by decide) dX9_wins_159 h117 ?_
              refine aw_toe (nI (xx k)) (rfl) ?_
              have b3341 := bxx k (by omega)
              refine aw_iload 3 dX9_wins_160 rfl ?_
              refine aw_icmp_ne 181 dX9_wins_162 (by decide) (fun c162 => ?_) (fun c162 => ?_)
              · have d162 := mt (nv_eq (a := xx k) (b := tg nx) (rfl) (rfl) (by omega) (by omega)).mpr c162
                refine aw_aload_n 8 dX9_wins_181 rfl rfl ?_
                refine aw_get fX9_104 dX9_wins_182 h88 rfl ?_
                refine aw_iload 1 dX9_wins_185 rfl ?_
                refine aw_iald k (rfl) (by omega) (by decide) dX9_wins_187 h118 ?_
                refine aw_toe (nI (yy k)) (hyM k (by omega) (by omega)) ?_
                have b3342 := byy k (by omega)
                refine aw_iload 3 dX9_wins_188 rfl ?_
                refine aw_icmp_ne 213 dX9_wins_190 (by decide) (fun c190 => ?_) (fun c190 => ?_)
                · have d190 := mt (nv_eq (a := yy k) (b := tg nx) (rfl) (rfl) (by omega) (by omega)).mpr c190
                  refine aw_iconst (0) dX9_wins_213 (by decide) ?_
                  refine aw_istore [(9, .int 0), (8, .int 1), (7, .int (nI k)), (6, .int (nI wv)), (5, .int (nI (tg nx))), (4, .int (nI nx)), (3, .int (nI la)), (2, .int (nI p)), (1, .int (nI st)), (0, .ref (G.1 + 88))] dX9_wins_214 (by decide) rfl ?_
                  refine aw_goto 281 dX9_wins_216 (by decide) ?_
                  refine aw_iload 3 dX9_wins_281 rfl ?_
                  refine aw_iload 0 dX9_wins_283 rfl ?_
                  refine aw_if_eq 298 dX9_wins_285 (by decide) (fun c285 => ?_) (fun c285 => absurd (by decide) c285)
                  refine aw_iconst (0) dX9_wins_298 (by decide) ?_
                  refine aw_iadd dX9_wins_299 ?_
                  refine aw_toe (nI (wv + 0)) (nv_add (rfl) (rfl)) ?_
                  refine aw_istore [(6, .int (nI (wv + 0))), (9, .int 0), (8, .int 1), (7, .int (nI k)), (5, .int (nI (tg nx))), (4, .int (nI nx)), (3, .int (nI la)), (2, .int (nI p)), (1, .int (nI st)), (0, .ref (G.1 + 88))] dX9_wins_300 (by decide) rfl ?_
                  refine aw_iinc (j := 3) (nI (k + 1)) [(7, .int (nI (k + 1))), (6, .int (nI (wv + 0))), (9, .int 0), (8, .int 1), (5, .int (nI (tg nx))), (4, .int (nI nx)), (3, .int (nI la)), (2, .int (nI p)), (1, .int (nI st)), (0, .ref (G.1 + 88))] dX9_wins_302 rfl (nv_inc (rfl)) (by decide) rfl ?_
                  refine aw_goto 15 dX9_wins_305 (by decide) ?_
                  refine aw_lv [(7, .int (nI (k + 1))), (6, .int (nI (wv + 0))), (5, .int (nI (tg nx))), (4, .int (nI nx)), (3, .int (nI la)), (2, .int (nI p)), (1, .int (nI st)), (0, .ref (G.1 + 88))] [0, 1, 4, 5, 6, 7, 8, 9] rfl ?_
                  exact ih3313 (k + 1) (wv + 0) (by omega) (by omega) (wnF_n hw (fun q => by rcases q with ⟨qa, qb, ⟨e, q1, q2⟩ | ⟨e, q1, q2⟩ | ⟨e, q1, q2⟩ | ⟨e, q1, q2⟩⟩ <;> first | omega | exact absurd q2 (by assumption)))
                · have d190 := (nv_eq (a := yy k) (b := tg nx) (rfl) (rfl) (by omega) (by omega)).mp c190
                  refine aw_aload_n 8 dX9_wins_193 rfl rfl ?_
                  refine aw_get fX9_101 dX9_wins_194 h88 rfl ?_
                  refine aw_iload 1 dX9_wins_197 rfl ?_
                  refine aw_iald k (rfl) (by omega) (by decide) dX9_wins_199 h117 ?_
                  refine aw_toe (nI (xx k)) (rfl) ?_
                  have b3343 := bxx k (by omega)
                  refine aw_aload_n 8 dX9_wins_200 rfl rfl ?_
                  refine aw_get fX9_110 dX9_wins_201 h88 rfl ?_
                  refine aw_iload_n 5 dX9_wins_204 rfl rfl ?_
                  refine aw_iald la (rfl) (by omega) (by decide) dX9_wins_205 h120 ?_
                  refine aw_toe (nI (tg la)) (rfl) ?_
                  have b3344 := htg la (by omega)
                  refine aw_icmp_ne 213 dX9_wins_206 (by decide) (fun c206 => ?_) (fun c206 => ?_)
                  · have d206 := mt (nv_eq (a := xx k) (b := tg la) (rfl) (rfl) (by omega) (by omega)).mpr c206
                    refine aw_iconst (0) dX9_wins_213 (by decide) ?_
                    refine aw_istore [(9, .int 0), (8, .int 1), (7, .int (nI k)), (6, .int (nI wv)), (5, .int (nI (tg nx))), (4, .int (nI nx)), (3, .int (nI la)), (2, .int (nI p)), (1, .int (nI st)), (0, .ref (G.1 + 88))] dX9_wins_214 (by decide) rfl ?_
                    refine aw_goto 281 dX9_wins_216 (by decide) ?_
                    refine aw_iload 3 dX9_wins_281 rfl ?_
                    refine aw_iload 0 dX9_wins_283 rfl ?_
                    refine aw_if_eq 298 dX9_wins_285 (by decide) (fun c285 => ?_) (fun c285 => absurd (by decide) c285)
                    refine aw_iconst (0) dX9_wins_298 (by decide) ?_
                    refine aw_iadd dX9_wins_299 ?_
                    refine aw_toe (nI (wv + 0)) (nv_add (rfl) (rfl)) ?_
                    refine aw_istore [(6, .int (nI (wv + 0))), (9, .int 0), (8, .int 1), (7, .int (nI k)), (5, .int (nI (tg nx))), (4, .int (nI nx)), (3, .int (nI la)), (2, .int (nI p)), (1, .int (nI st)), (0, .ref (G.1 + 88))] dX9_wins_300 (by decide) rfl ?_
                    refine aw_iinc (j := 3) (nI (k + 1)) [(7, .int (nI (k + 1))), (6, .int (nI (wv + 0))), (9, .int 0), (8, .int 1), (5, .int (nI (tg nx))), (4, .int (nI nx)), (3, .int (nI la)), (2, .int (nI p)), (1, .int (nI st)), (0, .ref (G.1 + 88))] dX9_wins_302 rfl (nv_inc (rfl)) (by decide) rfl ?_
                    refine aw_goto 15 dX9_wins_305 (by decide) ?_
                    refine aw_lv [(7, .int (nI (k + 1))), (6, .int (nI (wv + 0))), (5, .int (nI (tg nx))), (4, .int (nI nx)), (3, .int (nI la)), (2, .int (nI p)), (1, .int (nI st)), (0, .ref (G.1 + 88))] [0, 1, 4, 5, 6, 7, 8, 9] rfl ?_
                    exact ih3313 (k + 1) (wv + 0) (by omega) (by omega) (wnF_n hw (fun q => by rcases q with ⟨qa, qb, ⟨e, q1, q2⟩ | ⟨e, q1, q2⟩ | ⟨e, q1, q2⟩ | ⟨e, q1, q2⟩⟩ <;> first | omega | exact absurd q2 (by assumption)))
                  · have d206 := (nv_eq (a := xx k) (b := tg la) (rfl) (rfl) (by omega) (by omega)).mp c206
                    refine aw_iconst (1) dX9_wins_209 (by decide) ?_
                    refine aw_goto 214 dX9_wins_210 (by decide) ?_
                    refine aw_istore [(9, .int 1), (8, .int 1), (7, .int (nI k)), (6, .int (nI wv)), (5, .int (nI (tg nx))), (4, .int (nI nx)), (3, .int (nI la)), (2, .int (nI p)), (1, .int (nI st)), (0, .ref (G.1 + 88))] dX9_wins_214 (by decide) rfl ?_
                    refine aw_goto 281 dX9_wins_216 (by decide) ?_
                    refine aw_iload 3 dX9_wins_281 rfl ?_
                    refine aw_iload 0 dX9_wins_283 rfl ?_
                    refine aw_if_eq 298 dX9_wins_285 (by decide) (fun c285 => absurd c285 (by decide)) (fun c285 => ?_)
                    refine aw_aload_n 9 dX9_wins_288 rfl rfl ?_
                    refine aw_get fX9_107 dX9_wins_289 h88 rfl ?_
                    refine aw_iload 2 dX9_wins_292 rfl ?_
                    refine aw_iald k (rfl) (by omega) (by decide) dX9_wins_294 h119 ?_
                    refine aw_toe (nI (tr k)) (rfl) ?_
                    have b3345 := btr k (by omega)
                    refine aw_goto 299 dX9_wins_295 (by decide) ?_
                    refine aw_iadd dX9_wins_299 ?_
                    refine aw_toe (nI (wv + (tr k))) (nv_add (rfl) (rfl)) ?_
                    refine aw_istore [(6, .int (nI (wv + (tr k)))), (9, .int 1), (8, .int 1), (7, .int (nI k)), (5, .int (nI (tg nx))), (4, .int (nI nx)), (3, .int (nI la)), (2, .int (nI p)), (1, .int (nI st)), (0, .ref (G.1 + 88))] dX9_wins_300 (by decide) rfl ?_
                    refine aw_iinc (j := 3) (nI (k + 1)) [(7, .int (nI (k + 1))), (6, .int (nI (wv + (tr k)))), (9, .int 1), (8, .int 1), (5, .int (nI (tg nx))), (4, .int (nI nx)), (3, .int (nI la)), (2, .int (nI p)), (1, .int (nI st)), (0, .ref (G.1 + 88))] dX9_wins_302 rfl (nv_inc (rfl)) (by decide) rfl ?_
                    refine aw_goto 15 dX9_wins_305 (by decide) ?_
                    refine aw_lv [(7, .int (nI (k + 1))), (6, .int (nI (wv + (tr k)))), (5, .int (nI (tg nx))), (4, .int (nI nx)), (3, .int (nI la)), (2, .int (nI p)), (1, .int (nI st)), (0, .ref (G.1 + 88))] [0, 1, 4, 5, 6, 7, 8, 9] rfl ?_
                    exact ih3313 (k + 1) (wv + (tr k)) (by omega) (by omega) (wnF_y hw ⟨t36, Or.inr t62, Or.inr (Or.inl ⟨e0, by omega, by omega⟩)⟩)
              · have d162 := (nv_eq (a := xx k) (b := tg nx) (rfl) (rfl) (by omega) (by omega)).mp c162
                refine aw_aload_n 8 dX9_wins_165 rfl rfl ?_
                refine aw_get fX9_104 dX9_wins_166 h88 rfl ?_
                refine aw_iload 1 dX9_wins_169 rfl ?_
                refine aw_iald k (rfl) (by omega) (by decide) dX9_wins_171 h118 ?_
                refine aw_toe (nI (yy k)) (hyM k (by omega) (by omega)) ?_
                have b3346 := byy k (by omega)
                refine aw_aload_n 8 dX9_wins_172 rfl rfl ?_
                refine aw_get fX9_110 dX9_wins_173 h88 rfl ?_
                refine aw_iload_n 5 dX9_wins_176 rfl rfl ?_
                refine aw_iald la (rfl) (by omega) (by decide) dX9_wins_177 h120 ?_
                refine aw_toe (nI (tg la)) (rfl) ?_
                have b3347 := htg la (by omega)
                refine aw_icmp_eq 209 dX9_wins_178 (by decide) (fun c178 => ?_) (fun c178 => ?_)
                · have d178 := (nv_eq (a := yy k) (b := tg la) (rfl) (rfl) (by omega) (by omega)).mp c178
                  refine aw_iconst (1) dX9_wins_209 (by decide) ?_
                  refine aw_goto 214 dX9_wins_210 (by decide) ?_
                  refine aw_istore [(9, .int 1), (8, .int 1), (7, .int (nI k)), (6, .int (nI wv)), (5, .int (nI (tg nx))), (4, .int (nI nx)), (3, .int (nI la)), (2, .int (nI p)), (1, .int (nI st)), (0, .ref (G.1 + 88))] dX9_wins_214 (by decide) rfl ?_
                  refine aw_goto 281 dX9_wins_216 (by decide) ?_
                  refine aw_iload 3 dX9_wins_281 rfl ?_
                  refine aw_iload 0 dX9_wins_283 rfl ?_
                  refine aw_if_eq 298 dX9_wins_285 (by decide) (fun c285 => absurd c285 (by decide)) (fun c285 => ?_)
                  refine aw_aload_n 9 dX9_wins_288 rfl rfl ?_
                  refine aw_get fX9_107 dX9_wins_289 h88 rfl ?_
                  refine aw_iload 2 dX9_wins_292 rfl ?_
                  refine aw_iald k (rfl) (by omega) (by decide) dX9_wins_294 h119 ?_
                  refine aw_toe (nI (tr k)) (rfl) ?_
                  have b3348 := btr k (by omega)
                  refine aw_goto 299 dX9_wins_295 (by decide) ?_
                  refine aw_iadd dX9_wins_299 ?_
                  refine aw_toe (nI (wv + (tr k))) (nv_add (rfl) (rfl)) ?_
                  refine aw_istore [(6, .int (nI (wv + (tr k)))), (9, .int 1), (8, .int 1), (7, .int (nI k)), (5, .int (nI (tg nx))), (4, .int (nI nx)), (3, .int (nI la)), (2, .int (nI p)), (1, .int (nI st)), (0, .ref (G.1 + 88))] dX9_wins_300 (by decide) rfl ?_
                  refine aw_iinc (j := 3) (nI (k + 1)) [(7, .int (nI (k + 1))), (6, .int (nI (wv + (tr k)))), (9, .int 1), (8, .int 1), (5, .int (nI (tg nx))), (4, .int (nI nx)), (3, .int (nI la)), (2, .int (nI p)), (1, .int (nI st)), (0, .ref (G.1 + 88))] dX9_wins_302 rfl (nv_inc (rfl)) (by decide) rfl ?_
                  refine aw_goto 15 dX9_wins_305 (by decide) ?_
                  refine aw_lv [(7, .int (nI (k + 1))), (6, .int (nI (wv + (tr k)))), (5, .int (nI (tg nx))), (4, .int (nI nx)), (3, .int (nI la)), (2, .int (nI p)), (1, .int (nI st)), (0, .ref (G.1 + 88))] [0, 1, 4, 5, 6, 7, 8, 9] rfl ?_
                  exact ih3313 (k + 1) (wv + (tr k)) (by omega) (by omega) (wnF_y hw ⟨t36, Or.inr t62, Or.inr (Or.inl ⟨e0, by omega, by omega⟩)⟩)
                · have d178 := mt (nv_eq (a := yy k) (b := tg la) (rfl) (rfl) (by omega) (by omega)).mpr c178
                  refine aw_aload_n 8 dX9_wins_181 rfl rfl ?_
                  refine aw_get fX9_104 dX9_wins_182 h88 rfl ?_
                  refine aw_iload 1 dX9_wins_185 rfl ?_
                  refine aw_iald k (rfl) (by omega) (by decide) dX9_wins_187 h118 ?_
                  refine aw_toe (nI (yy k)) (hyM k (by omega) (by omega)) ?_
                  have b3349 := byy k (by omega)
                  refine aw_iload 3 dX9_wins_188 rfl ?_
                  refine aw_icmp_ne 213 dX9_wins_190 (by decide) (fun c190 => ?_) (fun c190 => ?_)
                  · have d190 := mt (nv_eq (a := yy k) (b := tg nx) (rfl) (rfl) (by omega) (by omega)).mpr c190
                    refine aw_iconst (0) dX9_wins_213 (by decide) ?_
                    refine aw_istore [(9, .int 0), (8, .int 1), (7, .int (nI k)), (6, .int (nI wv)), (5, .int (nI (tg nx))), (4, .int (nI nx)), (3, .int (nI la)), (2, .int (nI p)), (1, .int (nI st)), (0, .ref (G.1 + 88))] dX9_wins_214 (by decide) rfl ?_
                    refine aw_goto 281 dX9_wins_216 (by decide) ?_
                    refine aw_iload 3 dX9_wins_281 rfl ?_
                    refine aw_iload 0 dX9_wins_283 rfl ?_
                    refine aw_if_eq 298 dX9_wins_285 (by decide) (fun c285 => ?_) (fun c285 => absurd (by decide) c285)
                    refine aw_iconst (0) dX9_wins_298 (by decide) ?_
                    refine aw_iadd dX9_wins_299 ?_
                    refine aw_toe (nI (wv + 0)) (nv_add (rfl) (rfl)) ?_
                    refine aw_istore [(6, .int (nI (wv + 0))), (9, .int 0), (8, .int 1), (7, .int (nI k)), (5, .int (nI (tg nx))), (4, .int (nI nx)), (3, .int (nI la)), (2, .int (nI p)), (1, .int (nI st)), (0, .ref (G.1 + 88))] dX9_wins_300 (by decide) rfl ?_
                    refine aw_iinc (j := 3) (nI (k + 1)) [(7, .int (nI (k + 1))), (6, .int (nI (wv + 0))), (9, .int 0), (8, .int 1), (5, .int (nI (tg nx))), (4, .int (nI nx)), (3, .int (nI la)), (2, .int (nI p)), (1, .int (nI st)), (0, .ref (G.1 + 88))] dX9_wins_302 rfl (nv_inc (rfl)) (by decide) rfl ?_
                    refine aw_goto 15 dX9_wins_305 (by decide) ?_
                    refine aw_lv [(7, .int (nI (k + 1))), (6, .int (nI (wv + 0))), (5, .int (nI (tg nx))), (4, .int (nI nx)), (3, .int (nI la)), (2, .int (nI p)), (1, .int (nI st)), (0, .ref (G.1 + 88))] [0, 1, 4, 5, 6, 7, 8, 9] rfl ?_
                    exact ih3313 (k + 1) (wv + 0) (by omega) (by omega) (wnF_n hw (fun q => by rcases q with ⟨qa, qb, ⟨e, q1, q2⟩ | ⟨e, q1, q2⟩ | ⟨e, q1, q2⟩ | ⟨e, q1, q2⟩⟩ <;> first | omega | exact absurd q2 (by assumption)))
                  · have d190 := (nv_eq (a := yy k) (b := tg nx) (rfl) (rfl) (by omega) (by omega)).mp c190
                    refine aw_aload_n 8 dX9_wins_193 rfl rfl ?_
                    refine aw_get fX9_101 dX9_wins_194 h88 rfl ?_
                    refine aw_iload 1 dX9_wins_197 rfl ?_
                    refine aw_iald k (rfl) (by omega) (by decide) dX9_wins_199 h117 ?_
                    refine aw_toe (nI (xx k)) (rfl) ?_
                    have b3350 := bxx k (by omega)
                    refine aw_aload_n 8 dX9_wins_200 rfl rfl ?_
                    refine aw_get fX9_110 dX9_wins_201 h88 rfl ?_
                    refine aw_iload_n 5 dX9_wins_204 rfl rfl ?_
                    refine aw_iald la (rfl) (by omega) (by decide) dX9_wins_205 h120 ?_
                    refine aw_toe (nI (tg la)) (rfl) ?_
                    have b3351 := htg la (by omega)
                    refine aw_icmp_ne 213 dX9_wins_206 (by decide) (fun c206 => ?_) (fun c206 => ?_)
                    · have d206 := mt (nv_eq (a := xx k) (b := tg la) (rfl) (rfl) (by omega) (by omega)).mpr c206
                      refine aw_iconst (0) dX9_wins_213 (by decide) ?_
                      refine aw_istore [(9, .int 0), (8, .int 1), (7, .int (nI k)), (6, .int (nI wv)), (5, .int (nI (tg nx))), (4, .int (nI nx)), (3, .int (nI la)), (2, .int (nI p)), (1, .int (nI st)), (0, .ref (G.1 + 88))] dX9_wins_214 (by decide) rfl ?_
                      refine aw_goto 281 dX9_wins_216 (by decide) ?_
                      refine aw_iload 3 dX9_wins_281 rfl ?_
                      refine aw_iload 0 dX9_wins_283 rfl ?_
                      refine aw_if_eq 298 dX9_wins_285 (by decide) (fun c285 => ?_) (fun c285 => absurd (by decide) c285)
                      refine aw_iconst (0) dX9_wins_298 (by decide) ?_
                      refine aw_iadd dX9_wins_299 ?_
                      refine aw_toe (nI (wv + 0)) (nv_add (rfl) (rfl)) ?_
                      refine aw_istore [(6, .int (nI (wv + 0))), (9, .int 0), (8, .int 1), (7, .int (nI k)), (5, .int (nI (tg nx))), (4, .int (nI nx)), (3, .int (nI la)), (2, .int (nI p)), (1, .int (nI st)), (0, .ref (G.1 + 88))] dX9_wins_300 (by decide) rfl ?_
                      refine aw_iinc (j := 3) (nI (k + 1)) [(7, .int (nI (k + 1))), (6, .int (nI (wv + 0))), (9, .int 0), (8, .int 1), (5, .int (nI (tg nx))), (4, .int (nI nx)), (3, .int (nI la)), (2, .int (nI p)), (1, .int (nI st)), (0, .ref (G.1 + 88))] dX9_wins_302 rfl (nv_inc (rfl)) (by decide) rfl ?_
                      refine aw_goto 15 dX9_wins_305 (by decide) ?_
                      refine aw_lv [(7, .int (nI (k + 1))), (6, .int (nI (wv + 0))), (5, .int (nI (tg nx))), (4, .int (nI nx)), (3, .int (nI la)), (2, .int (nI p)), (1, .int (nI st)), (0, .ref (G.1 + 88))] [0, 1, 4, 5, 6, 7, 8, 9] rfl ?_
                      exact ih3313 (k + 1) (wv + 0) (by omega) (by omega) (wnF_n hw (fun q => by rcases q with ⟨qa, qb, ⟨e, q1, q2⟩ | ⟨e, q1, q2⟩ | ⟨e, q1, q2⟩ | ⟨e, q1, q2⟩⟩ <;> first | omega | exact absurd q2 (by assumption)))
                    · have d206 := (nv_eq (a := xx k) (b := tg la) (rfl) (rfl) (by omega) (by omega)).mp c206
                      refine aw_iconst (1) dX9_wins_209 (by decide) ?_
                      refine aw_goto 214 dX9_wins_210 (by decide) ?_
                      refine aw_istore [(9, .int 1), (8, .int 1), (7, .int (nI k)), (6, .int (nI wv)), (5, .int (nI (tg nx))), (4, .int (nI nx)), (3, .int (nI la)), (2, .int (nI p)), (1, .int (nI st)), (0, .ref (G.1 + 88))] dX9_wins_214 (by decide) rfl ?_
                      refine aw_goto 281 dX9_wins_216 (by decide) ?_
                      refine aw_iload 3 dX9_wins_281 rfl ?_
                      refine aw_iload 0 dX9_wins_283 rfl ?_
                      refine aw_if_eq 298 dX9_wins_285 (by decide) (fun c285 => absurd c285 (by decide)) (fun c285 => ?_)
                      refine aw_aload_n 9 dX9_wins_288 rfl rfl ?_
                      refine aw_get fX9_107 dX9_wins_289 h88 rfl ?_
                      refine aw_iload 2 dX9_wins_292 rfl ?_
                      refine aw_iald k (rfl) (by omega) (by decide) dX9_wins_294 h119 ?_
                      refine aw_toe (nI (tr k)) (rfl) ?_
                      have b3352 := btr k (by omega)
                      refine aw_goto 299 dX9_wins_295 (by decide) ?_
                      refine aw_iadd dX9_wins_299 ?_
                      refine aw_toe (nI (wv + (tr k))) (nv_add (rfl) (rfl)) ?_
                      refine aw_istore [(6, .int (nI (wv + (tr k)))), (9, .int 1), (8, .int 1), (7, .int (nI k)), (5, .int (nI (tg nx))), (4, .int (nI nx)), (3, .int (nI la)), (2, .int (nI p)), (1, .int (nI st)), (0, .ref (G.1 + 88))] dX9_wins_300 (by decide) rfl ?_
                      refine aw_iinc (j := 3) (nI (k + 1)) [(7, .int (nI (k + 1))), (6, .int (nI (wv + (tr k)))), (9, .int 1), (8, .int 1), (5, .int (nI (tg nx))), (4, .int (nI nx)), (3, .int (nI la)), (2, .int (nI p)), (1, .int (nI st)), (0, .ref (G.1 + 88))] dX9_wins_302 rfl (nv_inc (rfl)) (by decide) rfl ?_
                      refine aw_goto 15 dX9_wins_305 (by decide) ?_
                      refine aw_lv [(7, .int (nI (k + 1))), (6, .int (nI (wv + (tr k)))), (5, .int (nI (tg nx))), (4, .int (nI nx)), (3, .int (nI la)), (2, .int (nI p)), (1, .int (nI st)), (0, .ref (G.1 + 88))] [0, 1, 4, 5, 6, 7, 8, 9] rfl ?_
                      exact ih3313 (k + 1) (wv + (tr k)) (by omega) (by omega) (wnF_y hw ⟨t36, Or.inr t62, Or.inr (Or.inl ⟨e0, by omega, by omega⟩)⟩)
            · refine aw_toe 2 (by rw [e0]; rfl) ?_
              refine aw_tableIn 219 dX9_wins_87 (by decide) (by decide) rfl (by decide) ?_
              refine aw_aload_n 8 dX9_wins_219 rfl rfl ?_
              refine aw_get fX9_101 dX9_wins_220 h88 rfl ?_
              refine aw_iload 1 dX9_wins_223 rfl ?_
              refine aw_iald k (rfl) (by omega) (by decide) dX9_wins_225 h117 ?_
              refine aw_toe (nI (xx k)) (rfl) ?_
              have b3353 := bxx k (by omega)
              refine aw_iload 3 dX9_wins_226 rfl ?_
              refine aw_icmp_ne 239 dX9_wins_228 (by decide) (fun c228 => ?_) (fun c228 => ?_)
              · have d228 := mt (nv_eq (a := xx k) (b := tg nx) (rfl) (rfl) (by omega) (by omega)).mpr c228
                refine aw_iconst (0) dX9_wins_239 (by decide) ?_
                refine aw_istore [(9, .int 0), (8, .int 1), (7, .int (nI k)), (6, .int (nI wv)), (5, .int (nI (tg nx))), (4, .int (nI nx)), (3, .int (nI la)), (2, .int (nI p)), (1, .int (nI st)), (0, .ref (G.1 + 88))] dX9_wins_240 (by decide) rfl ?_
                refine aw_goto 281 dX9_wins_242 (by decide) ?_
                refine aw_iload 3 dX9_wins_281 rfl ?_
                refine aw_iload 0 dX9_wins_283 rfl ?_
                refine aw_if_eq 298 dX9_wins_285 (by decide) (fun c285 => ?_) (fun c285 => absurd (by decide) c285)
                refine aw_iconst (0) dX9_wins_298 (by decide) ?_
                refine aw_iadd dX9_wins_299 ?_
                refine aw_toe (nI (wv + 0)) (nv_add (rfl) (rfl)) ?_
                refine aw_istore [(6, .int (nI (wv + 0))), (9, .int 0), (8, .int 1), (7, .int (nI k)), (5, .int (nI (tg nx))), (4, .int (nI nx)), (3, .int (nI la)), (2, .int (nI p)), (1, .int (nI st)), (0, .ref (G.1 + 88))] dX9_wins_300 (by decide) rfl ?_
                refine aw_iinc (j := 3) (nI (k + 1)) [(7, .int (nI (k + 1))), (6, .int (nI (wv + 0))), (9, .int 0), (8, .int 1), (5, .int (nI (tg nx))), (4, .int (nI nx)), (3, .int (nI la)), (2, .int (nI p)), (1, .int (nI st)), (0, .ref (G.1 + 88))] dX9_wins_302 rfl (nv_inc (rfl)) (by decide) rfl ?_
                refine aw_goto 15 dX9_wins_305 (by decide) ?_
                refine aw_lv [(7, .int (nI (k + 1))), (6, .int (nI (wv + 0))), (5, .int (nI (tg nx))), (4, .int (nI nx)), (3, .int (nI la)), (2, .int (nI p)), (1, .int (nI st)), (0, .ref (G.1 + 88))] [0, 1, 4, 5, 6, 7, 8, 9] rfl ?_
                exact ih3313 (k + 1) (wv + 0) (by omega) (by omega) (wnF_n hw (fun q => by rcases q with ⟨qa, qb, ⟨e, q1, q2⟩ | ⟨e, q1, q2⟩ | ⟨e, q1, q2⟩ | ⟨e, q1, q2⟩⟩ <;> first | omega | exact absurd q2 (by assumption)))
              · have d228 := (nv_eq (a := xx k) (b := tg nx) (rfl) (rfl) (by omega) (by omega)).mp c228
                refine aw_iload_n 6 dX9_wins_231 rfl rfl ?_
                refine aw_if_ne 239 dX9_wins_232 (by decide) (fun c232 => ?_) (fun c232 => ?_)
                · have d232 := mt (nv_eq (a := p) (b := 0) (rfl) (rfl) (by omega) (by omega)).mpr c232
                  refine aw_iconst (0) dX9_wins_239 (by decide) ?_
                  refine aw_istore [(9, .int 0), (8, .int 1), (7, .int (nI k)), (6, .int (nI wv)), (5, .int (nI (tg nx))), (4, .int (nI nx)), (3, .int (nI la)), (2, .int (nI p)), (1, .int (nI st)), (0, .ref (G.1 + 88))] dX9_wins_240 (by decide) rfl ?_
                  refine aw_goto 281 dX9_wins_242 (by decide) ?_
                  refine aw_iload 3 dX9_wins_281 rfl ?_
                  refine aw_iload 0 dX9_wins_283 rfl ?_
                  refine aw_if_eq 298 dX9_wins_285 (by decide) (fun c285 => ?_) (fun c285 => absurd (by decide) c285)
                  refine aw_iconst (0) dX9_wins_298 (by decide) ?_
                  refine aw_iadd dX9_wins_299 ?_
                  refine aw_toe (nI (wv + 0)) (nv_add (rfl) (rfl)) ?_
                  refine aw_istore [(6, .int (nI (wv + 0))), (9, .int 0), (8, .int 1), (7, .int (nI k)), (5, .int (nI (tg nx))), (4, .int (nI nx)), (3, .int (nI la)), (2, .int (nI p)), (1, .int (nI st)), (0, .ref (G.1 + 88))] dX9_wins_300 (by decide) rfl ?_
                  refine aw_iinc (j := 3) (nI (k + 1)) [(7, .int (nI (k + 1))), (6, .int (nI (wv + 0))), (9, .int 0), (8, .int 1), (5, .int (nI (tg nx))), (4, .int (nI nx)), (3, .int (nI la)), (2, .int (nI p)), (1, .int (nI st)), (0, .ref (G.1 + 88))] dX9_wins_302 rfl (nv_inc (rfl)) (by decide) rfl ?_
                  refine aw_goto 15 dX9_wins_305 (by decide) ?_
                  refine aw_lv [(7, .int (nI (k + 1))), (6, .int (nI (wv + 0))), (5, .int (nI (tg nx))), (4, .int (nI nx)), (3, .int (nI la)), (2, .int (nI p)), (1, .int (nI st)), (0, .ref (G.1 + 88))] [0, 1, 4, 5, 6, 7, 8, 9] rfl ?_
                  exact ih3313 (k + 1) (wv + 0) (by omega) (by omega) (wnF_n hw (fun q => by rcases q with ⟨qa, qb, ⟨e, q1, q2⟩ | ⟨e, q1, q2⟩ | ⟨e, q1, q2⟩ | ⟨e, q1, q2⟩⟩ <;> first | omega | exact absurd q2 (by assumption)))
                · have d232 := (nv_eq (a := p) (b := 0) (rfl) (rfl) (by omega) (by omega)).mp c232
                  refine aw_iconst (1) dX9_wins_235 (by decide) ?_
                  refine aw_goto 240 dX9_wins_236 (by decide) ?_
                  refine aw_istore [(9, .int 1), (8, .int 1), (7, .int (nI k)), (6, .int (nI wv)), (5, .int (nI (tg nx))), (4, .int (nI nx)), (3, .int (nI la)), (2, .int (nI p)), (1, .int (nI st)), (0, .ref (G.1 + 88))] dX9_wins_240 (by decide) rfl ?_
                  refine aw_goto 281 dX9_wins_242 (by decide) ?_
                  refine aw_iload 3 dX9_wins_281 rfl ?_
                  refine aw_iload 0 dX9_wins_283 rfl ?_
                  refine aw_if_eq 298 dX9_wins_285 (by decide) (fun c285 => absurd c285 (by decide)) (fun c285 => ?_)
                  refine aw_aload_n 9 dX9_wins_288 rfl rfl ?_
                  refine aw_get fX9_107 dX9_wins_289 h88 rfl ?_
                  refine aw_iload 2 dX9_wins_292 rfl ?_
                  refine aw_iald k (rfl) (by omega) (by decide) dX9_wins_294 h119 ?_
                  refine aw_toe (nI (tr k)) (rfl) ?_
                  have b3354 := btr k (by omega)
                  refine aw_goto 299 dX9_wins_295 (by decide) ?_
                  refine aw_iadd dX9_wins_299 ?_
                  refine aw_toe (nI (wv + (tr k))) (nv_add (rfl) (rfl)) ?_
                  refine aw_istore [(6, .int (nI (wv + (tr k)))), (9, .int 1), (8, .int 1), (7, .int (nI k)), (5, .int (nI (tg nx))), (4, .int (nI nx)), (3, .int (nI la)), (2, .int (nI p)), (1, .int (nI st)), (0, .ref (G.1 + 88))] dX9_wins_300 (by decide) rfl ?_
                  refine aw_iinc (j := 3) (nI (k + 1)) [(7, .int (nI (k + 1))), (6, .int (nI (wv + (tr k)))), (9, .int 1), (8, .int 1), (5, .int (nI (tg nx))), (4, .int (nI nx)), (3, .int (nI la)), (2, .int (nI p)), (1, .int (nI st)), (0, .ref (G.1 + 88))] dX9_wins_302 rfl (nv_inc (rfl)) (by decide) rfl ?_
                  refine aw_goto 15 dX9_wins_305 (by decide) ?_
                  refine aw_lv [(7, .int (nI (k + 1))), (6, .int (nI (wv + (tr k)))), (5, .int (nI (tg nx))), (4, .int (nI nx)), (3, .int (nI la)), (2, .int (nI p)), (1, .int (nI st)), (0, .ref (G.1 + 88))] [0, 1, 4, 5, 6, 7, 8, 9] rfl ?_
                  exact ih3313 (k + 1) (wv + (tr k)) (by omega) (by omega) (wnF_y hw ⟨t36, Or.inr t62, Or.inr (Or.inr (Or.inl ⟨e0, by omega, by omega⟩))⟩)
            · refine aw_toe 3 (by rw [e0]; rfl) ?_
              refine aw_tableOut 245 dX9_wins_87 (by decide) (by decide) ?_
              refine aw_aload_n 8 dX9_wins_245 rfl rfl ?_
              refine aw_get fX9_101 dX9_wins_246 h88 rfl ?_
              refine aw_iload 1 dX9_wins_249 rfl ?_
              refine aw_iald k (rfl) (by omega) (by decide) dX9_wins_251 h117 ?_
              refine aw_toe (nI (xx k)) (rfl) ?_
              have b3355 := bxx k (by omega)
              refine aw_iload 3 dX9_wins_252 rfl ?_
              refine aw_icmp_ne 278 dX9_wins_254 (by decide) (fun c254 => ?_) (fun c254 => ?_)
              · have d254 := mt (nv_eq (a := xx k) (b := tg nx) (rfl) (rfl) (by omega) (by omega)).mpr c254
                refine aw_iconst (0) dX9_wins_278 (by decide) ?_
                refine aw_istore [(9, .int 0), (8, .int 1), (7, .int (nI k)), (6, .int (nI wv)), (5, .int (nI (tg nx))), (4, .int (nI nx)), (3, .int (nI la)), (2, .int (nI p)), (1, .int (nI st)), (0, .ref (G.1 + 88))] dX9_wins_279 (by decide) rfl ?_
                refine aw_iload 3 dX9_wins_281 rfl ?_
                refine aw_iload 0 dX9_wins_283 rfl ?_
                refine aw_if_eq 298 dX9_wins_285 (by decide) (fun c285 => ?_) (fun c285 => absurd (by decide) c285)
                refine aw_iconst (0) dX9_wins_298 (by decide) ?_
                refine aw_iadd dX9_wins_299 ?_
                refine aw_toe (nI (wv + 0)) (nv_add (rfl) (rfl)) ?_
                refine aw_istore [(6, .int (nI (wv + 0))), (9, .int 0), (8, .int 1), (7, .int (nI k)), (5, .int (nI (tg nx))), (4, .int (nI nx)), (3, .int (nI la)), (2, .int (nI p)), (1, .int (nI st)), (0, .ref (G.1 + 88))] dX9_wins_300 (by decide) rfl ?_
                refine aw_iinc (j := 3) (nI (k + 1)) [(7, .int (nI (k + 1))), (6, .int (nI (wv + 0))), (9, .int 0), (8, .int 1), (5, .int (nI (tg nx))), (4, .int (nI nx)), (3, .int (nI la)), (2, .int (nI p)), (1, .int (nI st)), (0, .ref (G.1 + 88))] dX9_wins_302 rfl (nv_inc (rfl)) (by decide) rfl ?_
                refine aw_goto 15 dX9_wins_305 (by decide) ?_
                refine aw_lv [(7, .int (nI (k + 1))), (6, .int (nI (wv + 0))), (5, .int (nI (tg nx))), (4, .int (nI nx)), (3, .int (nI la)), (2, .int (nI p)), (1, .int (nI st)), (0, .ref (G.1 + 88))] [0, 1, 4, 5, 6, 7, 8, 9] rfl ?_
                exact ih3313 (k + 1) (wv + 0) (by omega) (by omega) (wnF_n hw (fun q => by rcases q with ⟨qa, qb, ⟨e, q1, q2⟩ | ⟨e, q1, q2⟩ | ⟨e, q1, q2⟩ | ⟨e, q1, q2⟩⟩ <;> first | omega | exact absurd q2 (by assumption)))
              · have d254 := (nv_eq (a := xx k) (b := tg nx) (rfl) (rfl) (by omega) (by omega)).mp c254
                refine aw_iload_n 6 dX9_wins_257 rfl rfl ?_
                refine aw_iconst (1) dX9_wins_258 (by decide) ?_
                refine aw_iload 4 dX9_wins_259 rfl ?_
                refine aw_ishl dX9_wins_261 ?_
                refine aw_toe (nI (2 ^ nx)) (nv_shl1 (rfl) (by omega)) ?_
                refine aw_ior dX9_wins_262 ?_
                refine aw_toe (nI (p ||| (2 ^ nx))) (nv_or (rfl) (rfl)) ?_
                have pw := pw8 sh hsh
                have bq := or_lt8 (a := p) (b := nx) bp (by omega)
                refine aw_iconst (1) dX9_wins_263 (by decide) ?_
                refine aw_aload_n 8 dX9_wins_264 rfl rfl ?_
                refine aw_get fX9_233 dX9_wins_265 h88 rfl ?_
                refine aw_ishl dX9_wins_268 ?_
                refine aw_toe (nI (2 ^ sh)) (nv_shl1 (rfl) (by omega)) ?_
                refine aw_iconst (1) dX9_wins_269 (by decide) ?_
                refine aw_isub dX9_wins_270 ?_
                refine aw_toe (nI ((2 ^ sh) - 1)) (nv_sub (rfl) (rfl) (by omega)) ?_
                refine aw_icmp_ne 278 dX9_wins_271 (by decide) (fun c271 => ?_) (fun c271 => ?_)
                · have d271 := mt (nv_eq (a := p ||| (2 ^ nx)) (b := (2 ^ sh) - 1) (rfl) (rfl) (by omega) (by omega)).mpr c271
                  refine aw_iconst (0) dX9_wins_278 (by decide) ?_
                  refine aw_istore [(9, .int 0), (8, .int 1), (7, .int (nI k)), (6, .int (nI wv)), (5, .int (nI (tg nx))), (4, .int (nI nx)), (3, .int (nI la)), (2, .int (nI p)), (1, .int (nI st)), (0, .ref (G.1 + 88))] dX9_wins_279 (by decide) rfl ?_
                  refine aw_iload 3 dX9_wins_281 rfl ?_
                  refine aw_iload 0 dX9_wins_283 rfl ?_
                  refine aw_if_eq 298 dX9_wins_285 (by decide) (fun c285 => ?_) (fun c285 => absurd (by decide) c285)
                  refine aw_iconst (0) dX9_wins_298 (by decide) ?_
                  refine aw_iadd dX9_wins_299 ?_
                  refine aw_toe (nI (wv + 0)) (nv_add (rfl) (rfl)) ?_
                  refine aw_istore [(6, .int (nI (wv + 0))), (9, .int 0), (8, .int 1), (7, .int (nI k)), (5, .int (nI (tg nx))), (4, .int (nI nx)), (3, .int (nI la)), (2, .int (nI p)), (1, .int (nI st)), (0, .ref (G.1 + 88))] dX9_wins_300 (by decide) rfl ?_
                  refine aw_iinc (j := 3) (nI (k + 1)) [(7, .int (nI (k + 1))), (6, .int (nI (wv + 0))), (9, .int 0), (8, .int 1), (5, .int (nI (tg nx))), (4, .int (nI nx)), (3, .int (nI la)), (2, .int (nI p)), (1, .int (nI st)), (0, .ref (G.1 + 88))] dX9_wins_302 rfl (nv_inc (rfl)) (by decide) rfl ?_
                  refine aw_goto 15 dX9_wins_305 (by decide) ?_
                  refine aw_lv [(7, .int (nI (k + 1))), (6, .int (nI (wv + 0))), (5, .int (nI (tg nx))), (4, .int (nI nx)), (3, .int (nI la)), (2, .int (nI p)), (1, .int (nI st)), (0, .ref (G.1 + 88))] [0, 1, 4, 5, 6, 7, 8, 9] rfl ?_
                  exact ih3313 (k + 1) (wv + 0) (by omega) (by omega) (wnF_n hw (fun q => by rcases q with ⟨qa, qb, ⟨e, q1, q2⟩ | ⟨e, q1, q2⟩ | ⟨e, q1, q2⟩ | ⟨e, q1, q2⟩⟩ <;> first | omega | exact absurd q2 (by assumption)))
                · have d271 := (nv_eq (a := p ||| (2 ^ nx)) (b := (2 ^ sh) - 1) (rfl) (rfl) (by omega) (by omega)).mp c271
                  refine aw_iconst (1) dX9_wins_274 (by decide) ?_
                  refine aw_goto 279 dX9_wins_275 (by decide) ?_
                  refine aw_istore [(9, .int 1), (8, .int 1), (7, .int (nI k)), (6, .int (nI wv)), (5, .int (nI (tg nx))), (4, .int (nI nx)), (3, .int (nI la)), (2, .int (nI p)), (1, .int (nI st)), (0, .ref (G.1 + 88))] dX9_wins_279 (by decide) rfl ?_
                  refine aw_iload 3 dX9_wins_281 rfl ?_
                  refine aw_iload 0 dX9_wins_283 rfl ?_
                  refine aw_if_eq 298 dX9_wins_285 (by decide) (fun c285 => absurd c285 (by decide)) (fun c285 => ?_)
                  refine aw_aload_n 9 dX9_wins_288 rfl rfl ?_
                  refine aw_get fX9_107 dX9_wins_289 h88 rfl ?_
                  refine aw_iload 2 dX9_wins_292 rfl ?_
                  refine aw_iald k (rfl) (by omega) (by decide) dX9_wins_294 h119 ?_
                  refine aw_toe (nI (tr k)) (rfl) ?_
                  have b3356 := btr k (by omega)
                  refine aw_goto 299 dX9_wins_295 (by decide) ?_
                  refine aw_iadd dX9_wins_299 ?_
                  refine aw_toe (nI (wv + (tr k))) (nv_add (rfl) (rfl)) ?_
                  refine aw_istore [(6, .int (nI (wv + (tr k)))), (9, .int 1), (8, .int 1), (7, .int (nI k)), (5, .int (nI (tg nx))), (4, .int (nI nx)), (3, .int (nI la)), (2, .int (nI p)), (1, .int (nI st)), (0, .ref (G.1 + 88))] dX9_wins_300 (by decide) rfl ?_
                  refine aw_iinc (j := 3) (nI (k + 1)) [(7, .int (nI (k + 1))), (6, .int (nI (wv + (tr k)))), (9, .int 1), (8, .int 1), (5, .int (nI (tg nx))), (4, .int (nI nx)), (3, .int (nI la)), (2, .int (nI p)), (1, .int (nI st)), (0, .ref (G.1 + 88))] dX9_wins_302 rfl (nv_inc (rfl)) (by decide) rfl ?_
                  refine aw_goto 15 dX9_wins_305 (by decide) ?_
                  refine aw_lv [(7, .int (nI (k + 1))), (6, .int (nI (wv + (tr k)))), (5, .int (nI (tg nx))), (4, .int (nI nx)), (3, .int (nI la)), (2, .int (nI p)), (1, .int (nI st)), (0, .ref (G.1 + 88))] [0, 1, 4, 5, 6, 7, 8, 9] rfl ?_
                  exact ih3313 (k + 1) (wv + (tr k)) (by omega) (by omega) (wnF_y hw ⟨t36, Or.inr t62, Or.inr (Or.inr (Or.inr ⟨e0, by omega, d271⟩))⟩)
set_option maxHeartbeats 4000000 in
theorem bX9_wrongShelf {l : Launch} {G : xG} {h : List va_E} {x : Int32}   : CD l G yX9_wrongShelf cX9_wrongShelf 2 (some .int) 1 0 0 [.ref (G.1 + 88), .int x] h (some (.int (shR x))) h := by
  refine cm_ofQ rfl (Nat.le_of_ble_eq_true rfl) [(0, .ref (G.1 + 88)), (1, .int x)] rfl (fun QF hQF => ?_)
  refine aw_iload_n 1 dX9_wrongShelf_0 rfl rfl ?_
  refine aw_if_le 11 dX9_wrongShelf_1 (by decide) (fun c1 => ?_) (fun c1 => ?_)
  · have d1 := (j_le (a := x.toInt) (b := (0)) (rfl) (rfl)).mp c1
    refine aw_iconst (-1) dX9_wrongShelf_11 (by decide) ?_
    subst hQF
    exact aw_iret rfl dX9_wrongShelf_12 (by decide) (by decide) ⟨by unfold shR; (repeat' split) <;> first | (exfalso; omega) | rfl, rfl⟩
  · have d1 := mt (j_le (a := x.toInt) (b := (0)) (rfl) (rfl)).mpr c1
    refine aw_iload_n 1 dX9_wrongShelf_4 rfl rfl ?_
    refine aw_sipush (4096) dX9_wrongShelf_5 (by decide) ?_
    refine aw_icmp_lt 13 dX9_wrongShelf_8 (by decide) (fun c8 => ?_) (fun c8 => ?_)
    · have d8 := (j_lt (a := x.toInt) (b := (4096)) (rfl) (rfl)).mp c8
      obtain ⟨xa, bb_xa, ee_xa⟩ := i_nat (x := x) (N := 4096) (by omega) (by omega)
      subst ee_xa
      have tt_xa : (nI xa).toInt = (xa : Int) := nI_toInt (by omega)
      have nn_xa : tn (nI xa) = xa := tn_nI (by omega)
      refine aw_iload_n 1 dX9_wrongShelf_13 rfl rfl ?_
      refine aw_dS [.int (nI xa)] [] lX9_159 sX9_bitsOf mX9_bitsOf dX9_wrongShelf_14 (bX9_bitsOf (a := xa) (by omega)) rfl (Nat.le_of_ble_eq_true rfl) (by decide) (by decide) rfl ?_
      refine aw_toe (nI (popN xa)) (by rw [pc_pop bb_xa]) ?_
      have bpx := popN_le xa
      refine aw_bipush (8) dX9_wrongShelf_17 (by decide) ?_
      refine aw_icmp_le 27 dX9_wrongShelf_19 (by decide) (fun c19 => ?_) (fun c19 => ?_)
      · have d19 := (nv_le (a := popN xa) (b := 8) (rfl) (rfl) (by omega) (by omega)).mp c19
        refine aw_iconst (0) dX9_wrongShelf_27 (by decide) ?_
        subst hQF
        exact aw_iret rfl dX9_wrongShelf_28 (by decide) (by decide) ⟨by unfold shR; rw [nn_xa]; (repeat' split) <;> first | (exfalso; omega) | rfl, rfl⟩
      · have d19 := mt (nv_le (a := popN xa) (b := 8) (rfl) (rfl) (by omega) (by omega)).mpr c19
        refine aw_bipush (-6) dX9_wrongShelf_22 (by decide) ?_
        refine aw_goto 28 dX9_wrongShelf_24 (by decide) ?_
        subst hQF
        exact aw_iret rfl dX9_wrongShelf_28 (by decide) (by decide) ⟨by unfold shR; rw [nn_xa]; (repeat' split) <;> first | (exfalso; omega) | rfl, rfl⟩
    · have d8 := mt (j_lt (a := x.toInt) (b := (4096)) (rfl) (rfl)).mpr c8
      refine aw_iconst (-1) dX9_wrongShelf_11 (by decide) ?_
      subst hQF
      exact aw_iret rfl dX9_wrongShelf_12 (by decide) (by decide) ⟨by unfold shR; (repeat' split) <;> first | (exfalso; omega) | rfl, rfl⟩
/-- the greatest of what the things bring that stand not yet -/
def mxF (g : Nat → Nat) (p : Nat) : Nat → Nat
  | 0 => 0
  | k + 1 => if p.testBit k = true then mxF g p k else max (mxF g p k) (g k)
theorem mxF_c {g g' : Nat → Nat} {p : Nat} : ∀ n, (∀ k, k < n → ¬ p.testBit k = true → g k = g' k) → mxF g p n = mxF g' p n := by
  intro n
  induction n with
  | zero => intro _; rfl
  | succ n ih =>
    intro h
    simp only [mxF]
    rw [ih (fun k hk => h k (by omega))]
    split
    · rfl
    · rw [h n (by omega) (by assumption)]
theorem mxF_le {g : Nat → Nat} {p B : Nat} (h : ∀ k, g k ≤ B) : ∀ n, mxF g p n ≤ B := by
  intro n
  induction n with
  | zero => exact Nat.zero_le _
  | succ n ih =>
    have q := h n
    simp only [mxF]
    split <;> omega
theorem mxF_0 {g : Nat → Nat} {p : Nat} : ∀ n, (∀ k, k < n → p.testBit k = true) → mxF g p n = 0 := by
  intro n
  induction n with
  | zero => intro _; rfl
  | succ n ih =>
    intro h
    simp only [mxF]
    rw [if_pos (h n (by omega))]
    exact ih (fun k hk => h k (by omega))
theorem mxF_at {g : Nat → Nat} {p : Nat} : ∀ n, (∃ k, k < n ∧ ¬ p.testBit k = true) → ∃ k, k < n ∧ ¬ p.testBit k = true ∧ g k = mxF g p n := by
  intro n
  induction n with
  | zero => rintro ⟨k, hk, _⟩; omega
  | succ n ih =>
    rintro ⟨k, hk, hb⟩
    simp only [mxF]
    by_cases q : p.testBit n = true
    · rw [if_pos q]
      have hn : k ≠ n := fun e => hb (by rw [e]; exact q)
      obtain ⟨j, h1, h2, h3⟩ := ih ⟨k, by omega, hb⟩
      exact ⟨j, by omega, h2, h3⟩
    · rw [if_neg q]
      by_cases c : mxF g p n ≤ g n
      · exact ⟨n, by omega, q, by omega⟩
      · by_cases e : ∃ k, k < n ∧ ¬ p.testBit k = true
        · obtain ⟨j, h1, h2, h3⟩ := ih e
          exact ⟨j, by omega, h2, by omega⟩
        · have z : mxF g p n = 0 := mxF_0 n (fun k hk => Classical.byContradiction (fun b => e ⟨k, hk, b⟩))
          omega
theorem or_gt {p k : Nat} (h : ¬ p.testBit k = true) : p < p ||| 2 ^ k := by
  have a : p ≤ p ||| 2 ^ k := Nat.left_le_or
  rcases Nat.lt_or_ge p (p ||| 2 ^ k) with q | q
  · exact q
  · have e : p ||| 2 ^ k = p := Nat.le_antisymm q a
    exfalso
    apply h
    rw [← e, Nat.testBit_or, Nat.testBit_two_pow_self]
    simp
theorem or_ps {p k s : Nat} (h : p < 2 ^ s) (hk : k < s) : p ||| 2 ^ k < 2 ^ s := Nat.or_lt_two_pow h (Nat.pow_lt_pow_right (by decide) hk)
theorem allbit {p s k : Nat} (h : p = 2 ^ s - 1) (hk : k < s) : p.testBit k = true := by rw [h, pw_b]; simpa using hk
/-- the most that the rest can bring: fuel, what stands, the last one's place and one more -/
def rsF (g : Nat → Nat → Nat → Nat) (sh : Nat) : Nat → Nat → Nat → Nat
  | 0, _, _ => 0
  | f + 1, p, L => mxF (fun k => g p L k + rsF g sh f (p ||| 2 ^ k) (k + 1)) p sh
theorem rsF_le {g : Nat → Nat → Nat → Nat} {sh : Nat} (hg : ∀ p L k, g p L k ≤ 360) : ∀ f p L, rsF g sh f p L ≤ 360 * f := by
  intro f
  induction f with
  | zero => intro p L; exact Nat.le_refl _
  | succ f ih =>
    intro p L
    simp only [rsF]
    apply mxF_le
    intro k
    have a := hg p L k
    have b := ih (p ||| 2 ^ k) (k + 1)
    omega
theorem rsF_all {g : Nat → Nat → Nat → Nat} {sh f p L : Nat} (h : p = 2 ^ sh - 1) : rsF g sh f p L = 0 := by
  cases f with
  | zero => rfl
  | succ f => simp only [rsF]; exact mxF_0 sh (fun k hk => allbit h hk)
theorem rsF_e {g : Nat → Nat → Nat → Nat} {sh : Nat} : ∀ f f' p L, p < 2 ^ sh → 2 ^ sh ≤ p + f + 1 → 2 ^ sh ≤ p + f' + 1 → rsF g sh f p L = rsF g sh f' p L := by
  intro f
  induction f with
  | zero => intro f' p L h1 h2 h3; rw [rsF_all (f := f') (by omega)]; rfl
  | succ f ih =>
    intro f' p L h1 h2 h3
    cases f' with
    | zero => rw [rsF_all (f := f + 1) (by omega)]; rfl
    | succ f' =>
      simp only [rsF]
      apply mxF_c
      intro k hk hb
      have a := or_gt hb
      have b := or_ps (k := k) h1 hk
      rw [ih f' (p ||| 2 ^ k) (k + 1) b (by omega) (by omega)]
def gS (st : Nat) (so xx yy tr tg : Nat → Nat) (sh nv : Nat) : Nat → Nat → Nat → Nat := fun p L k => wnF st so xx yy tr tg sh p L k nv
def RS (st : Nat) (so xx yy tr tg : Nat → Nat) (sh nv p L : Nat) : Nat := rsF (gS st so xx yy tr tg sh nv) sh 256 p L
def vS (st : Nat) (so xx yy tr tg : Nat → Nat) (sh nv p L : Nat) : Nat → Nat := fun k => wnF st so xx yy tr tg sh p L k nv + RS st so xx yy tr tg sh nv (p ||| 2 ^ k) (k + 1)
section SV
variable {st : Nat} {so xx yy tr tg : Nat → Nat} {sh nv p L : Nat}
theorem RS_le (ht : ∀ j, j < 40 → tr j ≤ 9) (hn : nv ≤ 40) : RS st so xx yy tr tg sh nv p L ≤ 92160 :=
  rsF_le (fun p L k => by have a := wnF_le (st := st) (so := so) (xx := xx) (yy := yy) (tg := tg) (sh := sh) (p := p) (L := L) (nx := k) ht nv hn; unfold gS; omega) 256 p L
theorem vS_le (ht : ∀ j, j < 40 → tr j ≤ 9) (hn : nv ≤ 40) (k : Nat) : vS st so xx yy tr tg sh nv p L k ≤ 92520 := by
  have a := wnF_le (st := st) (so := so) (xx := xx) (yy := yy) (tg := tg) (sh := sh) (p := p) (L := L) (nx := k) ht nv hn
  have b := RS_le (st := st) (so := so) (xx := xx) (yy := yy) (tg := tg) (sh := sh) (p := p ||| 2 ^ k) (L := k + 1) ht hn
  unfold vS; omega
theorem RS_s (hs : sh ≤ 8) (hp : p < 2 ^ sh) : RS st so xx yy tr tg sh nv p L = mxF (vS st so xx yy tr tg sh nv p L) p sh := by
  have pw := pw8 sh hs
  show mxF _ p sh = _
  apply mxF_c
  intro k hk hb
  have a := or_gt hb
  have b := or_ps (k := k) hp hk
  show gS st so xx yy tr tg sh nv p L k + rsF _ sh 255 (p ||| 2 ^ k) (k + 1) = wnF st so xx yy tr tg sh p L k nv + rsF _ sh 256 (p ||| 2 ^ k) (k + 1)
  rw [rsF_e 255 256 (p ||| 2 ^ k) (k + 1) b (by omega) (by omega)]
  rfl
theorem ex_clr0 : ∀ s, s < 9 → ∀ p, p < 256 → p < 2 ^ s - 1 → ∃ j, j < s ∧ ¬ p.testBit j = true := by decide +kernel
theorem ex_clr {s p : Nat} (hs : s ≤ 8) (hp : p < 2 ^ s - 1) : ∃ j, j < s ∧ ¬ p.testBit j = true := ex_clr0 s (by omega) p (by have := pw8 s hs; omega) hp
theorem RS_at (hs : sh ≤ 8) (hp : p < 2 ^ sh - 1) : ∃ k, k < sh ∧ ¬ p.testBit k = true ∧ vS st so xx yy tr tg sh nv p L k = RS st so xx yy tr tg sh nv p L := by
  have pw := pw8 sh hs
  rw [RS_s hs (by omega)]
  exact mxF_at sh (ex_clr hs hp)
theorem rs_up {rs : Nat → Int32} {v : Int32} (hR : ∀ q M, ((p < q ∧ q < 2 ^ sh) ∨ (q = p ∧ M < L)) → M ≤ sh → rs (9 * q + M) = nI (RS st so xx yy tr tg sh nv q M)) (hs : sh ≤ 8) (hL : L ≤ sh) (hv : v = nI (RS st so xx yy tr tg sh nv p L)) :
    ∀ q M, ((p < q ∧ q < 2 ^ sh) ∨ (q = p ∧ M < L + 1)) → M ≤ sh → upd rs (9 * p + L) v (9 * q + M) = nI (RS st so xx yy tr tg sh nv q M) := by
  intro q M h hM
  by_cases e : 9 * q + M = 9 * p + L
  · have e1 : q = p := by omega
    have e2 : M = L := by omega
    subst e1; subst e2
    simp only [upd, if_pos]; exact hv
  · simp only [upd, if_neg e]
    exact hR q M (by omega) hM
end SV
theorem mx_neg {v : Nat} (h : v < 2 ^ 31) : (if (-1 : Int32) < nI v then nI v else -1) = nI v := by
  rw [if_pos]
  rw [i_lt, nI_toInt h]
  show (-1 : Int) < (v : Int)
  omega
theorem nI_mp {a : Nat} : nI a + (-1) + 1 = nI a := by
  rw [Int32.add_assoc]
  show nI a + ((-1) + 1) = nI a
  rw [show (-1 : Int32) + 1 = 0 from by decide]
  simp
theorem allb_s {p k : Nat} (h : ∀ j, j < k → p.testBit j = true) (hk : p.testBit k = true) : ∀ j, j < k + 1 → p.testBit j = true := by
  intro j hj
  by_cases e : j = k
  · rw [e]; exact hk
  · exact h j (by omega)
theorem pop_or0 : ∀ p, p < 256 → ∀ k, k < 8 → ¬ p.testBit k = true → popN (p ||| 2 ^ k) = popN p + 1 := by decide +kernel
theorem pop_all0 : ∀ s, s < 9 → popN (2 ^ s - 1) = s := by decide +kernel
/-- the first thing that brings the most -/
def fsF (v : Nat → Nat) (p m : Nat) : Nat → Nat → Nat
  | 0, i => i
  | f + 1, i => if p.testBit i = true then fsF v p m f (i + 1) else if v i = m then i else fsF v p m f (i + 1)
theorem fsF_is {v : Nat → Nat} {p m k : Nat} (hb : ¬ p.testBit k = true) (hv : v k = m) : ∀ f i, (∀ j, i ≤ j → j < k → p.testBit j = true ∨ v j ≠ m) → i ≤ k → k < i + f → fsF v p m f i = k := by
  intro f
  induction f with
  | zero => intro i _ h1 h2; omega
  | succ f ih =>
    intro i h h1 h2
    simp only [fsF]
    by_cases e : i = k
    · rw [e, if_neg hb, if_pos hv]
    · have n := ih (i + 1) (fun j hj hk => h j (by omega) hk) (by omega) (by omega)
      rcases h i (Nat.le_refl _) (by omega) with q | q
      · rw [if_pos q]; exact n
      · by_cases c : p.testBit i = true
        · rw [if_pos c]; exact n
        · rw [if_neg c, if_neg q]; exact n
/-- the row told: what stands, the last one's place and one more, the row -/
def rwF (st : Nat) (so xx yy tr tg : Nat → Nat) (sh nv : Nat) (rw0 : Nat → Int32) : Nat → Nat × Nat × (Nat → Int32)
  | 0 => (0, 0, rw0)
  | n + 1 =>
    let s := rwF st so xx yy tr tg sh nv rw0 n
    let k := fsF (vS st so xx yy tr tg sh nv s.1 s.2.1) s.1 (RS st so xx yy tr tg sh nv s.1 s.2.1) sh 0
    (s.1 ||| 2 ^ k, k + 1, upd s.2.2 n (nI (tg k)))
theorem fst_s {v : Nat → Nat} {p m k : Nat} (h : ∀ j, 0 ≤ j → j < k → p.testBit j = true ∨ v j ≠ m) (hk : p.testBit k = true ∨ v k ≠ m) : ∀ j, 0 ≤ j → j < k + 1 → p.testBit j = true ∨ v j ≠ m := by
  intro j h0 hj
  by_cases e : j = k
  · rw [e]; exact hk
  · exact h j h0 (by omega)
