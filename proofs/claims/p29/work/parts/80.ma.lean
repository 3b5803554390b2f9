set_option maxHeartbeats 4000000 in
theorem bX9_likeOf {l : Launch} {G : xG} {h : List va_E} {sp fa nb ns nm nv sh : Nat} {ho ow sl : Int32} {m ye b1 b2 : Nat → Nat} {W Z Ro Co : Nat → Int32} {a i b k : Nat} (h88 : h[88]? = some (oB 9 (lM G (nI sp) (nI fa) (nI nb) (nI ns) (nI nm) ho ow sl (nI nv) (nI sh)))) (h90 : h[90]? = some (aI 20 (nA m))) (h91 : h[91]? = some (aI 4 (nA ye))) (h93 : h[93]? = some (aI 40 W)) (h94 : h[94]? = some (aI 40 Z)) (h95 : h[95]? = some (aI 40 Ro)) (h96 : h[96]? = some (aI 40 Co)) (h97 : h[97]? = some (aI 30 (nA b1))) (h98 : h[98]? = some (aI 30 (nA b2))) (hm : ∀ j, j < 20 → m j ≤ j) (hye : ∀ j, j < 4 → ye j < 1901) (hnb : nb ≤ 30) (bb1 : ∀ j, j < 30 → b1 j < 40) (bb2 : ∀ j, j < 30 → b2 j < 40) (hsp : sp ≤ 50) (hfd : fa ≤ 9) (ba : a < 4) (bi : i < 10) (bb : b < 4) (bk : k < 10) : CD l G yX9_likeOf cX9_likeOf 12 (some .int) 2 0 0 [.ref (G.1 + 88), .int (nI a), .int (nI i), .int (nI b), .int (nI k)] h (some (.int (lkS ye (fun j => snF (root m) (W j) 20) Z Ro Co (brF b1 b2 (a * 10 + i) (b * 10 + k) nb = true) sp fa a i b k))) h := by
  refine cm_ofQ rfl (Nat.le_of_ble_eq_true rfl) [(0, .ref (G.1 + 88)), (1, .int (nI a)), (2, .int (nI i)), (3, .int (nI b)), (4, .int (nI k))] rfl (fun QF hQF => ?_)
  refine aw_bipush (10) dX9_likeOf_0 (by decide) ?_
  refine aw_iload_n 1 dX9_likeOf_2 rfl rfl ?_
  refine aw_imul dX9_likeOf_3 ?_
  refine aw_toe (nI (a * 10)) (by rw [Nat.mul_comm a 10]; exact nv_mul (rfl) (rfl)) ?_
  refine aw_iload_n 2 dX9_likeOf_4 rfl rfl ?_
  refine aw_iadd dX9_likeOf_5 ?_
  refine aw_toe (nI ((a * 10) + i)) (nv_add (rfl) (rfl)) ?_
  refine aw_istore [(5, .int (nI ((a * 10) + i))), (0, .ref (G.1 + 88)), (1, .int (nI a)), (2, .int (nI i)), (3, .int (nI b)), (4, .int (nI k))] dX9_likeOf_6 (by decide) rfl ?_
  refine aw_bipush (10) dX9_likeOf_8 (by decide) ?_
  refine aw_iload_n 4 dX9_likeOf_10 rfl rfl ?_
  refine aw_imul dX9_likeOf_11 ?_
  refine aw_toe (nI (b * 10)) (by rw [Nat.mul_comm b 10]; exact nv_mul (rfl) (rfl)) ?_
  refine aw_iload 5 dX9_likeOf_12 rfl ?_
  refine aw_iadd dX9_likeOf_14 ?_
  refine aw_toe (nI ((b * 10) + k)) (nv_add (rfl) (rfl)) ?_
  refine aw_istore [(6, .int (nI ((b * 10) + k))), (5, .int (nI ((a * 10) + i))), (0, .ref (G.1 + 88)), (1, .int (nI a)), (2, .int (nI i)), (3, .int (nI b)), (4, .int (nI k))] dX9_likeOf_15 (by decide) rfl ?_
  refine aw_aload_n 2 dX9_likeOf_17 rfl rfl ?_
  refine aw_get fX9_25 dX9_likeOf_18 h88 rfl ?_
  refine aw_iload 1 dX9_likeOf_21 rfl ?_
  refine aw_iald ((a * 10) + i) (rfl) (by omega) (by decide) dX9_likeOf_23 h94 ?_
  refine aw_aload_n 2 dX9_likeOf_24 rfl rfl ?_
  refine aw_get fX9_25 dX9_likeOf_25 h88 rfl ?_
  refine aw_iload 0 dX9_likeOf_28 rfl ?_
  refine aw_iald ((b * 10) + k) (rfl) (by omega) (by decide) dX9_likeOf_30 h94 ?_
  refine aw_isub dX9_likeOf_31 ?_
  refine aw_mabs lX9_151 dX9_likeOf_32 (Nat.le_of_ble_eq_true rfl) (by decide) (by decide) ?_
  refine aw_top (fun v1641 ev1641 => ?_)
  refine aw_istore [(7, .int v1641), (6, .int (nI ((b * 10) + k))), (5, .int (nI ((a * 10) + i))), (0, .ref (G.1 + 88)), (1, .int (nI a)), (2, .int (nI i)), (3, .int (nI b)), (4, .int (nI k))] dX9_likeOf_35 (by decide) rfl ?_
  refine aw_aload_n 3 dX9_likeOf_37 rfl rfl ?_
  refine aw_iload 2 dX9_likeOf_38 rfl ?_
  refine aw_dV [.int (nI ((a * 10) + i))] [] lX9_156 vX9_senses mX9_senses dX9_likeOf_40 (bX9_senses (sp := sp) (fa := fa) (nb := nb) (ns := ns) (nm := nm) (nv := nv) (sh := sh) (ho := ho) (ow := ow) (sl := sl) (m := m) (W := W) (x := (a * 10) + i) h88 h90 h93 hm (by omega)) h88 rfl rfl rfl (Nat.le_of_ble_eq_true rfl) (by decide) (by decide) rfl ?_
  obtain ⟨n1642, bn1642, en1642⟩ := snF_nat (se := root m) (x := (W ((a * 10) + i))) rootlt 20 (Nat.le_refl _)
  refine aw_toe (nI n1642) (en1642) ?_
  refine aw_istore [(8, .int (nI n1642)), (7, .int v1641), (6, .int (nI ((b * 10) + k))), (5, .int (nI ((a * 10) + i))), (0, .ref (G.1 + 88)), (1, .int (nI a)), (2, .int (nI i)), (3, .int (nI b)), (4, .int (nI k))] dX9_likeOf_43 (by decide) rfl ?_
  refine aw_aload_n 4 dX9_likeOf_45 rfl rfl ?_
  refine aw_iload 2 dX9_likeOf_46 rfl ?_
  refine aw_dV [.int (nI ((b * 10) + k))] [] lX9_156 vX9_senses mX9_senses dX9_likeOf_48 (bX9_senses (sp := sp) (fa := fa) (nb := nb) (ns := ns) (nm := nm) (nv := nv) (sh := sh) (ho := ho) (ow := ow) (sl := sl) (m := m) (W := W) (x := (b * 10) + k) h88 h90 h93 hm (by omega)) h88 rfl rfl rfl (Nat.le_of_ble_eq_true rfl) (by decide) (by decide) rfl ?_
  obtain ⟨n1643, bn1643, en1643⟩ := snF_nat (se := root m) (x := (W ((b * 10) + k))) rootlt 20 (Nat.le_refl _)
  refine aw_toe (nI n1643) (en1643) ?_
  refine aw_istore [(9, .int (nI n1643)), (8, .int (nI n1642)), (7, .int v1641), (6, .int (nI ((b * 10) + k))), (5, .int (nI ((a * 10) + i))), (0, .ref (G.1 + 88)), (1, .int (nI a)), (2, .int (nI i)), (3, .int (nI b)), (4, .int (nI k))] dX9_likeOf_51 (by decide) rfl ?_
  have q1 : n1642 &&& n1643 ≤ n1642 := Nat.and_le_left
  have q2 : n1642 ^^^ n1643 < 1048576 := Nat.xor_lt_two_pow (n := 20) bn1642 bn1643
  have J1 : ∀ (gv : Int32) (fv : Int32), (fv = flF ye Co a b (a * 10 + i) (b * 10 + k)) → AW l G yX9_likeOf cX9_likeOf 12 (some .int) (xR 2 0 0) (fun _ _ => True) QF 0 0 143 [(9, .int (nI n1643)), (8, .int (nI n1642)), (7, .int v1641), (6, .int (nI ((b * 10) + k))), (5, .int (nI ((a * 10) + i))), (0, .ref (G.1 + 88)), (1, .int (nI a)), (2, .int (nI i)), (3, .int (nI b)), (4, .int (nI k)), (10, .int gv), (11, .int fv)] [] h := by
    intro gv fv hfv
    refine aw_iload 2 dX9_likeOf_143 rfl ?_
    refine aw_aload_n 5 dX9_likeOf_145 rfl rfl ?_
    refine aw_get fX9_40 dX9_likeOf_146 h88 rfl ?_
    refine aw_icmp_gt 204 dX9_likeOf_149 (by decide) (fun c149 => ?_) (fun c149 => ?_)
    · have d149 := (j_lt (a := ((sp : Nat) : Int)) (b := v1641.toInt) (i_toNat (rfl) (by omega)) (rfl)).mp c149
      refine aw_iconst (0) dX9_likeOf_204 (by decide) ?_
      subst hQF
      exact aw_iret rfl dX9_likeOf_205 (by decide) (by decide) ⟨congrArg (fun z9 : Int32 => some (Value.int z9)) (lk_0 (Or.inl (by have w9 : v1641 = apF Z (a * 10 + i) (b * 10 + k) := ev1641; rw [← w9]; exact c149))), rfl⟩
    · have d149 := mt (j_lt (a := ((sp : Nat) : Int)) (b := v1641.toInt) (i_toNat (rfl) (by omega)) (rfl)).mpr c149
      refine aw_iload 1 dX9_likeOf_152 rfl ?_
      refine aw_iload 0 dX9_likeOf_154 rfl ?_
      refine aw_iand dX9_likeOf_156 ?_
      refine aw_toe (nI (n1642 &&& n1643)) (nv_and (rfl) (rfl)) ?_
      refine aw_if_eq 204 dX9_likeOf_157 (by decide) (fun c157 => ?_) (fun c157 => ?_)
      · have d157 := (nv_eq (a := n1642 &&& n1643) (b := 0) (rfl) (rfl) (by omega) (by omega)).mp c157
        refine aw_iconst (0) dX9_likeOf_204 (by decide) ?_
        subst hQF
        exact aw_iret rfl dX9_likeOf_205 (by decide) (by decide) ⟨congrArg (fun z9 : Int32 => some (Value.int z9)) (lk_0 (Or.inr (Or.inl (by show snF (root m) (W (a * 10 + i)) 20 &&& snF (root m) (W (b * 10 + k)) 20 = 0; rw [en1642, en1643, nn_and]; exact c157)))), rfl⟩
      · have d157 := mt (nv_eq (a := n1642 &&& n1643) (b := 0) (rfl) (rfl) (by omega) (by omega)).mpr c157
        refine aw_aload_n 5 dX9_likeOf_160 rfl rfl ?_
        refine aw_iload 4 dX9_likeOf_161 rfl ?_
        refine aw_iload 3 dX9_likeOf_163 rfl ?_
        refine aw_dV [.int (nI ((a * 10) + i)), .int (nI ((b * 10) + k))] [] lX9_148 vX9_isBarred mX9_isBarred dX9_likeOf_165 (bX9_isBarred (sp := sp) (fa := fa) (nb := nb) (ns := ns) (nm := nm) (nv := nv) (sh := sh) (ho := ho) (ow := ow) (sl := sl) (b1 := b1) (b2 := b2) (x := (a * 10) + i) (y := (b * 10) + k) h88 h97 h98 (by omega) bb1 bb2 (by omega) (by omega)) h88 rfl rfl rfl (Nat.le_of_ble_eq_true rfl) (by decide) (by decide) rfl ?_
        refine aw_if_ne 204 dX9_likeOf_168 (by decide) (fun c168 => ?_) (fun c168 => ?_)
        · have t168 := ite_1 c168
          refine aw_iconst (0) dX9_likeOf_204 (by decide) ?_
          subst hQF
          exact aw_iret rfl dX9_likeOf_205 (by decide) (by decide) ⟨congrArg (fun z9 : Int32 => some (Value.int z9)) (lk_0 (Or.inr (Or.inr (Or.inl t168)))), rfl⟩
        · have t168 := ite_0 c168
          refine aw_iload 11 dX9_likeOf_171 rfl ?_
          refine aw_if_lt 204 dX9_likeOf_173 (by decide) (fun c173 => ?_) (fun c173 => ?_)
          · have d173 := (j_lt (a := fv.toInt) (b := (0)) (rfl) (rfl)).mp c173
            refine aw_iconst (0) dX9_likeOf_204 (by decide) ?_
            subst hQF
            exact aw_iret rfl dX9_likeOf_205 (by decide) (by decide) ⟨congrArg (fun z9 : Int32 => some (Value.int z9)) (lk_0 (Or.inr (Or.inr (Or.inr (Or.inl (by rw [← hfv]; exact c173)))))), rfl⟩
          · have d173 := mt (j_lt (a := fv.toInt) (b := (0)) (rfl) (rfl)).mpr c173
            refine aw_iload 11 dX9_likeOf_176 rfl ?_
            refine aw_aload_n 5 dX9_likeOf_178 rfl rfl ?_
            refine aw_get fX9_16 dX9_likeOf_179 h88 rfl ?_
            refine aw_iload_n 6 dX9_likeOf_182 rfl rfl ?_
            refine aw_iald a (rfl) (by omega) (by decide) dX9_likeOf_183 h91 ?_
            refine aw_toe (nI (ye a)) (rfl) ?_
            have b1644 := hye a (by omega)
            refine aw_aload_n 5 dX9_likeOf_184 rfl rfl ?_
            refine aw_get fX9_16 dX9_likeOf_185 h88 rfl ?_
            refine aw_iload_n 8 dX9_likeOf_188 rfl rfl ?_
            refine aw_iald b (rfl) (by omega) (by decide) dX9_likeOf_189 h91 ?_
            refine aw_toe (nI (ye b)) (rfl) ?_
            have b1645 := hye b (by omega)
            refine aw_isub dX9_likeOf_190 ?_
            refine aw_mabs lX9_151 dX9_likeOf_191 (Nat.le_of_ble_eq_true rfl) (by decide) (by decide) ?_
            refine aw_toe (nI (max (ye a) (ye b) - min (ye a) (ye b))) (ab_y (by omega) (by omega)) ?_
            refine aw_aload_n 5 dX9_likeOf_194 rfl rfl ?_
            refine aw_get fX9_44 dX9_likeOf_195 h88 rfl ?_
            refine aw_imul dX9_likeOf_198 ?_
            refine aw_iconst (5) dX9_likeOf_199 (by decide) ?_
            refine aw_iadd dX9_likeOf_200 ?_
            refine aw_icmp_le 206 dX9_likeOf_201 (by decide) (fun c201 => ?_) (fun c201 => ?_)
            · have d201 := (j_le (a := fv.toInt) (b := (((nI (max (ye a) (ye b) - min (ye a) (ye b))) * (nI fa)) + 5).toInt) (rfl) (rfl)).mp c201
              refine aw_iconst (1) dX9_likeOf_206 (by decide) ?_
              refine aw_bipush (10) dX9_likeOf_207 (by decide) ?_
              refine aw_iload 1 dX9_likeOf_209 rfl ?_
              refine aw_iload 0 dX9_likeOf_211 rfl ?_
              refine aw_iand dX9_likeOf_213 ?_
              refine aw_toe (nI (n1642 &&& n1643)) (nv_and (rfl) (rfl)) ?_
              refine aw_dS [.int (nI (n1642 &&& n1643))] [.int 10, .int 1] lX9_159 sX9_bitsOf mX9_bitsOf dX9_likeOf_214 (bX9_bitsOf (a := n1642 &&& n1643) (by omega)) rfl (Nat.le_of_ble_eq_true rfl) (by decide) (by decide) rfl ?_
              refine aw_imul dX9_likeOf_217 ?_
              refine aw_toe (nI (10 * (pcF 20 (n1642 &&& n1643)))) (nv_mul (rfl) (rfl)) ?_
              refine aw_iconst (2) dX9_likeOf_218 (by decide) ?_
              refine aw_iload 1 dX9_likeOf_219 rfl ?_
              refine aw_iload 0 dX9_likeOf_221 rfl ?_
              refine aw_ixor dX9_likeOf_223 ?_
              refine aw_toe (nI (n1642 ^^^ n1643)) (nv_xor (rfl) (rfl)) ?_
              refine aw_dS [.int (nI (n1642 ^^^ n1643))] [.int 2, .int (nI (10 * (pcF 20 (n1642 &&& n1643)))), .int 1] lX9_159 sX9_bitsOf mX9_bitsOf dX9_likeOf_224 (bX9_bitsOf (a := n1642 ^^^ n1643) (by omega)) rfl (Nat.le_of_ble_eq_true rfl) (by decide) (by decide) rfl ?_
              refine aw_imul dX9_likeOf_227 ?_
              refine aw_toe (nI (2 * (pcF 20 (n1642 ^^^ n1643)))) (nv_mul (rfl) (rfl)) ?_
              refine aw_isub dX9_likeOf_228 ?_
              refine aw_iload 2 dX9_likeOf_229 rfl ?_
              refine aw_isub dX9_likeOf_231 ?_
              refine aw_aload_n 5 dX9_likeOf_232 rfl rfl ?_
              refine aw_get fX9_28 dX9_likeOf_233 h88 rfl ?_
              refine aw_iload 4 dX9_likeOf_236 rfl ?_
              refine aw_iald ((a * 10) + i) (rfl) (by omega) (by decide) dX9_likeOf_238 h95 ?_
              refine aw_aload_n 5 dX9_likeOf_239 rfl rfl ?_
              refine aw_get fX9_28 dX9_likeOf_240 h88 rfl ?_
              refine aw_iload 3 dX9_likeOf_243 rfl ?_
              refine aw_iald ((b * 10) + k) (rfl) (by omega) (by decide) dX9_likeOf_245 h95 ?_
              refine aw_icmp_ne 254 dX9_likeOf_246 (by decide) (fun c246 => ?_) (fun c246 => ?_)
              · have d246 := mt (j_eq (a := (Ro ((a * 10) + i)).toInt) (b := (Ro ((b * 10) + k)).toInt) (rfl) (rfl)).mpr c246
                refine aw_iconst (0) dX9_likeOf_254 (by decide) ?_
                refine aw_iadd dX9_likeOf_255 ?_
                refine aw_mmax lX9_162 dX9_likeOf_256 (Nat.le_of_ble_eq_true rfl) (by decide) (by decide) ?_
                subst hQF
                exact aw_iret rfl dX9_likeOf_259 (by decide) (by decide) ⟨congrArg (fun z9 : Int32 => some (Value.int z9)) (lk_1 (S := fun j => snF (root m) (W j) 20) en1642 en1643 bn1642 bn1643 ev1641 (by rw [if_neg c246]) c149 c157 t168 (by rw [← hfv]; exact c173) (by have w9 : nI (max (ye a) (ye b) - min (ye a) (ye b)) * nI fa + 5 = nI (ynF ye fa a b) := ynF_e; rw [← w9, ← hfv]; exact Int32.not_lt.mpr c201)), rfl⟩
              · have d246 := (j_eq (a := (Ro ((a * 10) + i)).toInt) (b := (Ro ((b * 10) + k)).toInt) (rfl) (rfl)).mp c246
                refine aw_bipush (7) dX9_likeOf_249 (by decide) ?_
                refine aw_goto 255 dX9_likeOf_251 (by decide) ?_
                refine aw_iadd dX9_likeOf_255 ?_
                refine aw_mmax lX9_162 dX9_likeOf_256 (Nat.le_of_ble_eq_true rfl) (by decide) (by decide) ?_
                subst hQF
                exact aw_iret rfl dX9_likeOf_259 (by decide) (by decide) ⟨congrArg (fun z9 : Int32 => some (Value.int z9)) (lk_1 (S := fun j => snF (root m) (W j) 20) en1642 en1643 bn1642 bn1643 ev1641 (by rw [if_pos c246]) c149 c157 t168 (by rw [← hfv]; exact c173) (by have w9 : nI (max (ye a) (ye b) - min (ye a) (ye b)) * nI fa + 5 = nI (ynF ye fa a b) := ynF_e; rw [← w9, ← hfv]; exact Int32.not_lt.mpr c201)), rfl⟩
            · have d201 := mt (j_le (a := fv.toInt) (b := (((nI (max (ye a) (ye b) - min (ye a) (ye b))) * (nI fa)) + 5).toInt) (rfl) (rfl)).mpr c201
              refine aw_iconst (0) dX9_likeOf_204 (by decide) ?_
              subst hQF
              exact aw_iret rfl dX9_likeOf_205 (by decide) (by decide) ⟨congrArg (fun z9 : Int32 => some (Value.int z9)) (lk_0 (Or.inr (Or.inr (Or.inr (Or.inr (by have w9 : nI (max (ye a) (ye b) - min (ye a) (ye b)) * nI fa + 5 = nI (ynF ye fa a b) := ynF_e; rw [← w9, ← hfv]; exact Int32.not_le.mp c201)))))), rfl⟩
  refine aw_aload_n 5 dX9_likeOf_53 rfl rfl ?_
  refine aw_get fX9_16 dX9_likeOf_54 h88 rfl ?_
  refine aw_iload_n 6 dX9_likeOf_57 rfl rfl ?_
  refine aw_iald a (rfl) (by omega) (by decide) dX9_likeOf_58 h91 ?_
  refine aw_toe (nI (ye a)) (rfl) ?_
  have b1646 := hye a (by omega)
  refine aw_aload_n 5 dX9_likeOf_59 rfl rfl ?_
  refine aw_get fX9_16 dX9_likeOf_60 h88 rfl ?_
  refine aw_iload_n 8 dX9_likeOf_63 rfl rfl ?_
  refine aw_iald b (rfl) (by omega) (by decide) dX9_likeOf_64 h91 ?_
  refine aw_toe (nI (ye b)) (rfl) ?_
  have b1647 := hye b (by omega)
  refine aw_icmp_eq 91 dX9_likeOf_65 (by decide) (fun c65 => ?_) (fun c65 => ?_)
  · have d65 := (nv_eq (a := ye a) (b := ye b) (rfl) (rfl) (by omega) (by omega)).mp c65
    refine aw_iload_n 6 dX9_likeOf_91 rfl rfl ?_
    refine aw_iload_n 8 dX9_likeOf_92 rfl rfl ?_
    refine aw_icmp_ge 100 dX9_likeOf_93 (by decide) (fun c93 => ?_) (fun c93 => ?_)
    · have d93 := (nv_le (a := b) (b := a) (rfl) (rfl) (by omega) (by omega)).mp c93
      refine aw_iconst (0) dX9_likeOf_100 (by decide) ?_
      refine aw_istore [(10, .int 0), (9, .int (nI n1643)), (8, .int (nI n1642)), (7, .int v1641), (6, .int (nI ((b * 10) + k))), (5, .int (nI ((a * 10) + i))), (0, .ref (G.1 + 88)), (1, .int (nI a)), (2, .int (nI i)), (3, .int (nI b)), (4, .int (nI k))] dX9_likeOf_101 (by decide) rfl ?_
      refine aw_iload 0 dX9_likeOf_103 rfl ?_
      refine aw_if_eq 126 dX9_likeOf_105 (by decide) (fun c105 => ?_) (fun c105 => absurd (by decide) c105)
      refine aw_aload_n 6 dX9_likeOf_126 rfl rfl ?_
      refine aw_get fX9_31 dX9_likeOf_127 h88 rfl ?_
      refine aw_iload 4 dX9_likeOf_130 rfl ?_
      refine aw_iald ((b * 10) + k) (rfl) (by omega) (by decide) dX9_likeOf_132 h96 ?_
      refine aw_aload_n 6 dX9_likeOf_133 rfl rfl ?_
      refine aw_get fX9_31 dX9_likeOf_134 h88 rfl ?_
      refine aw_iload 5 dX9_likeOf_137 rfl ?_
      refine aw_iald ((a * 10) + i) (rfl) (by omega) (by decide) dX9_likeOf_139 h96 ?_
      refine aw_isub dX9_likeOf_140 ?_
      refine aw_istore [(11, .int ((Co ((b * 10) + k)) - (Co ((a * 10) + i)))), (10, .int 0), (9, .int (nI n1643)), (8, .int (nI n1642)), (7, .int v1641), (6, .int (nI ((b * 10) + k))), (5, .int (nI ((a * 10) + i))), (0, .ref (G.1 + 88)), (1, .int (nI a)), (2, .int (nI i)), (3, .int (nI b)), (4, .int (nI k))] dX9_likeOf_141 (by decide) rfl ?_
      refine aw_lv [(9, .int (nI n1643)), (8, .int (nI n1642)), (7, .int v1641), (6, .int (nI ((b * 10) + k))), (5, .int (nI ((a * 10) + i))), (0, .ref (G.1 + 88)), (1, .int (nI a)), (2, .int (nI i)), (3, .int (nI b)), (4, .int (nI k)), (10, .int 0), (11, .int ((Co ((b * 10) + k)) - (Co ((a * 10) + i))))] [2, 3, 4, 5, 6, 7, 8, 9, 10, 11, 1, 0] rfl ?_
      exact J1 0 ((Co ((b * 10) + k)) - (Co ((a * 10) + i))) (fl_f (by rw [if_pos d65]; omega))
    · have d93 := mt (nv_le (a := b) (b := a) (rfl) (rfl) (by omega) (by omega)).mpr c93
      refine aw_iconst (1) dX9_likeOf_96 (by decide) ?_
      refine aw_goto 101 dX9_likeOf_97 (by decide) ?_
      refine aw_istore [(10, .int 1), (9, .int (nI n1643)), (8, .int (nI n1642)), (7, .int v1641), (6, .int (nI ((b * 10) + k))), (5, .int (nI ((a * 10) + i))), (0, .ref (G.1 + 88)), (1, .int (nI a)), (2, .int (nI i)), (3, .int (nI b)), (4, .int (nI k))] dX9_likeOf_101 (by decide) rfl ?_
      refine aw_iload 0 dX9_likeOf_103 rfl ?_
      refine aw_if_eq 126 dX9_likeOf_105 (by decide) (fun c105 => absurd c105 (by decide)) (fun c105 => ?_)
      refine aw_aload_n 6 dX9_likeOf_108 rfl rfl ?_
      refine aw_get fX9_31 dX9_likeOf_109 h88 rfl ?_
      refine aw_iload 5 dX9_likeOf_112 rfl ?_
      refine aw_iald ((a * 10) + i) (rfl) (by omega) (by decide) dX9_likeOf_114 h96 ?_
      refine aw_aload_n 6 dX9_likeOf_115 rfl rfl ?_
      refine aw_get fX9_31 dX9_likeOf_116 h88 rfl ?_
      refine aw_iload 4 dX9_likeOf_119 rfl ?_
      refine aw_iald ((b * 10) + k) (rfl) (by omega) (by decide) dX9_likeOf_121 h96 ?_
      refine aw_isub dX9_likeOf_122 ?_
      refine aw_goto 141 dX9_likeOf_123 (by decide) ?_
      refine aw_istore [(11, .int ((Co ((a * 10) + i)) - (Co ((b * 10) + k)))), (10, .int 1), (9, .int (nI n1643)), (8, .int (nI n1642)), (7, .int v1641), (6, .int (nI ((b * 10) + k))), (5, .int (nI ((a * 10) + i))), (0, .ref (G.1 + 88)), (1, .int (nI a)), (2, .int (nI i)), (3, .int (nI b)), (4, .int (nI k))] dX9_likeOf_141 (by decide) rfl ?_
      refine aw_lv [(9, .int (nI n1643)), (8, .int (nI n1642)), (7, .int v1641), (6, .int (nI ((b * 10) + k))), (5, .int (nI ((a * 10) + i))), (0, .ref (G.1 + 88)), (1, .int (nI a)), (2, .int (nI i)), (3, .int (nI b)), (4, .int (nI k)), (10, .int 1), (11, .int ((Co ((a * 10) + i)) - (Co ((b * 10) + k))))] [2, 3, 4, 5, 6, 7, 8, 9, 10, 11, 1, 0] rfl ?_
      exact J1 1 ((Co ((a * 10) + i)) - (Co ((b * 10) + k))) (fl_t (by rw [if_pos d65]; omega))
  · have d65 := mt (nv_eq (a := ye a) (b := ye b) (rfl) (rfl) (by omega) (by omega)).mpr c65
    refine aw_aload_n 5 dX9_likeOf_68 rfl rfl ?_
    refine aw_get fX9_16 dX9_likeOf_69 h88 rfl ?_
    refine aw_iload_n 6 dX9_likeOf_72 rfl rfl ?_
    refine aw_iald a (rfl) (by omega) (by decide) dX9_likeOf_73 h91 ?_
    refine aw_toe (nI (ye a)) (rfl) ?_
    have b1648 := hye a (by omega)
    refine aw_aload_n 5 dX9_likeOf_74 rfl rfl ?_
    refine aw_get fX9_16 dX9_likeOf_75 h88 rfl ?_
    refine aw_iload_n 8 dX9_likeOf_78 rfl rfl ?_
    refine aw_iald b (rfl) (by omega) (by decide) dX9_likeOf_79 h91 ?_
    refine aw_toe (nI (ye b)) (rfl) ?_
    have b1649 := hye b (by omega)
    refine aw_icmp_ge 87 dX9_likeOf_80 (by decide) (fun c80 => ?_) (fun c80 => ?_)
    · have d80 := (nv_le (a := ye b) (b := ye a) (rfl) (rfl) (by omega) (by omega)).mp c80
      refine aw_iconst (0) dX9_likeOf_87 (by decide) ?_
      refine aw_goto 101 dX9_likeOf_88 (by decide) ?_
      refine aw_istore [(10, .int 0), (9, .int (nI n1643)), (8, .int (nI n1642)), (7, .int v1641), (6, .int (nI ((b * 10) + k))), (5, .int (nI ((a * 10) + i))), (0, .ref (G.1 + 88)), (1, .int (nI a)), (2, .int (nI i)), (3, .int (nI b)), (4, .int (nI k))] dX9_likeOf_101 (by decide) rfl ?_
      refine aw_iload 0 dX9_likeOf_103 rfl ?_
      refine aw_if_eq 126 dX9_likeOf_105 (by decide) (fun c105 => ?_) (fun c105 => absurd (by decide) c105)
      refine aw_aload_n 6 dX9_likeOf_126 rfl rfl ?_
      refine aw_get fX9_31 dX9_likeOf_127 h88 rfl ?_
      refine aw_iload 4 dX9_likeOf_130 rfl ?_
      refine aw_iald ((b * 10) + k) (rfl) (by omega) (by decide) dX9_likeOf_132 h96 ?_
      refine aw_aload_n 6 dX9_likeOf_133 rfl rfl ?_
      refine aw_get fX9_31 dX9_likeOf_134 h88 rfl ?_
      refine aw_iload 5 dX9_likeOf_137 rfl ?_
      refine aw_iald ((a * 10) + i) (rfl) (by omega) (by decide) dX9_likeOf_139 h96 ?_
      refine aw_isub dX9_likeOf_140 ?_
      refine aw_istore [(11, .int ((Co ((b * 10) + k)) - (Co ((a * 10) + i)))), (10, .int 0), (9, .int (nI n1643)), (8, .int (nI n1642)), (7, .int v1641), (6, .int (nI ((b * 10) + k))), (5, .int (nI ((a * 10) + i))), (0, .ref (G.1 + 88)), (1, .int (nI a)), (2, .int (nI i)), (3, .int (nI b)), (4, .int (nI k))] dX9_likeOf_141 (by decide) rfl ?_
      refine aw_lv [(9, .int (nI n1643)), (8, .int (nI n1642)), (7, .int v1641), (6, .int (nI ((b * 10) + k))), (5, .int (nI ((a * 10) + i))), (0, .ref (G.1 + 88)), (1, .int (nI a)), (2, .int (nI i)), (3, .int (nI b)), (4, .int (nI k)), (10, .int 0), (11, .int ((Co ((b * 10) + k)) - (Co ((a * 10) + i))))] [2, 3, 4, 5, 6, 7, 8, 9, 10, 11, 1, 0] rfl ?_
      exact J1 0 ((Co ((b * 10) + k)) - (Co ((a * 10) + i))) (fl_f (by rw [if_neg d65]; omega))
    · have d80 := mt (nv_le (a := ye b) (b := ye a) (rfl) (rfl) (by omega) (by omega)).mpr c80
      refine aw_iconst (1) dX9_likeOf_83 (by decide) ?_
      refine aw_goto 101 dX9_likeOf_84 (by decide) ?_
      refine aw_istore [(10, .int 1), (9, .int (nI n1643)), (8, .int (nI n1642)), (7, .int v1641), (6, .int (nI ((b * 10) + k))), (5, .int (nI ((a * 10) + i))), (0, .ref (G.1 + 88)), (1, .int (nI a)), (2, .int (nI i)), (3, .int (nI b)), (4, .int (nI k))] dX9_likeOf_101 (by decide) rfl ?_
      refine aw_iload 0 dX9_likeOf_103 rfl ?_
      refine aw_if_eq 126 dX9_likeOf_105 (by decide) (fun c105 => absurd c105 (by decide)) (fun c105 => ?_)
      refine aw_aload_n 6 dX9_likeOf_108 rfl rfl ?_
      refine aw_get fX9_31 dX9_likeOf_109 h88 rfl ?_
      refine aw_iload 5 dX9_likeOf_112 rfl ?_
      refine aw_iald ((a * 10) + i) (rfl) (by omega) (by decide) dX9_likeOf_114 h96 ?_
      refine aw_aload_n 6 dX9_likeOf_115 rfl rfl ?_
      refine aw_get fX9_31 dX9_likeOf_116 h88 rfl ?_
      refine aw_iload 4 dX9_likeOf_119 rfl ?_
      refine aw_iald ((b * 10) + k) (rfl) (by omega) (by decide) dX9_likeOf_121 h96 ?_
      refine aw_isub dX9_likeOf_122 ?_
      refine aw_goto 141 dX9_likeOf_123 (by decide) ?_
      refine aw_istore [(11, .int ((Co ((a * 10) + i)) - (Co ((b * 10) + k)))), (10, .int 1), (9, .int (nI n1643)), (8, .int (nI n1642)), (7, .int v1641), (6, .int (nI ((b * 10) + k))), (5, .int (nI ((a * 10) + i))), (0, .ref (G.1 + 88)), (1, .int (nI a)), (2, .int (nI i)), (3, .int (nI b)), (4, .int (nI k))] dX9_likeOf_141 (by decide) rfl ?_
      refine aw_lv [(9, .int (nI n1643)), (8, .int (nI n1642)), (7, .int v1641), (6, .int (nI ((b * 10) + k))), (5, .int (nI ((a * 10) + i))), (0, .ref (G.1 + 88)), (1, .int (nI a)), (2, .int (nI i)), (3, .int (nI b)), (4, .int (nI k)), (10, .int 1), (11, .int ((Co ((a * 10) + i)) - (Co ((b * 10) + k))))] [2, 3, 4, 5, 6, 7, 8, 9, 10, 11, 1, 0] rfl ?_
      exact J1 1 ((Co ((a * 10) + i)) - (Co ((b * 10) + k))) (fl_t (by rw [if_neg d65]; omega))
set_option maxHeartbeats 4000000 in
theorem oX9_like {l : Launch} {G : xG} {h : List va_E} {sp fa nb ns nm nv sh : Nat} {ho ow sl : Int32} {rg : Nat → Int32} {m ye b1 b2 : Nat → Nat} {W Z Ro Co : Nat → Int32} {fi : Nat → Nat} {a i b k : Int32} (h88 : h[88]? = some (oB 9 (lM G (nI sp) (nI fa) (nI nb) (nI ns) (nI nm) ho ow sl (nI nv) (nI sh)))) (h89 : h[89]? = some (aI 7 rg)) (h90 : h[90]? = some (aI 20 (nA m))) (h91 : h[91]? = some (aI 4 (nA ye))) (h93 : h[93]? = some (aI 40 W)) (h94 : h[94]? = some (aI 40 Z)) (h95 : h[95]? = some (aI 40 Ro)) (h96 : h[96]? = some (aI 40 Co)) (h97 : h[97]? = some (aI 30 (nA b1))) (h98 : h[98]? = some (aI 30 (nA b2))) (h92 : h[92]? = some (aI 4 (nA fi))) (hm : ∀ j, j < 20 → m j ≤ j) (hye : ∀ j, j < 4 → ye j < 1901) (hnb : nb ≤ 30) (bb1 : ∀ j, j < 30 → b1 j < 40) (bb2 : ∀ j, j < 30 → b2 j < 40) (hsp : sp ≤ 50) (hfd : fa ≤ 9) (hfi : ∀ j, j < 4 → fi j < 11) : CE l G yX9_like cX9_like 5 (some .int) 3 0 0 [.ref (G.1 + 88), .int a, .int i, .int b, .int k] h (some (.int (if (((0 ≤ a.toInt ∧ a.toInt < 4) ∧ 0 ≤ i.toInt ∧ i.toInt < (fi (tn a) : Int)) ∧ ((0 ≤ b.toInt ∧ b.toInt < 4) ∧ 0 ≤ k.toInt ∧ k.toInt < (fi (tn b) : Int)) ∧ a.toInt ≠ b.toInt) then (lkS ye (fun j => snF (root m) (W j) 20) Z Ro Co (brF b1 b2 ((tn a) * 10 + (tn i)) ((tn b) * 10 + (tn k)) nb = true) sp fa (tn a) (tn i) (tn b) (tn k)) else -1))) (fun h1 => ∃ rg1 : Nat → Int32, h1[89]? = some (aI 7 rg1) ∧ rng 89 89 h h1) := by
  refine cm_ofQ rfl (Nat.le_of_ble_eq_true rfl) [(0, .ref (G.1 + 88)), (1, .int a), (2, .int i), (3, .int b), (4, .int k)] rfl (fun QF hQF => ?_)
  refine aw_aload_n 0 dX9_like_0 rfl rfl ?_
  refine aw_iload_n 1 dX9_like_1 rfl rfl ?_
  refine aw_iload_n 2 dX9_like_2 rfl rfl ?_
  refine aw_dV [.int a, .int i] [] lX9_145 vX9_isEntry mX9_isEntry dX9_like_3 (bX9_isEntry (sp := sp) (fa := fa) (nb := nb) (ns := ns) (nm := nm) (nv := nv) (sh := sh) (ho := ho) (ow := ow) (sl := sl) (fi := fi) (c := a) (i := i) h88 h92 hfi) h88 rfl rfl rfl (Nat.le_of_ble_eq_true rfl) (by decide) (by decide) rfl ?_
  refine aw_if_eq 36 dX9_like_6 (by decide) (fun c6 => ?_) (fun c6 => ?_)
  · have t6 := ite_0 c6
    refine aw_aload_n 0 dX9_like_36 rfl rfl ?_
    refine aw_iconst (-1) dX9_like_37 (by decide) ?_
    refine aw_eV [.int (-1)] [] lX9_130 vX9_refuse mX9_refuse dX9_like_38 (bX9_refuse (sp := sp) (fa := fa) (nb := nb) (ns := ns) (nm := nm) (nv := nv) (sh := sh) (ho := ho) (ow := ow) (sl := sl) (rg := rg) (x := (-1)) (q := 1) h88 h89 (by decide) (by decide)) h88 rfl rfl rfl (Nat.le_of_ble_eq_true rfl) (by decide) (by decide) rfl (fun h1652 q1651 => ?_)
    obtain ⟨rg11650, f1653, k1654⟩ := q1651
    have f1655 := rng_at k1654 (by decide) h88
    have f1656 := rng_at k1654 (by decide) h90
    have f1657 := rng_at k1654 (by decide) h91
    have f1658 := rng_at k1654 (by decide) h93
    have f1659 := rng_at k1654 (by decide) h94
    have f1660 := rng_at k1654 (by decide) h95
    have f1661 := rng_at k1654 (by decide) h96
    have f1662 := rng_at k1654 (by decide) h97
    have f1663 := rng_at k1654 (by decide) h98
    have f1664 := rng_at k1654 (by decide) h92
    subst hQF
    exact aw_iret rfl dX9_like_41 (by decide) (by decide) ⟨by rw [if_neg (by omega)], _, f1653, rng_tr (rng_rf 89 89 h) (rng_w k1654 (by decide) (by decide))⟩
  · have t6 := ite_1 c6
    refine aw_aload_n 0 dX9_like_9 rfl rfl ?_
    refine aw_iload_n 3 dX9_like_10 rfl rfl ?_
    refine aw_iload 4 dX9_like_11 rfl ?_
    refine aw_dV [.int b, .int k] [] lX9_145 vX9_isEntry mX9_isEntry dX9_like_13 (bX9_isEntry (sp := sp) (fa := fa) (nb := nb) (ns := ns) (nm := nm) (nv := nv) (sh := sh) (ho := ho) (ow := ow) (sl := sl) (fi := fi) (c := b) (i := k) h88 h92 hfi) h88 rfl rfl rfl (Nat.le_of_ble_eq_true rfl) (by decide) (by decide) rfl ?_
    refine aw_if_eq 36 dX9_like_16 (by decide) (fun c16 => ?_) (fun c16 => ?_)
    · have t16 := ite_0 c16
      refine aw_aload_n 0 dX9_like_36 rfl rfl ?_
      refine aw_iconst (-1) dX9_like_37 (by decide) ?_
      refine aw_eV [.int (-1)] [] lX9_130 vX9_refuse mX9_refuse dX9_like_38 (bX9_refuse (sp := sp) (fa := fa) (nb := nb) (ns := ns) (nm := nm) (nv := nv) (sh := sh) (ho := ho) (ow := ow) (sl := sl) (rg := rg) (x := (-1)) (q := 1) h88 h89 (by decide) (by decide)) h88 rfl rfl rfl (Nat.le_of_ble_eq_true rfl) (by decide) (by decide) rfl (fun h1667 q1666 => ?_)
      obtain ⟨rg11665, f1668, k1669⟩ := q1666
      have f1670 := rng_at k1669 (by decide) h88
      have f1671 := rng_at k1669 (by decide) h90
      have f1672 := rng_at k1669 (by decide) h91
      have f1673 := rng_at k1669 (by decide) h93
      have f1674 := rng_at k1669 (by decide) h94
      have f1675 := rng_at k1669 (by decide) h95
      have f1676 := rng_at k1669 (by decide) h96
      have f1677 := rng_at k1669 (by decide) h97
      have f1678 := rng_at k1669 (by decide) h98
      have f1679 := rng_at k1669 (by decide) h92
      subst hQF
      exact aw_iret rfl dX9_like_41 (by decide) (by decide) ⟨by rw [if_neg (by omega)], _, f1668, rng_tr (rng_rf 89 89 h) (rng_w k1669 (by decide) (by decide))⟩
    · have t16 := ite_1 c16
      refine aw_iload_n 1 dX9_like_19 rfl rfl ?_
      refine aw_iload_n 3 dX9_like_20 rfl rfl ?_
      refine aw_icmp_eq 36 dX9_like_21 (by decide) (fun c21 => ?_) (fun c21 => ?_)
      · have d21 := (j_eq (a := a.toInt) (b := b.toInt) (rfl) (rfl)).mp c21
        refine aw_aload_n 0 dX9_like_36 rfl rfl ?_
        refine aw_iconst (-1) dX9_like_37 (by decide) ?_
        refine aw_eV [.int (-1)] [] lX9_130 vX9_refuse mX9_refuse dX9_like_38 (bX9_refuse (sp := sp) (fa := fa) (nb := nb) (ns := ns) (nm := nm) (nv := nv) (sh := sh) (ho := ho) (ow := ow) (sl := sl) (rg := rg) (x := (-1)) (q := 1) h88 h89 (by decide) (by decide)) h88 rfl rfl rfl (Nat.le_of_ble_eq_true rfl) (by decide) (by decide) rfl (fun h1682 q1681 => ?_)
        obtain ⟨rg11680, f1683, k1684⟩ := q1681
        have f1685 := rng_at k1684 (by decide) h88
        have f1686 := rng_at k1684 (by decide) h90
        have f1687 := rng_at k1684 (by decide) h91
        have f1688 := rng_at k1684 (by decide) h93
        have f1689 := rng_at k1684 (by decide) h94
        have f1690 := rng_at k1684 (by decide) h95
        have f1691 := rng_at k1684 (by decide) h96
        have f1692 := rng_at k1684 (by decide) h97
        have f1693 := rng_at k1684 (by decide) h98
        have f1694 := rng_at k1684 (by decide) h92
        subst hQF
        exact aw_iret rfl dX9_like_41 (by decide) (by decide) ⟨by rw [if_neg (by omega)], _, f1683, rng_tr (rng_rf 89 89 h) (rng_w k1684 (by decide) (by decide))⟩
      · have d21 := mt (j_eq (a := a.toInt) (b := b.toInt) (rfl) (rfl)).mpr c21
        have fa0 := hfi (tn a) (by unfold tn; omega)
        have fb0 := hfi (tn b) (by unfold tn; omega)
        obtain ⟨a0, bb_a0, ee_a0⟩ := i_nat (x := a) (N := 4) (by omega) (by omega)
        subst ee_a0
        have tt_a0 : (nI a0).toInt = (a0 : Int) := nI_toInt (by omega)
        have nn_a0 : tn (nI a0) = a0 := tn_nI (by omega)
        obtain ⟨b0, bb_b0, ee_b0⟩ := i_nat (x := b) (N := 4) (by omega) (by omega)
        subst ee_b0
        have tt_b0 : (nI b0).toInt = (b0 : Int) := nI_toInt (by omega)
        have nn_b0 : tn (nI b0) = b0 := tn_nI (by omega)
        rw [nn_a0] at t6 fa0
        rw [nn_b0] at t16 fb0
        obtain ⟨i0, bb_i0, ee_i0⟩ := i_nat (x := i) (N := 10) (by omega) (by omega)
        subst ee_i0
        have tt_i0 : (nI i0).toInt = (i0 : Int) := nI_toInt (by omega)
        have nn_i0 : tn (nI i0) = i0 := tn_nI (by omega)
        obtain ⟨k0, bb_k0, ee_k0⟩ := i_nat (x := k) (N := 10) (by omega) (by omega)
        subst ee_k0
        have tt_k0 : (nI k0).toInt = (k0 : Int) := nI_toInt (by omega)
        have nn_k0 : tn (nI k0) = k0 := tn_nI (by omega)
        refine aw_aload_n 0 dX9_like_24 rfl rfl ?_
        refine aw_iload_n 1 dX9_like_25 rfl rfl ?_
        refine aw_iload_n 2 dX9_like_26 rfl rfl ?_
        refine aw_iload_n 3 dX9_like_27 rfl rfl ?_
        refine aw_iload 4 dX9_like_28 rfl ?_
        refine aw_dV [.int (nI a0), .int (nI i0), .int (nI b0), .int (nI k0)] [] lX9_166 vX9_likeOf mX9_likeOf dX9_like_30 (bX9_likeOf (sp := sp) (fa := fa) (nb := nb) (ns := ns) (nm := nm) (nv := nv) (sh := sh) (ho := ho) (ow := ow) (sl := sl) (m := m) (ye := ye) (b1 := b1) (b2 := b2) (W := W) (Z := Z) (Ro := Ro) (Co := Co) (a := a0) (i := i0) (b := b0) (k := k0) h88 h90 h91 h93 h94 h95 h96 h97 h98 hm hye (by omega) bb1 bb2 (by omega) (by omega) (by omega) (by omega) (by omega) (by omega)) h88 rfl rfl rfl (Nat.le_of_ble_eq_true rfl) (by decide) (by decide) rfl ?_
        refine aw_goto 41 dX9_like_33 (by decide) ?_
        subst hQF
        exact aw_iret rfl dX9_like_41 (by decide) (by decide) ⟨by rw [nn_a0, nn_b0, nn_i0, nn_k0, if_pos (by omega)], _, h89, rng_rf 89 89 h⟩
set_option maxHeartbeats 4000000 in
theorem bX9_at {l : Launch} {G : xG} {h : List va_E} {i s : Nat}  (bi : i < 2048) : CD l G yX9_at cX9_at 2 (some .int) 0 0 0 [.int (nI i), .int (nI s)] h (some (.int (nI (i * 1024 + s)))) h := by
  refine cm_ofQ rfl (Nat.le_of_ble_eq_true rfl) [(0, .int (nI i)), (1, .int (nI s))] rfl (fun QF hQF => ?_)
  refine aw_iload_n 0 dX9_at_0 rfl rfl ?_
  refine aw_bipush (10) dX9_at_1 (by decide) ?_
  refine aw_ishl dX9_at_3 ?_
  refine aw_toe (nI (i * 1024)) (nv_shl10 rfl bi) ?_
  refine aw_iload_n 1 dX9_at_4 rfl rfl ?_
  refine aw_iadd dX9_at_5 ?_
  refine aw_toe (nI ((i * 1024) + s)) (nv_add (rfl) (rfl)) ?_
  subst hQF
  exact aw_iret rfl dX9_at_6 (by decide) (by decide) ⟨by (first | rfl | simp_all), rfl⟩
set_option maxHeartbeats 4000000 in
theorem bX9_measure {l : Launch} {G : xG} {h : List va_E} {sp fa nb ns nm nv sh : Nat} {ho ow sl : Int32} {m ye b1 b2 : Nat → Nat} {W Z Ro Co : Nat → Int32} {fi : Nat → Nat} {lk : Nat → Int32} {a b : Nat} {lx : Nat → Nat → Nat} (h88 : h[88]? = some (oB 9 (lM G (nI sp) (nI fa) (nI nb) (nI ns) (nI nm) ho ow sl (nI nv) (nI sh)))) (h90 : h[90]? = some (aI 20 (nA m))) (h91 : h[91]? = some (aI 4 (nA ye))) (h93 : h[93]? = some (aI 40 W)) (h94 : h[94]? = some (aI 40 Z)) (h95 : h[95]? = some (aI 40 Ro)) (h96 : h[96]? = some (aI 40 Co)) (h97 : h[97]? = some (aI 30 (nA b1))) (h98 : h[98]? = some (aI 30 (nA b2))) (h92 : h[92]? = some (aI 4 (nA fi))) (h99 : h[99]? = some (aI 100 lk)) (hm : ∀ j, j < 20 → m j ≤ j) (hye : ∀ j, j < 4 → ye j < 1901) (hnb : nb ≤ 30) (bb1 : ∀ j, j < 30 → b1 j < 40) (bb2 : ∀ j, j < 30 → b2 j < 40) (hsp : sp ≤ 50) (hfd : fa ≤ 9) (hfi : ∀ j, j < 4 → fi j < 11) (ba : a < 4) (bb : b < 4) (hlx : ∀ i, i < fi a → ∀ k, k < fi b → (lkS ye (fun j => snF (root m) (W j) 20) Z Ro Co (brF b1 b2 (a * 10 + i) (b * 10 + k) nb = true) sp fa a i b k) = nI (lx i k)) : CE l G yX9_measure cX9_measure 5 none 3 0 0 [.ref (G.1 + 88), .int (nI a), .int (nI b)] h none (fun h1 => ∃ lk1 : Nat → Int32, h1[99]? = some (aI 100 lk1) ∧ rng 99 99 h h1 ∧ jL lx (fi a) (fi b) lk1) := by
  refine cm_ofQ rfl (Nat.le_of_ble_eq_true rfl) [(0, .ref (G.1 + 88)), (1, .int (nI a)), (2, .int (nI b))] rfl (fun QF hQF => ?_)
  have fa0 := hfi a ba
  have fb0 := hfi b bb
  refine aw_iconst (0) dX9_measure_0 (by decide) ?_
  refine aw_istore_n [(3, .int 0), (0, .ref (G.1 + 88)), (1, .int (nI a)), (2, .int (nI b))] dX9_measure_1 rfl (by decide) rfl ?_
  refine aw_lv [(3, .int 0), (2, .int (nI b)), (1, .int (nI a)), (0, .ref (G.1 + 88))] [0, 3, 2, 1] rfl ?_
  suffices L1708 : ∀ (mm : Nat) (i : Nat) (lk1 : Nat → Int32) (h1695 : List va_E), fi a - i < mm → (i ≤ fi a) → (∀ j, j < i → ∀ q, q < fi b → lk1 (j * 10 + q) = nI (lx j q)) → h1695[88]? = some (oB 9 (lM G (nI sp) (nI fa) (nI nb) (nI ns) (nI nm) ho ow sl (nI nv) (nI sh))) → h1695[90]? = some (aI 20 (nA m)) → h1695[91]? = some (aI 4 (nA ye)) → h1695[93]? = some (aI 40 W) → h1695[94]? = some (aI 40 Z) → h1695[95]? = some (aI 40 Ro) → h1695[96]? = some (aI 40 Co) → h1695[97]? = some (aI 30 (nA b1)) → h1695[98]? = some (aI 30 (nA b2)) → h1695[92]? = some (aI 4 (nA fi)) → h1695[99]? = some (aI 100 lk1) → rng 99 99 h h1695 → AW l G yX9_measure cX9_measure 5 none (xR 3 0 0) (fun _ _ => True) QF 0 0 2 [(3, .int (nI i)), (2, .int (nI b)), (1, .int (nI a)), (0, .ref (G.1 + 88))] [] h1695 from L1708 (fi a - 0 + 1) 0 lk _ (Nat.lt_succ_self _) (Nat.zero_le _) (fun q h8 => absurd h8 (Nat.not_lt_zero _)) h88 h90 h91 h93 h94 h95 h96 h97 h98 h92 h99 (rng_rf 99 99 h)
  intro mm
  induction mm with
  | zero =>
    intro i lk1 h1695 hmm hi hl1 f1696 f1697 f1698 f1699 f1700 f1701 f1702 f1703 f1704 f1705 f1706 k1707
    exact absurd hmm (Nat.not_lt_zero _)
  | succ mm ih1708 =>
    intro i lk1 h1695 hmm hi hl1 f1696 f1697 f1698 f1699 f1700 f1701 f1702 f1703 f1704 f1705 f1706 k1707
    refine aw_iload_n 0 dX9_measure_2 rfl rfl ?_
    refine aw_aload_n 3 dX9_measure_3 rfl rfl ?_
    refine aw_get fX9_19 dX9_measure_4 f1696 rfl ?_
    refine aw_iload_n 2 dX9_measure_7 rfl rfl ?_
    refine aw_iald a (rfl) (by omega) (by decide) dX9_measure_8 f1705 ?_
    refine aw_toe (nI (fi a)) (rfl) ?_
    refine aw_icmp_ge 59 dX9_measure_9 (by decide) (fun c9 => ?_) (fun c9 => ?_)
    · have d9 := (nv_le (a := fi a) (b := i) (rfl) (rfl) (by omega) (by omega)).mp c9
      subst hQF
      exact aw_vret rfl dX9_measure_59 (by decide) (by decide) ⟨rfl, _, f1706, k1707, fun j hj => hl1 j (by omega)⟩
    · have d9 := mt (nv_le (a := fi a) (b := i) (rfl) (rfl) (by omega) (by omega)).mpr c9
      refine aw_iconst (0) dX9_measure_12 (by decide) ?_
      refine aw_istore [(4, .int 0), (3, .int (nI i)), (2, .int (nI b)), (1, .int (nI a)), (0, .ref (G.1 + 88))] dX9_measure_13 (by decide) rfl ?_
      refine aw_lv [(4, .int 0), (3, .int (nI i)), (2, .int (nI b)), (1, .int (nI a)), (0, .ref (G.1 + 88))] [0, 1, 2, 3, 4] rfl ?_
      suffices L1722 : ∀ (mm : Nat) (k : Nat) (lk2 : Nat → Int32) (h1709 : List va_E), fi b - k < mm → (k ≤ fi b) → (∀ j, j < i → ∀ q, q < fi b → lk2 (j * 10 + q) = nI (lx j q)) → (∀ q, q < k → lk2 (i * 10 + q) = nI (lx i q)) → h1709[88]? = some (oB 9 (lM G (nI sp) (nI fa) (nI nb) (nI ns) (nI nm) ho ow sl (nI nv) (nI sh))) → h1709[90]? = some (aI 20 (nA m)) → h1709[91]? = some (aI 4 (nA ye)) → h1709[93]? = some (aI 40 W) → h1709[94]? = some (aI 40 Z) → h1709[95]? = some (aI 40 Ro) → h1709[96]? = some (aI 40 Co) → h1709[97]? = some (aI 30 (nA b1)) → h1709[98]? = some (aI 30 (nA b2)) → h1709[92]? = some (aI 4 (nA fi)) → h1709[99]? = some (aI 100 lk2) → rng 99 99 h h1709 → AW l G yX9_measure cX9_measure 5 none (xR 3 0 0) (fun _ _ => True) QF 0 0 15 [(4, .int (nI k)), (3, .int (nI i)), (2, .int (nI b)), (1, .int (nI a)), (0, .ref (G.1 + 88))] [] h1709 from L1722 (fi b - 0 + 1) 0 lk1 _ (Nat.lt_succ_self _) (Nat.zero_le _) (hl1) (fun q h8 => absurd h8 (Nat.not_lt_zero _)) f1696 f1697 f1698 f1699 f1700 f1701 f1702 f1703 f1704 f1705 f1706 (k1707)
      intro mm
      induction mm with
      | zero =>
        intro k lk2 h1709 hmm hk hl2 hl3 f1710 f1711 f1712 f1713 f1714 f1715 f1716 f1717 f1718 f1719 f1720 k1721
        exact absurd hmm (Nat.not_lt_zero _)
      | succ mm ih1722 =>
        intro k lk2 h1709 hmm hk hl2 hl3 f1710 f1711 f1712 f1713 f1714 f1715 f1716 f1717 f1718 f1719 f1720 k1721
        refine aw_iload 0 dX9_measure_15 rfl ?_
        refine aw_aload_n 4 dX9_measure_17 rfl rfl ?_
        refine aw_get fX9_19 dX9_measure_18 f1710 rfl ?_
        refine aw_iload_n 2 dX9_measure_21 rfl rfl ?_
        refine aw_iald b (rfl) (by omega) (by decide) dX9_measure_22 f1719 ?_
        refine aw_toe (nI (fi b)) (rfl) ?_
        refine aw_icmp_ge 53 dX9_measure_23 (by decide) (fun c23 => ?_) (fun c23 => ?_)
        · have d23 := (nv_le (a := fi b) (b := k) (rfl) (rfl) (by omega) (by omega)).mp c23
          refine aw_iinc (j := 1) (nI (i + 1)) [(3, .int (nI (i + 1))), (4, .int (nI k)), (2, .int (nI b)), (1, .int (nI a)), (0, .ref (G.1 + 88))] dX9_measure_53 rfl (nv_inc (rfl)) (by decide) rfl ?_
          refine aw_goto 2 dX9_measure_56 (by decide) ?_
          refine aw_lv [(3, .int (nI (i + 1))), (2, .int (nI b)), (1, .int (nI a)), (0, .ref (G.1 + 88))] [0, 2, 3, 4] rfl ?_
          exact ih1708 (i + 1) lk2 _ (by omega) (by omega) (rl_3 hl2 hl3 (by omega)) f1710 f1711 f1712 f1713 f1714 f1715 f1716 f1717 f1718 f1719 f1720 (k1721)
        · have d23 := mt (nv_le (a := fi b) (b := k) (rfl) (rfl) (by omega) (by omega)).mpr c23
          refine aw_aload_n 4 dX9_measure_26 rfl rfl ?_
          refine aw_get fX9_47 dX9_measure_27 f1710 rfl ?_
          refine aw_bipush (10) dX9_measure_30 (by decide) ?_
          refine aw_iload_n 1 dX9_measure_32 rfl rfl ?_
          refine aw_imul dX9_measure_33 ?_
          refine aw_toe (nI (i * 10)) (by rw [Nat.mul_comm i 10]; exact nv_mul (rfl) (rfl)) ?_
          refine aw_iload 0 dX9_measure_34 rfl ?_
          refine aw_iadd dX9_measure_36 ?_
          refine aw_toe (nI ((i * 10) + k)) (nv_add (rfl) (rfl)) ?_
          refine aw_aload_n 4 dX9_measure_37 rfl rfl ?_
          refine aw_iload_n 3 dX9_measure_38 rfl rfl ?_
          refine aw_iload_n 1 dX9_measure_39 rfl rfl ?_
          refine aw_iload_n 2 dX9_measure_40 rfl rfl ?_
          refine aw_iload 0 dX9_measure_41 rfl ?_
          refine aw_dV [.int (nI a), .int (nI i), .int (nI b), .int (nI k)] [.int (nI ((i * 10) + k)), .ref (G.1 + 99)] lX9_166 vX9_likeOf mX9_likeOf dX9_measure_43 (bX9_likeOf (sp := sp) (fa := fa) (nb := nb) (ns := ns) (nm := nm) (nv := nv) (sh := sh) (ho := ho) (ow := ow) (sl := sl) (m := m) (ye := ye) (b1 := b1) (b2 := b2) (W := W) (Z := Z) (Ro := Ro) (Co := Co) (a := a) (i := i) (b := b) (k := k) f1710 f1711 f1712 f1713 f1714 f1715 f1716 f1717 f1718 hm hye (by omega) bb1 bb2 (by omega) (by omega) (by omega) (by omega) (by omega) (by omega)) f1710 rfl rfl rfl (Nat.le_of_ble_eq_true rfl) (by decide) (by decide) rfl ?_
          refine aw_toe (nI (lx i k)) (hlx i (by omega) k (by omega)) ?_
          refine aw_iast ((i * 10) + k) (rfl) (by omega) (by decide) dX9_measure_46 f1720 ?_
          refine aw_iinc (j := 0) (nI (k + 1)) [(4, .int (nI (k + 1))), (3, .int (nI i)), (2, .int (nI b)), (1, .int (nI a)), (0, .ref (G.1 + 88))] dX9_measure_47 rfl (nv_inc (rfl)) (by decide) rfl ?_
          refine aw_goto 15 dX9_measure_50 (by decide) ?_
          refine aw_lv [(4, .int (nI (k + 1))), (3, .int (nI i)), (2, .int (nI b)), (1, .int (nI a)), (0, .ref (G.1 + 88))] [0, 1, 2, 3, 4] rfl ?_
          exact ih1722 (k + 1) (upd lk2 ((i * 10) + k) (nI (lx i k))) _ (by omega) (by omega) (rl_1 hl2 (by omega) (by omega)) (rl_2 hl3 rfl) (gn (by decide) (f1710)) (gn (by decide) (f1711)) (gn (by decide) (f1712)) (gn (by decide) (f1713)) (gn (by decide) (f1714)) (gn (by decide) (f1715)) (gn (by decide) (f1716)) (gn (by decide) (f1717)) (gn (by decide) (f1718)) (gn (by decide) (f1719)) (gs f1720) (rng_set (k1721) (by decide) (by decide))
set_option maxHeartbeats 4000000 in
theorem bX9_finds {l : Launch} {G : xG} {h : List va_E} {sp fa nb ns nm nv sh : Nat} {ho ow sl : Int32} {lk su wy : Nat → Int32} {n m : Nat} {lx : Nat → Nat → Nat} (h88 : h[88]? = some (oB 9 (lM G (nI sp) (nI fa) (nI nb) (nI ns) (nI nm) ho ow sl (nI nv) (nI sh)))) (h99 : h[99]? = some (aI 100 lk)) (h100 : h[100]? = some (aI 11264 su)) (h102 : h[102]? = some (aI 11264 wy)) (hn : n ≤ 10) (hm : m ≤ 10) (hLk : jL lx n m lk) (hlx3 : ∀ i k, lx i k ≤ 300) : CE l G yX9_finds cX9_finds 11 (some .int) 1 0 0 [.ref (G.1 + 88), .int (nI n), .int (nI m)] h (some (.int (nI (jS lx m n 0 0)))) (fun h1 => ∃ su1 : Nat → Int32, ∃ wy1 : Nat → Int32, h1[100]? = some (aI 11264 su1) ∧ h1[102]? = some (aI 11264 wy1) ∧ rg2 100 100 102 102 h h1 ∧ fR lx n m 0 su1 ∧ fW lx n m 0 wy1) := by
  refine cm_ofQ rfl (Nat.le_of_ble_eq_true rfl) [(0, .ref (G.1 + 88)), (1, .int (nI n)), (2, .int (nI m))] rfl (fun QF hQF => ?_)
  have pw := pw10 m hm
  refine aw_iconst (1) dX9_finds_0 (by decide) ?_
  refine aw_iload_n 2 dX9_finds_1 rfl rfl ?_
  refine aw_ishl dX9_finds_2 ?_
  refine aw_toe (nI (2 ^ m)) (nv_shl1 (rfl) (by omega)) ?_
  refine aw_istore_n [(3, .int (nI (2 ^ m))), (0, .ref (G.1 + 88)), (1, .int (nI n)), (2, .int (nI m))] dX9_finds_3 rfl (by decide) rfl ?_
  refine aw_iconst (0) dX9_finds_4 (by decide) ?_
  refine aw_istore [(4, .int 0), (3, .int (nI (2 ^ m))), (0, .ref (G.1 + 88)), (1, .int (nI n)), (2, .int (nI m))] dX9_finds_5 (by decide) rfl ?_
  refine aw_lv [(4, .int 0), (3, .int (nI (2 ^ m))), (2, .int (nI m)), (1, .int (nI n)), (0, .ref (G.1 + 88))] [0, 1, 4, 3, 2] rfl ?_
  suffices L1729 : ∀ (mm : Nat) (s : Nat) (su1 : Nat → Int32) (wy1 : Nat → Int32) (h1723 : List va_E), 2 ^ m - s < mm → (s ≤ 2 ^ m) → (∀ t, t < s → su1 (n * 1024 + t) = 0) → (∀ t, t < s → wy1 (n * 1024 + t) = 1) → h1723[88]? = some (oB 9 (lM G (nI sp) (nI fa) (nI nb) (nI ns) (nI nm) ho ow sl (nI nv) (nI sh))) → h1723[99]? = some (aI 100 lk) → h1723[100]? = some (aI 11264 su1) → h1723[102]? = some (aI 11264 wy1) → rg2 100 100 102 102 h h1723 → AW l G yX9_finds cX9_finds 11 (some .int) (xR 1 0 0) (fun _ _ => True) QF 0 0 7 [(4, .int (nI s)), (3, .int (nI (2 ^ m))), (2, .int (nI m)), (1, .int (nI n)), (0, .ref (G.1 + 88))] [] h1723 from L1729 (2 ^ m - 0 + 1) 0 su wy _ (Nat.lt_succ_self _) (Nat.zero_le _) (fun q h8 => absurd h8 (Nat.not_lt_zero _)) (fun q h8 => absurd h8 (Nat.not_lt_zero _)) h88 h99 h100 h102 (rg2_rf 100 100 102 102 h)
  intro mm
  induction mm with
  | zero =>
    intro s su1 wy1 h1723 hmm hs h0 h1 f1724 f1725 f1726 f1727 k1728
    exact absurd hmm (Nat.not_lt_zero _)
  | succ mm ih1729 =>
    intro s su1 wy1 h1723 hmm hs h0 h1 f1724 f1725 f1726 f1727 k1728
    refine aw_iload 0 dX9_finds_7 rfl ?_
    refine aw_iload_n 1 dX9_finds_9 rfl rfl ?_
    refine aw_icmp_ge 43 dX9_finds_10 (by decide) (fun c10 => ?_) (fun c10 => ?_)
    · have d10 := (nv_le (a := 2 ^ m) (b := s) (rfl) (rfl) (by omega) (by omega)).mp c10
      refine aw_iload_n 3 dX9_finds_43 rfl rfl ?_
      refine aw_iconst (1) dX9_finds_44 (by decide) ?_
      refine aw_isub dX9_finds_45 ?_
      refine aw_istore [(4, .int ((nI n) - 1)), (3, .int (nI (2 ^ m))), (2, .int (nI m)), (1, .int (nI n)), (0, .ref (G.1 + 88))] dX9_finds_46 (by decide) rfl ?_
      refine aw_lv [(4, .int ((nI n) - 1)), (3, .int (nI (2 ^ m))), (2, .int (nI m)), (1, .int (nI n)), (0, .ref (G.1 + 88))] [0, 1, 2, 3, 4] rfl ?_
      suffices L1736 : ∀ (mm : Nat) (x : Nat) (xv : Int32) (su2 : Nat → Int32) (wy2 : Nat → Int32) (h1730 : List va_E), x < mm → ((x = 0 ∧ xv = -1) ∨ ∃ i, i < n ∧ xv = nI i ∧ x = i + 1) → (fR lx n m x su2) → (fW lx n m x wy2) → h1730[88]? = some (oB 9 (lM G (nI sp) (nI fa) (nI nb) (nI ns) (nI nm) ho ow sl (nI nv) (nI sh))) → h1730[99]? = some (aI 100 lk) → h1730[100]? = some (aI 11264 su2) → h1730[102]? = some (aI 11264 wy2) → rg2 100 100 102 102 h h1730 → AW l G yX9_finds cX9_finds 11 (some .int) (xR 1 0 0) (fun _ _ => True) QF 0 0 48 [(4, .int xv), (3, .int (nI (2 ^ m))), (2, .int (nI m)), (1, .int (nI n)), (0, .ref (G.1 + 88))] [] h1730 from L1736 (n + 1) n ((nI n) - 1) su1 wy1 _ (Nat.lt_succ_self _) (dec_s (Nat.le_refl _)) (fR_0 (fun t ht => h0 t (by omega))) (fW_0 (fun t ht => h1 t (by omega))) f1724 f1725 f1726 f1727 (k1728)
      intro mm
      induction mm with
      | zero =>
        intro x xv su2 wy2 h1730 hmm hx hF hW f1731 f1732 f1733 f1734 k1735
        exact absurd hmm (Nat.not_lt_zero _)
      | succ mm ih1736 =>
        intro x xv su2 wy2 h1730 hmm hx hF hW f1731 f1732 f1733 f1734 k1735
        rcases hx with ⟨rfl, rfl⟩ | ⟨i, hi, rfl, rfl⟩
        · refine aw_iload 0 dX9_finds_48 rfl ?_
          refine aw_if_lt 262 dX9_finds_50 (by decide) (fun c50 => ?_) (fun c50 => absurd (by decide) c50)
          refine aw_aload_n 4 dX9_finds_262 rfl rfl ?_
          refine aw_get fX9_50 dX9_finds_263 f1731 rfl ?_
          refine aw_iconst (0) dX9_finds_266 (by decide) ?_
          refine aw_iald 0 (rfl) (by decide) (by decide) dX9_finds_267 f1733 ?_
          subst hQF
          exact aw_iret rfl dX9_finds_268 (by decide) (by decide) ⟨by rw [fR_00 hF], _, _, f1733, f1734, k1735, hF, hW⟩
        · refine aw_iload 0 dX9_finds_48 rfl ?_
          refine aw_if_lt 262 dX9_finds_50 (by decide) (fun c50 => absurd c50 (by simp only [i_lt, (nI_toInt (n := i) (by omega)), (show (0 : Int32).toInt = 0 from rfl)] <;> omega)) (fun c50 => ?_)
          refine aw_iconst (0) dX9_finds_53 (by decide) ?_
          refine aw_istore [(5, .int 0), (4, .int (nI i)), (3, .int (nI (2 ^ m))), (2, .int (nI m)), (1, .int (nI n)), (0, .ref (G.1 + 88))] dX9_finds_54 (by decide) rfl ?_
          refine aw_lv [(5, .int 0), (4, .int (nI i)), (3, .int (nI (2 ^ m))), (2, .int (nI m)), (1, .int (nI n)), (0, .ref (G.1 + 88))] [0, 1, 2, 3, 4, 5] rfl ?_
          suffices L1743 : ∀ (mm : Nat) (s : Nat) (su3 : Nat → Int32) (wy3 : Nat → Int32) (h1737 : List va_E), 2 ^ m - s < mm → (s ≤ 2 ^ m) → (fR lx n m (i + 1) su3) → (∀ t, t < s → su3 (i * 1024 + t) = nI (jS lx m (n - i) i t)) → (fW lx n m (i + 1) wy3) → (∀ t, t < s → wy3 (i * 1024 + t) = nI (min 1000000 (jC lx m (n - i) i t))) → h1737[88]? = some (oB 9 (lM G (nI sp) (nI fa) (nI nb) (nI ns) (nI nm) ho ow sl (nI nv) (nI sh))) → h1737[99]? = some (aI 100 lk) → h1737[100]? = some (aI 11264 su3) → h1737[102]? = some (aI 11264 wy3) → rg2 100 100 102 102 h h1737 → AW l G yX9_finds cX9_finds 11 (some .int) (xR 1 0 0) (fun _ _ => True) QF 0 0 56 [(5, .int (nI s)), (4, .int (nI i)), (3, .int (nI (2 ^ m))), (2, .int (nI m)), (1, .int (nI n)), (0, .ref (G.1 + 88))] [] h1737 from L1743 (2 ^ m - 0 + 1) 0 su2 wy2 _ (Nat.lt_succ_self _) (Nat.zero_le _) (hF) (fun q h8 => absurd h8 (Nat.not_lt_zero _)) (hW) (fun q h8 => absurd h8 (Nat.not_lt_zero _)) f1731 f1732 f1733 f1734 (k1735)
          intro mm
          induction mm with
          | zero =>
            intro s su3 wy3 h1737 hmm hs3 hF3 hS3 hW3 hV3 f1738 f1739 f1740 f1741 k1742
            exact absurd hmm (Nat.not_lt_zero _)
          | succ mm ih1743 =>
            intro s su3 wy3 h1737 hmm hs3 hF3 hS3 hW3 hV3 f1738 f1739 f1740 f1741 k1742
            refine aw_iload 0 dX9_finds_56 rfl ?_
            refine aw_iload_n 2 dX9_finds_58 rfl rfl ?_
            refine aw_icmp_ge 256 dX9_finds_59 (by decide) (fun c59 => ?_) (fun c59 => ?_)
            · have d59 := (nv_le (a := 2 ^ m) (b := s) (rfl) (rfl) (by omega) (by omega)).mp c59
              refine aw_iinc (j := 1) ((nI i) + (-1)) [(4, .int ((nI i) + (-1))), (5, .int (nI s)), (3, .int (nI (2 ^ m))), (2, .int (nI m)), (1, .int (nI n)), (0, .ref (G.1 + 88))] dX9_finds_256 rfl (by rfl) (by decide) rfl ?_
              refine aw_goto 48 dX9_finds_259 (by decide) ?_
              refine aw_lv [(4, .int ((nI i) + (-1))), (3, .int (nI (2 ^ m))), (2, .int (nI m)), (1, .int (nI n)), (0, .ref (G.1 + 88))] [0, 2, 3, 4, 5] rfl ?_
              exact ih1736 i ((nI i) + (-1)) su3 wy3 _ (by omega) (dec_m (by omega)) (fi_3 hF3 hS3 (by omega)) (fw_3 hW3 hV3 (by omega)) f1738 f1739 f1740 f1741 (k1742)
            · have d59 := mt (nv_le (a := 2 ^ m) (b := s) (rfl) (rfl) (by omega) (by omega)).mpr c59
              refine aw_aload_n 5 dX9_finds_62 rfl rfl ?_
              refine aw_get fX9_50 dX9_finds_63 f1738 rfl ?_
              refine aw_iload 1 dX9_finds_66 rfl ?_
              refine aw_iconst (1) dX9_finds_68 (by decide) ?_
              refine aw_iadd dX9_finds_69 ?_
              refine aw_toe (nI (i + 1)) (nv_add (rfl) (rfl)) ?_
              refine aw_iload 0 dX9_finds_70 rfl ?_
              refine aw_dS [.int (nI (i + 1)), .int (nI s)] [.ref (G.1 + 100)] lX9_170 sX9_at mX9_at dX9_finds_72 (bX9_at (i := i + 1) (s := s) (by omega)) rfl (Nat.le_of_ble_eq_true rfl) (by decide) (by decide) rfl ?_
              refine aw_iald ((i + 1) * 1024 + s) (rfl) (by omega) (by decide) dX9_finds_75 f1740 ?_
              refine aw_toe (nI (jS lx m (n - (i + 1)) (i + 1) s)) (hF3 (i + 1) (Nat.le_refl _) hi s (by omega)) ?_
              refine aw_istore [(6, .int (nI (jS lx m (n - (i + 1)) (i + 1) s))), (5, .int (nI s)), (4, .int (nI i)), (3, .int (nI (2 ^ m))), (2, .int (nI m)), (1, .int (nI n)), (0, .ref (G.1 + 88))] dX9_finds_76 (by decide) rfl ?_
              refine aw_aload_n 6 dX9_finds_78 rfl rfl ?_
              refine aw_get fX9_56 dX9_finds_79 f1738 rfl ?_
              refine aw_iload 2 dX9_finds_82 rfl ?_
              refine aw_iconst (1) dX9_finds_84 (by decide) ?_
              refine aw_iadd dX9_finds_85 ?_
              refine aw_toe (nI (i + 1)) (nv_add (rfl) (rfl)) ?_
              refine aw_iload 1 dX9_finds_86 rfl ?_
              refine aw_dS [.int (nI (i + 1)), .int (nI s)] [.ref (G.1 + 102)] lX9_170 sX9_at mX9_at dX9_finds_88 (bX9_at (i := i + 1) (s := s) (by omega)) rfl (Nat.le_of_ble_eq_true rfl) (by decide) (by decide) rfl ?_
              refine aw_iald ((i + 1) * 1024 + s) (rfl) (by omega) (by decide) dX9_finds_91 f1741 ?_
              refine aw_toe (nI (min 1000000 (jC lx m (n - (i + 1)) (i + 1) s))) (hW3 (i + 1) (Nat.le_refl _) hi s (by omega)) ?_
              refine aw_istore [(7, .int (nI (min 1000000 (jC lx m (n - (i + 1)) (i + 1) s)))), (6, .int (nI (jS lx m (n - (i + 1)) (i + 1) s))), (5, .int (nI s)), (4, .int (nI i)), (3, .int (nI (2 ^ m))), (2, .int (nI m)), (1, .int (nI n)), (0, .ref (G.1 + 88))] dX9_finds_92 (by decide) rfl ?_
              refine aw_iconst (0) dX9_finds_94 (by decide) ?_
              refine aw_istore [(8, .int 0), (7, .int (nI (min 1000000 (jC lx m (n - (i + 1)) (i + 1) s)))), (6, .int (nI (jS lx m (n - (i + 1)) (i + 1) s))), (5, .int (nI s)), (4, .int (nI i)), (3, .int (nI (2 ^ m))), (2, .int (nI m)), (1, .int (nI n)), (0, .ref (G.1 + 88))] dX9_finds_95 (by decide) rfl ?_
              refine aw_lv [(8, .int 0), (7, .int (nI (min 1000000 (jC lx m (n - (i + 1)) (i + 1) s)))), (6, .int (nI (jS lx m (n - (i + 1)) (i + 1) s))), (5, .int (nI s)), (4, .int (nI i)), (3, .int (nI (2 ^ m))), (2, .int (nI m)), (1, .int (nI n)), (0, .ref (G.1 + 88))] [0, 1, 2, 3, 4, 5, 6, 7, 8] rfl ?_
              suffices L1744 : ∀ (mm : Nat) (k : Nat) (wn : Nat) (b : Nat), m - k < mm → (k ≤ m) → (b = jM lx (jS lx m (n - (i + 1)) (i + 1)) i s k) → (wn = min 1000000 (jW lx (jS lx m (n - (i + 1)) (i + 1)) (jC lx m (n - (i + 1)) (i + 1)) i s (jM lx (jS lx m (n - (i + 1)) (i + 1)) i s k) k)) → AW l G yX9_finds cX9_finds 11 (some .int) (xR 1 0 0) (fun _ _ => True) QF 0 0 97 [(8, .int (nI k)), (7, .int (nI wn)), (6, .int (nI b)), (5, .int (nI s)), (4, .int (nI i)), (3, .int (nI (2 ^ m))), (2, .int (nI m)), (1, .int (nI n)), (0, .ref (G.1 + 88))] [] h1737 from L1744 (m - 0 + 1) 0 (min 1000000 (jC lx m (n - (i + 1)) (i + 1) s)) (jS lx m (n - (i + 1)) (i + 1) s) (Nat.lt_succ_self _) (Nat.zero_le _) (rfl) (by rw [jW_0])
              intro mm
              induction mm with
              | zero =>
                intro k wn b hmm hk hb hwn
                exact absurd hmm (Nat.not_lt_zero _)
              | succ mm ih1744 =>
                intro k wn b hmm hk hb hwn
                have bb9 := jM_le (T := jS lx m (n - (i + 1)) (i + 1)) (i := i) (s := s) (B := 3000) (fun t => by have h9 := jS_le (m := m) hlx3 (n - (i + 1)) (i + 1) t; omega) hlx3 k
                rw [← hb] at bb9
                refine aw_iload 0 dX9_finds_97 rfl ?_
                refine aw_iload_n 6 dX9_finds_99 rfl rfl ?_
                refine aw_icmp_ge 222 dX9_finds_100 (by decide) (fun c100 => ?_) (fun c100 => ?_)
                · have d100 := (nv_le (a := m) (b := k) (rfl) (rfl) (by omega) (by omega)).mp c100
                  refine aw_aload_n 8 dX9_finds_222 rfl rfl ?_
                  refine aw_get fX9_50 dX9_finds_223 f1738 rfl ?_
                  refine aw_iload 4 dX9_finds_226 rfl ?_
                  refine aw_iload 3 dX9_finds_228 rfl ?_
                  refine aw_dS [.int (nI i), .int (nI s)] [.ref (G.1 + 100)] lX9_170 sX9_at mX9_at dX9_finds_230 (bX9_at (i := i) (s := s) (by omega)) rfl (Nat.le_of_ble_eq_true rfl) (by decide) (by decide) rfl ?_
                  refine aw_iload 2 dX9_finds_233 rfl ?_
                  refine aw_iast (i * 1024 + s) (rfl) (by omega) (by decide) dX9_finds_235 f1740 ?_
                  refine aw_aload_n 8 dX9_finds_236 rfl rfl ?_
                  refine aw_get fX9_56 dX9_finds_237 (gn (by decide) (f1738)) rfl ?_
                  refine aw_iload 4 dX9_finds_240 rfl ?_
                  refine aw_iload 3 dX9_finds_242 rfl ?_
                  refine aw_dS [.int (nI i), .int (nI s)] [.ref (G.1 + 102)] lX9_170 sX9_at mX9_at dX9_finds_244 (bX9_at (i := i) (s := s) (by omega)) rfl (Nat.le_of_ble_eq_true rfl) (by decide) (by decide) rfl ?_
                  refine aw_iload 1 dX9_finds_247 rfl ?_
                  refine aw_iast (i * 1024 + s) (rfl) (by omega) (by decide) dX9_finds_249 (gn (by decide) (f1741)) ?_
                  refine aw_iinc (j := 3) (nI (s + 1)) [(5, .int (nI (s + 1))), (8, .int (nI k)), (7, .int (nI wn)), (6, .int (nI b)), (4, .int (nI i)), (3, .int (nI (2 ^ m))), (2, .int (nI m)), (1, .int (nI n)), (0, .ref (G.1 + 88))] dX9_finds_250 rfl (nv_inc (rfl)) (by decide) rfl ?_
                  refine aw_goto 56 dX9_finds_253 (by decide) ?_
                  refine aw_lv [(5, .int (nI (s + 1))), (4, .int (nI i)), (3, .int (nI (2 ^ m))), (2, .int (nI m)), (1, .int (nI n)), (0, .ref (G.1 + 88))] [0, 4, 5, 6, 7, 8] rfl ?_
                  exact ih1743 (s + 1) (upd su3 (i * 1024 + s) (nI b)) (upd wy3 (i * 1024 + s) (nI wn)) _ (by omega) (by omega) (fi_1 (by omega) (by omega) hF3) (fi_2 hS3 hi (by rw [hb]) (by omega)) (fw_1 (by omega) (by omega) hW3) (fw_2 hV3 hi (by rw [hwn]) (by omega)) (gn (by decide) (gn (by decide) (f1738))) (gn (by decide) (gn (by decide) (f1739))) (gn (by decide) (gs f1740)) (gs (gn (by decide) (f1741))) (rg2_set (rg2_set (k1742) (by decide)) (by decide))
                · have d100 := mt (nv_le (a := m) (b := k) (rfl) (rfl) (by omega) (by omega)).mpr c100
                  refine aw_aload_n 8 dX9_finds_103 rfl rfl ?_
                  refine aw_get fX9_47 dX9_finds_104 f1738 rfl ?_
                  refine aw_bipush (10) dX9_finds_107 (by decide) ?_
                  refine aw_iload 4 dX9_finds_109 rfl ?_
                  refine aw_imul dX9_finds_111 ?_
                  refine aw_toe (nI (i * 10)) (by rw [Nat.mul_comm i 10]; exact nv_mul (rfl) (rfl)) ?_
                  refine aw_iload 0 dX9_finds_112 rfl ?_
                  refine aw_iadd dX9_finds_114 ?_
                  refine aw_toe (nI ((i * 10) + k)) (nv_add (rfl) (rfl)) ?_
                  refine aw_iald ((i * 10) + k) (rfl) (by omega) (by decide) dX9_finds_115 f1739 ?_
                  have bl := hlx3 i k
                  refine aw_toe (nI (lx i k)) (hLk i hi k (by omega)) ?_
                  refine aw_istore [(9, .int (nI (lx i k))), (8, .int (nI k)), (7, .int (nI wn)), (6, .int (nI b)), (5, .int (nI s)), (4, .int (nI i)), (3, .int (nI (2 ^ m))), (2, .int (nI m)), (1, .int (nI n)), (0, .ref (G.1 + 88))] dX9_finds_116 (by decide) rfl ?_
                  refine aw_iload 0 dX9_finds_118 rfl ?_
                  refine aw_if_eq 216 dX9_finds_120 (by decide) (fun c120 => ?_) (fun c120 => ?_)
                  · have d120 := (nv_eq (a := lx i k) (b := 0) (rfl) (rfl) (by omega) (by omega)).mp c120
                    refine aw_iinc (j := 1) (nI (k + 1)) [(8, .int (nI (k + 1))), (9, .int (nI (lx i k))), (7, .int (nI wn)), (6, .int (nI b)), (5, .int (nI s)), (4, .int (nI i)), (3, .int (nI (2 ^ m))), (2, .int (nI m)), (1, .int (nI n)), (0, .ref (G.1 + 88))] dX9_finds_216 rfl (nv_inc (rfl)) (by decide) rfl ?_
                    refine aw_goto 97 dX9_finds_219 (by decide) ?_
                    refine aw_lv [(8, .int (nI (k + 1))), (7, .int (nI wn)), (6, .int (nI b)), (5, .int (nI s)), (4, .int (nI i)), (3, .int (nI (2 ^ m))), (2, .int (nI m)), (1, .int (nI n)), (0, .ref (G.1 + 88))] [0, 2, 3, 4, 5, 6, 7, 8, 9] rfl ?_
                    exact ih1744 (k + 1) wn b (by omega) (by omega) (hb.trans (jM_k (Or.inl d120)).symm) (by rw [jW_n (Or.inl d120)]; exact hwn)
                  · have d120 := mt (nv_eq (a := lx i k) (b := 0) (rfl) (rfl) (by omega) (by omega)).mpr c120
                    refine aw_iload 4 dX9_finds_123 rfl ?_
                    refine aw_iload 1 dX9_finds_125 rfl ?_
                    refine aw_ishr dX9_finds_127 ?_
                    refine aw_iconst (1) dX9_finds_128 (by decide) ?_
                    refine aw_iand dX9_finds_129 ?_
                    refine aw_toe (if s.testBit k = true then 1 else 0) (nv_bit (rfl) (rfl) (by omega) (by omega)) ?_
                    refine aw_iconst (1) dX9_finds_130 (by decide) ?_
                    refine aw_icmp_ne 137 dX9_finds_131 (by decide) (fun c131 => ?_) (fun c131 => ?_)
                    · have t131 := ite_0e c131
                      have bq := or_k (a := s) (b := k) (by omega) (by omega)
                      refine aw_iload 0 dX9_finds_137 rfl ?_
                      refine aw_aload_n 9 dX9_finds_139 rfl rfl ?_
                      refine aw_get fX9_50 dX9_finds_140 f1738 rfl ?_
                      refine aw_iload 5 dX9_finds_143 rfl ?_
                      refine aw_iconst (1) dX9_finds_145 (by decide) ?_
                      refine aw_iadd dX9_finds_146 ?_
                      refine aw_toe (nI (i + 1)) (nv_add (rfl) (rfl)) ?_
                      refine aw_iload 4 dX9_finds_147 rfl ?_
                      refine aw_iconst (1) dX9_finds_149 (by decide) ?_
                      refine aw_iload 1 dX9_finds_150 rfl ?_
                      refine aw_ishl dX9_finds_152 ?_
                      refine aw_toe (nI (2 ^ k)) (nv_shl1 (rfl) (by omega)) ?_
                      refine aw_ior dX9_finds_153 ?_
                      refine aw_toe (nI (s ||| (2 ^ k))) (nv_or (rfl) (rfl)) ?_
                      refine aw_dS [.int (nI (i + 1)), .int (nI (s ||| (2 ^ k)))] [.ref (G.1 + 100), .int (nI (lx i k))] lX9_170 sX9_at mX9_at dX9_finds_154 (bX9_at (i := i + 1) (s := s ||| (2 ^ k)) (by omega)) rfl (Nat.le_of_ble_eq_true rfl) (by decide) (by decide) rfl ?_
                      refine aw_iald ((i + 1) * 1024 + (s ||| (2 ^ k))) (rfl) (by omega) (by decide) dX9_finds_157 f1740 ?_
                      refine aw_toe (nI (jS lx m (n - (i + 1)) (i + 1) (s ||| 2 ^ k))) (hF3 (i + 1) (Nat.le_refl _) hi _ (or_2m (by omega) (by omega))) ?_
                      have bj := jS_le (m := m) hlx3 (n - (i + 1)) (i + 1) (s ||| 2 ^ k)
                      refine aw_iadd dX9_finds_158 ?_
                      refine aw_toe (nI ((lx i k) + (jS lx m (n - (i + 1)) (i + 1) (s ||| 2 ^ k)))) (nv_add (rfl) (rfl)) ?_
                      refine aw_istore [(10, .int (nI ((lx i k) + (jS lx m (n - (i + 1)) (i + 1) (s ||| 2 ^ k))))), (9, .int (nI (lx i k))), (8, .int (nI k)), (7, .int (nI wn)), (6, .int (nI b)), (5, .int (nI s)), (4, .int (nI i)), (3, .int (nI (2 ^ m))), (2, .int (nI m)), (1, .int (nI n)), (0, .ref (G.1 + 88))] dX9_finds_159 (by decide) rfl ?_
                      refine aw_iload 0 dX9_finds_161 rfl ?_
                      refine aw_iload 4 dX9_finds_163 rfl ?_
                      refine aw_icmp_le 171 dX9_finds_165 (by decide) (fun c165 => ?_) (fun c165 => ?_)
                      · have d165 := (nv_le (a := (lx i k) + (jS lx m (n - (i + 1)) (i + 1) (s ||| 2 ^ k))) (b := b) (rfl) (rfl) (by omega) (by omega)).mp c165
                        refine aw_iload 0 dX9_finds_171 rfl ?_
                        refine aw_iload 4 dX9_finds_173 rfl ?_
                        refine aw_icmp_lt 207 dX9_finds_175 (by decide) (fun c175 => ?_) (fun c175 => ?_)
                        · have d175 := (nv_lt (a := (lx i k) + (jS lx m (n - (i + 1)) (i + 1) (s ||| 2 ^ k))) (b := b) (rfl) (rfl) (by omega) (by omega)).mp c175
                          refine aw_iload 4 dX9_finds_207 rfl ?_
                          refine aw_iload 0 dX9_finds_209 rfl ?_
                          refine aw_mmax lX9_162 dX9_finds_211 (Nat.le_of_ble_eq_true rfl) (by decide) (by decide) ?_
                          refine aw_toe (nI (max b ((lx i k) + (jS lx m (n - (i + 1)) (i + 1) (s ||| 2 ^ k))))) (nv_max (rfl) (rfl) (by omega) (by omega)) ?_
                          refine aw_istore [(6, .int (nI (max b ((lx i k) + (jS lx m (n - (i + 1)) (i + 1) (s ||| 2 ^ k)))))), (10, .int (nI ((lx i k) + (jS lx m (n - (i + 1)) (i + 1) (s ||| 2 ^ k))))), (9, .int (nI (lx i k))), (8, .int (nI k)), (7, .int (nI wn)), (5, .int (nI s)), (4, .int (nI i)), (3, .int (nI (2 ^ m))), (2, .int (nI m)), (1, .int (nI n)), (0, .ref (G.1 + 88))] dX9_finds_214 (by decide) rfl ?_
                          refine aw_iinc (j := 3) (nI (k + 1)) [(8, .int (nI (k + 1))), (6, .int (nI (max b ((lx i k) + (jS lx m (n - (i + 1)) (i + 1) (s ||| 2 ^ k)))))), (10, .int (nI ((lx i k) + (jS lx m (n - (i + 1)) (i + 1) (s ||| 2 ^ k))))), (9, .int (nI (lx i k))), (7, .int (nI wn)), (5, .int (nI s)), (4, .int (nI i)), (3, .int (nI (2 ^ m))), (2, .int (nI m)), (1, .int (nI n)), (0, .ref (G.1 + 88))] dX9_finds_216 rfl (nv_inc (rfl)) (by decide) rfl ?_
                          refine aw_goto 97 dX9_finds_219 (by decide) ?_
                          refine aw_lv [(8, .int (nI (k + 1))), (7, .int (nI wn)), (6, .int (nI (max b ((lx i k) + (jS lx m (n - (i + 1)) (i + 1) (s ||| 2 ^ k)))))), (5, .int (nI s)), (4, .int (nI i)), (3, .int (nI (2 ^ m))), (2, .int (nI m)), (1, .int (nI n)), (0, .ref (G.1 + 88))] [0, 4, 1, 5, 6, 7, 8, 9, 10] rfl ?_
                          exact ih1744 (k + 1) wn (max b ((lx i k) + (jS lx m (n - (i + 1)) (i + 1) (s ||| 2 ^ k)))) (by omega) (by omega) (by rw [jM_s (fun q9 => q9.elim d120 t131), ← hb]) (by rw [jW_l (c := (jC lx m (n - (i + 1)) (i + 1))) (fun q9 => q9.elim d120 t131) (by rw [← hb]; omega)]; exact hwn)
                        · have d175 := mt (nv_lt (a := (lx i k) + (jS lx m (n - (i + 1)) (i + 1) (s ||| 2 ^ k))) (b := b) (rfl) (rfl) (by omega) (by omega)).mpr c175
                          refine aw_ldc (1000000) kX9_173 dX9_finds_178 ?_
                          refine aw_iload 3 dX9_finds_180 rfl ?_
                          refine aw_aload_n 10 dX9_finds_182 rfl rfl ?_
                          refine aw_get fX9_56 dX9_finds_183 f1738 rfl ?_
                          refine aw_iload 6 dX9_finds_186 rfl ?_
                          refine aw_iconst (1) dX9_finds_188 (by decide) ?_
                          refine aw_iadd dX9_finds_189 ?_
                          refine aw_toe (nI (i + 1)) (nv_add (rfl) (rfl)) ?_
                          refine aw_iload 5 dX9_finds_190 rfl ?_
                          refine aw_iconst (1) dX9_finds_192 (by decide) ?_
                          refine aw_iload 2 dX9_finds_193 rfl ?_
                          refine aw_ishl dX9_finds_195 ?_
                          refine aw_toe (nI (2 ^ k)) (nv_shl1 (rfl) (by omega)) ?_
                          refine aw_ior dX9_finds_196 ?_
                          refine aw_toe (nI (s ||| (2 ^ k))) (nv_or (rfl) (rfl)) ?_
                          refine aw_dS [.int (nI (i + 1)), .int (nI (s ||| (2 ^ k)))] [.ref (G.1 + 102), .int (nI wn), .int 1000000] lX9_170 sX9_at mX9_at dX9_finds_197 (bX9_at (i := i + 1) (s := s ||| (2 ^ k)) (by omega)) rfl (Nat.le_of_ble_eq_true rfl) (by decide) (by decide) rfl ?_
                          refine aw_iald ((i + 1) * 1024 + (s ||| (2 ^ k))) (rfl) (by omega) (by decide) dX9_finds_200 f1741 ?_
                          refine aw_toe (nI (min 1000000 (jC lx m (n - (i + 1)) (i + 1) (s ||| 2 ^ k)))) (hW3 (i + 1) (Nat.le_refl _) hi _ (or_2m (by omega) (by omega))) ?_
                          refine aw_iadd dX9_finds_201 ?_
                          refine aw_toe (nI (wn + (min 1000000 (jC lx m (n - (i + 1)) (i + 1) (s ||| 2 ^ k))))) (nv_add (rfl) (rfl)) ?_
                          refine aw_mmin lX9_174 dX9_finds_202 (Nat.le_of_ble_eq_true rfl) (by decide) (by decide) ?_
                          refine aw_toe (nI (min 1000000 (wn + (min 1000000 (jC lx m (n - (i + 1)) (i + 1) (s ||| 2 ^ k)))))) (nv_min rfl rfl (by omega) (by omega)) ?_
                          refine aw_istore [(7, .int (nI (min 1000000 (wn + (min 1000000 (jC lx m (n - (i + 1)) (i + 1) (s ||| 2 ^ k))))))), (10, .int (nI ((lx i k) + (jS lx m (n - (i + 1)) (i + 1) (s ||| 2 ^ k))))), (9, .int (nI (lx i k))), (8, .int (nI k)), (6, .int (nI b)), (5, .int (nI s)), (4, .int (nI i)), (3, .int (nI (2 ^ m))), (2, .int (nI m)), (1, .int (nI n)), (0, .ref (G.1 + 88))] dX9_finds_205 (by decide) rfl ?_
                          refine aw_iload 4 dX9_finds_207 rfl ?_
                          refine aw_iload 1 dX9_finds_209 rfl ?_
                          refine aw_mmax lX9_162 dX9_finds_211 (Nat.le_of_ble_eq_true rfl) (by decide) (by decide) ?_
                          refine aw_toe (nI (max b ((lx i k) + (jS lx m (n - (i + 1)) (i + 1) (s ||| 2 ^ k))))) (nv_max (rfl) (rfl) (by omega) (by omega)) ?_
                          refine aw_istore [(6, .int (nI (max b ((lx i k) + (jS lx m (n - (i + 1)) (i + 1) (s ||| 2 ^ k)))))), (7, .int (nI (min 1000000 (wn + (min 1000000 (jC lx m (n - (i + 1)) (i + 1) (s ||| 2 ^ k))))))), (10, .int (nI ((lx i k) + (jS lx m (n - (i + 1)) (i + 1) (s ||| 2 ^ k))))), (9, .int (nI (lx i k))), (8, .int (nI k)), (5, .int (nI s)), (4, .int (nI i)), (3, .int (nI (2 ^ m))), (2, .int (nI m)), (1, .int (nI n)), (0, .ref (G.1 + 88))] dX9_finds_214 (by decide) rfl ?_
                          refine aw_iinc (j := 4) (nI (k + 1)) [(8, .int (nI (k + 1))), (6, .int (nI (max b ((lx i k) + (jS lx m (n - (i + 1)) (i + 1) (s ||| 2 ^ k)))))), (7, .int (nI (min 1000000 (wn + (min 1000000 (jC lx m (n - (i + 1)) (i + 1) (s ||| 2 ^ k))))))), (10, .int (nI ((lx i k) + (jS lx m (n - (i + 1)) (i + 1) (s ||| 2 ^ k))))), (9, .int (nI (lx i k))), (5, .int (nI s)), (4, .int (nI i)), (3, .int (nI (2 ^ m))), (2, .int (nI m)), (1, .int (nI n)), (0, .ref (G.1 + 88))] dX9_finds_216 rfl (nv_inc (rfl)) (by decide) rfl ?_
                          refine aw_goto 97 dX9_finds_219 (by decide) ?_
                          refine aw_lv [(8, .int (nI (k + 1))), (7, .int (nI (min 1000000 (wn + (min 1000000 (jC lx m (n - (i + 1)) (i + 1) (s ||| 2 ^ k))))))), (6, .int (nI (max b ((lx i k) + (jS lx m (n - (i + 1)) (i + 1) (s ||| 2 ^ k)))))), (5, .int (nI s)), (4, .int (nI i)), (3, .int (nI (2 ^ m))), (2, .int (nI m)), (1, .int (nI n)), (0, .ref (G.1 + 88))] [0, 2, 1, 5, 6, 7, 8, 9, 10] rfl ?_
                          exact ih1744 (k + 1) (min 1000000 (wn + (min 1000000 (jC lx m (n - (i + 1)) (i + 1) (s ||| 2 ^ k))))) (max b ((lx i k) + (jS lx m (n - (i + 1)) (i + 1) (s ||| 2 ^ k)))) (by omega) (by omega) (by rw [jM_s (fun q9 => q9.elim d120 t131), ← hb]) (by rw [jW_e (c := (jC lx m (n - (i + 1)) (i + 1))) (fun q9 => q9.elim d120 t131) (by rw [← hb]; omega), hwn]; exact mn_2 _ _)
                      · have d165 := mt (nv_le (a := (lx i k) + (jS lx m (n - (i + 1)) (i + 1) (s ||| 2 ^ k))) (b := b) (rfl) (rfl) (by omega) (by omega)).mpr c165
                        refine aw_iconst (0) dX9_finds_168 (by decide) ?_
                        refine aw_istore [(7, .int 0), (10, .int (nI ((lx i k) + (jS lx m (n - (i + 1)) (i + 1) (s ||| 2 ^ k))))), (9, .int (nI (lx i k))), (8, .int (nI k)), (6, .int (nI b)), (5, .int (nI s)), (4, .int (nI i)), (3, .int (nI (2 ^ m))), (2, .int (nI m)), (1, .int (nI n)), (0, .ref (G.1 + 88))] dX9_finds_169 (by decide) rfl ?_
                        refine aw_iload 1 dX9_finds_171 rfl ?_
                        refine aw_iload 4 dX9_finds_173 rfl ?_
                        refine aw_icmp_lt 207 dX9_finds_175 (by decide) (fun c175 => ?_) (fun c175 => ?_)
                        · have d175 := (nv_lt (a := (lx i k) + (jS lx m (n - (i + 1)) (i + 1) (s ||| 2 ^ k))) (b := b) (rfl) (rfl) (by omega) (by omega)).mp c175
                          refine aw_iload 4 dX9_finds_207 rfl ?_
                          refine aw_iload 1 dX9_finds_209 rfl ?_
                          refine aw_mmax lX9_162 dX9_finds_211 (Nat.le_of_ble_eq_true rfl) (by decide) (by decide) ?_
                          refine aw_toe (nI (max b ((lx i k) + (jS lx m (n - (i + 1)) (i + 1) (s ||| 2 ^ k))))) (nv_max (rfl) (rfl) (by omega) (by omega)) ?_
                          refine aw_istore [(6, .int (nI (max b ((lx i k) + (jS lx m (n - (i + 1)) (i + 1) (s ||| 2 ^ k)))))), (7, .int 0), (10, .int (nI ((lx i k) + (jS lx m (n - (i + 1)) (i + 1) (s ||| 2 ^ k))))), (9, .int (nI (lx i k))), (8, .int (nI k)), (5, .int (nI s)), (4, .int (nI i)), (3, .int (nI (2 ^ m))), (2, .int (nI m)), (1, .int (nI n)), (0, .ref (G.1 + 88))] dX9_finds_214 (by decide) rfl ?_
                          refine aw_iinc (j := 4) (nI (k + 1)) [(8, .int (nI (k + 1))), (6, .int (nI (max b ((lx i k) + (jS lx m (n - (i + 1)) (i + 1) (s ||| 2 ^ k)))))), (7, .int 0), (10, .int (nI ((lx i k) + (jS lx m (n - (i + 1)) (i + 1) (s ||| 2 ^ k))))), (9, .int (nI (lx i k))), (5, .int (nI s)), (4, .int (nI i)), (3, .int (nI (2 ^ m))), (2, .int (nI m)), (1, .int (nI n)), (0, .ref (G.1 + 88))] dX9_finds_216 rfl (nv_inc (rfl)) (by decide) rfl ?_
                          refine aw_goto 97 dX9_finds_219 (by decide) ?_
                          refine aw_lv [(8, .int (nI (k + 1))), (7, .int 0), (6, .int (nI (max b ((lx i k) + (jS lx m (n - (i + 1)) (i + 1) (s ||| 2 ^ k)))))), (5, .int (nI s)), (4, .int (nI i)), (3, .int (nI (2 ^ m))), (2, .int (nI m)), (1, .int (nI n)), (0, .ref (G.1 + 88))] [0, 2, 1, 5, 6, 7, 8, 9, 10] rfl ?_
                          exfalso
                          omega
                        · have d175 := mt (nv_lt (a := (lx i k) + (jS lx m (n - (i + 1)) (i + 1) (s ||| 2 ^ k))) (b := b) (rfl) (rfl) (by omega) (by omega)).mpr c175
                          refine aw_ldc (1000000) kX9_173 dX9_finds_178 ?_
                          refine aw_iload 0 dX9_finds_180 rfl ?_
                          refine aw_aload_n 10 dX9_finds_182 rfl rfl ?_
                          refine aw_get fX9_56 dX9_finds_183 f1738 rfl ?_
                          refine aw_iload 6 dX9_finds_186 rfl ?_
                          refine aw_iconst (1) dX9_finds_188 (by decide) ?_
                          refine aw_iadd dX9_finds_189 ?_
                          refine aw_toe (nI (i + 1)) (nv_add (rfl) (rfl)) ?_
                          refine aw_iload 5 dX9_finds_190 rfl ?_
                          refine aw_iconst (1) dX9_finds_192 (by decide) ?_
                          refine aw_iload 3 dX9_finds_193 rfl ?_
                          refine aw_ishl dX9_finds_195 ?_
                          refine aw_toe (nI (2 ^ k)) (nv_shl1 (rfl) (by omega)) ?_
                          refine aw_ior dX9_finds_196 ?_
                          refine aw_toe (nI (s ||| (2 ^ k))) (nv_or (rfl) (rfl)) ?_
                          refine aw_dS [.int (nI (i + 1)), .int (nI (s ||| (2 ^ k)))] [.ref (G.1 + 102), .int 0, .int 1000000] lX9_170 sX9_at mX9_at dX9_finds_197 (bX9_at (i := i + 1) (s := s ||| (2 ^ k)) (by omega)) rfl (Nat.le_of_ble_eq_true rfl) (by decide) (by decide) rfl ?_
                          refine aw_iald ((i + 1) * 1024 + (s ||| (2 ^ k))) (rfl) (by omega) (by decide) dX9_finds_200 f1741 ?_
                          refine aw_toe (nI (min 1000000 (jC lx m (n - (i + 1)) (i + 1) (s ||| 2 ^ k)))) (hW3 (i + 1) (Nat.le_refl _) hi _ (or_2m (by omega) (by omega))) ?_
                          refine aw_iadd dX9_finds_201 ?_
                          refine aw_toe (nI (0 + (min 1000000 (jC lx m (n - (i + 1)) (i + 1) (s ||| 2 ^ k))))) (nv_add (rfl) (rfl)) ?_
                          refine aw_mmin lX9_174 dX9_finds_202 (Nat.le_of_ble_eq_true rfl) (by decide) (by decide) ?_
                          refine aw_toe (nI (min 1000000 (0 + (min 1000000 (jC lx m (n - (i + 1)) (i + 1) (s ||| 2 ^ k)))))) (nv_min rfl rfl (by omega) (by omega)) ?_
                          refine aw_istore [(7, .int (nI (min 1000000 (0 + (min 1000000 (jC lx m (n - (i + 1)) (i + 1) (s ||| 2 ^ k))))))), (10, .int (nI ((lx i k) + (jS lx m (n - (i + 1)) (i + 1) (s ||| 2 ^ k))))), (9, .int (nI (lx i k))), (8, .int (nI k)), (6, .int (nI b)), (5, .int (nI s)), (4, .int (nI i)), (3, .int (nI (2 ^ m))), (2, .int (nI m)), (1, .int (nI n)), (0, .ref (G.1 + 88))] dX9_finds_205 (by decide) rfl ?_
                          refine aw_iload 4 dX9_finds_207 rfl ?_
                          refine aw_iload 1 dX9_finds_209 rfl ?_
                          refine aw_mmax lX9_162 dX9_finds_211 (Nat.le_of_ble_eq_true rfl) (by decide) (by decide) ?_
                          refine aw_toe (nI (max b ((lx i k) + (jS lx m (n - (i + 1)) (i + 1) (s ||| 2 ^ k))))) (nv_max (rfl) (rfl) (by omega) (by omega)) ?_
                          refine aw_istore [(6, .int (nI (max b ((lx i k) + (jS lx m (n - (i + 1)) (i + 1) (s ||| 2 ^ k)))))), (7, .int (nI (min 1000000 (0 + (min 1000000 (jC lx m (n - (i + 1)) (i + 1) (s ||| 2 ^ k))))))), (10, .int (nI ((lx i k) + (jS lx m (n - (i + 1)) (i + 1) (s ||| 2 ^ k))))), (9, .int (nI (lx i k))), (8, .int (nI k)), (5, .int (nI s)), (4, .int (nI i)), (3, .int (nI (2 ^ m))), (2, .int (nI m)), (1, .int (nI n)), (0, .ref (G.1 + 88))] dX9_finds_214 (by decide) rfl ?_
                          refine aw_iinc (j := 4) (nI (k + 1)) [(8, .int (nI (k + 1))), (6, .int (nI (max b ((lx i k) + (jS lx m (n - (i + 1)) (i + 1) (s ||| 2 ^ k)))))), (7, .int (nI (min 1000000 (0 + (min 1000000 (jC lx m (n - (i + 1)) (i + 1) (s ||| 2 ^ k))))))), (10, .int (nI ((lx i k) + (jS lx m (n - (i + 1)) (i + 1) (s ||| 2 ^ k))))), (9, .int (nI (lx i k))), (5, .int (nI s)), (4, .int (nI i)), (3, .int (nI (2 ^ m))), (2, .int (nI m)), (1, .int (nI n)), (0, .ref (G.1 + 88))] dX9_finds_216 rfl (nv_inc (rfl)) (by decide) rfl ?_
                          refine aw_goto 97 dX9_finds_219 (by decide) ?_
                          refine aw_lv [(8, .int (nI (k + 1))), (7, .int (nI (min 1000000 (0 + (min 1000000 (jC lx m (n - (i + 1)) (i + 1) (s ||| 2 ^ k))))))), (6, .int (nI (max b ((lx i k) + (jS lx m (n - (i + 1)) (i + 1) (s ||| 2 ^ k)))))), (5, .int (nI s)), (4, .int (nI i)), (3, .int (nI (2 ^ m))), (2, .int (nI m)), (1, .int (nI n)), (0, .ref (G.1 + 88))] [0, 2, 1, 5, 6, 7, 8, 9, 10] rfl ?_
                          exact ih1744 (k + 1) (min 1000000 (0 + (min 1000000 (jC lx m (n - (i + 1)) (i + 1) (s ||| 2 ^ k))))) (max b ((lx i k) + (jS lx m (n - (i + 1)) (i + 1) (s ||| 2 ^ k)))) (by omega) (by omega) (by rw [jM_s (fun q9 => q9.elim d120 t131), ← hb]) (by rw [jW_g (c := (jC lx m (n - (i + 1)) (i + 1))) (fun q9 => q9.elim d120 t131) (by rw [← hb]; omega)]; omega)
                    · have t131 := ite_1e c131
                      refine aw_goto 216 dX9_finds_134 (by decide) ?_
                      refine aw_iinc (j := 1) (nI (k + 1)) [(8, .int (nI (k + 1))), (9, .int (nI (lx i k))), (7, .int (nI wn)), (6, .int (nI b)), (5, .int (nI s)), (4, .int (nI i)), (3, .int (nI (2 ^ m))), (2, .int (nI m)), (1, .int (nI n)), (0, .ref (G.1 + 88))] dX9_finds_216 rfl (nv_inc (rfl)) (by decide) rfl ?_
                      refine aw_goto 97 dX9_finds_219 (by decide) ?_
                      refine aw_lv [(8, .int (nI (k + 1))), (7, .int (nI wn)), (6, .int (nI b)), (5, .int (nI s)), (4, .int (nI i)), (3, .int (nI (2 ^ m))), (2, .int (nI m)), (1, .int (nI n)), (0, .ref (G.1 + 88))] [0, 2, 3, 4, 5, 6, 7, 8, 9] rfl ?_
                      exact ih1744 (k + 1) wn b (by omega) (by omega) (hb.trans (jM_k (Or.inr t131)).symm) (by rw [jW_n (Or.inr t131)]; exact hwn)
    · have d10 := mt (nv_le (a := 2 ^ m) (b := s) (rfl) (rfl) (by omega) (by omega)).mpr c10
      refine aw_aload_n 4 dX9_finds_13 rfl rfl ?_
      refine aw_get fX9_50 dX9_finds_14 f1724 rfl ?_
      refine aw_iload_n 3 dX9_finds_17 rfl rfl ?_
      refine aw_iload 0 dX9_finds_18 rfl ?_
      refine aw_dS [.int (nI n), .int (nI s)] [.ref (G.1 + 100)] lX9_170 sX9_at mX9_at dX9_finds_20 (bX9_at (i := n) (s := s) (by omega)) rfl (Nat.le_of_ble_eq_true rfl) (by decide) (by decide) rfl ?_
      refine aw_iconst (0) dX9_finds_23 (by decide) ?_
      refine aw_iast (n * 1024 + s) (rfl) (by omega) (by decide) dX9_finds_24 f1726 ?_
      refine aw_aload_n 4 dX9_finds_25 rfl rfl ?_
      refine aw_get fX9_56 dX9_finds_26 (gn (by decide) (f1724)) rfl ?_
      refine aw_iload_n 3 dX9_finds_29 rfl rfl ?_
      refine aw_iload 0 dX9_finds_30 rfl ?_
      refine aw_dS [.int (nI n), .int (nI s)] [.ref (G.1 + 102)] lX9_170 sX9_at mX9_at dX9_finds_32 (bX9_at (i := n) (s := s) (by omega)) rfl (Nat.le_of_ble_eq_true rfl) (by decide) (by decide) rfl ?_
      refine aw_iconst (1) dX9_finds_35 (by decide) ?_
      refine aw_iast (n * 1024 + s) (rfl) (by omega) (by decide) dX9_finds_36 (gn (by decide) (f1727)) ?_
      refine aw_iinc (j := 0) (nI (s + 1)) [(4, .int (nI (s + 1))), (3, .int (nI (2 ^ m))), (2, .int (nI m)), (1, .int (nI n)), (0, .ref (G.1 + 88))] dX9_finds_37 rfl (nv_inc (rfl)) (by decide) rfl ?_
      refine aw_goto 7 dX9_finds_40 (by decide) ?_
      refine aw_lv [(4, .int (nI (s + 1))), (3, .int (nI (2 ^ m))), (2, .int (nI m)), (1, .int (nI n)), (0, .ref (G.1 + 88))] [0, 1, 2, 3, 4] rfl ?_
      exact ih1729 (s + 1) (upd su1 (n * 1024 + s) 0) (upd wy1 (n * 1024 + s) 1) _ (by omega) (by omega) (fi_0 h0) (fv_0 h1) (gn (by decide) (gn (by decide) (f1724))) (gn (by decide) (gn (by decide) (f1725))) (gn (by decide) (gs f1726)) (gs (gn (by decide) (f1727))) (rg2_set (rg2_set (k1728) (by decide)) (by decide))
set_option maxHeartbeats 4000000 in
theorem bX9_joins {l : Launch} {G : xG} {h : List va_E} {sp fa nb ns nm nv sh : Nat} {ho ow sl : Int32} {m ye b1 b2 : Nat → Nat} {W Z Ro Co : Nat → Int32} {fi : Nat → Nat} {lk su jd wy : Nat → Int32} {a b : Nat} {lx : Nat → Nat → Nat} (h88 : h[88]? = some (oB 9 (lM G (nI sp) (nI fa) (nI nb) (nI ns) (nI nm) ho ow sl (nI nv) (nI sh)))) (h90 : h[90]? = some (aI 20 (nA m))) (h91 : h[91]? = some (aI 4 (nA ye))) (h93 : h[93]? = some (aI 40 W)) (h94 : h[94]? = some (aI 40 Z)) (h95 : h[95]? = some (aI 40 Ro)) (h96 : h[96]? = some (aI 40 Co)) (h97 : h[97]? = some (aI 30 (nA b1))) (h98 : h[98]? = some (aI 30 (nA b2))) (h92 : h[92]? = some (aI 4 (nA fi))) (h99 : h[99]? = some (aI 100 lk)) (h100 : h[100]? = some (aI 11264 su)) (h101 : h[101]? = some (aI 10 jd)) (h102 : h[102]? = some (aI 11264 wy)) (hm : ∀ j, j < 20 → m j ≤ j) (hye : ∀ j, j < 4 → ye j < 1901) (hnb : nb ≤ 30) (bb1 : ∀ j, j < 30 → b1 j < 40) (bb2 : ∀ j, j < 30 → b2 j < 40) (hsp : sp ≤ 50) (hfd : fa ≤ 9) (hfi : ∀ j, j < 4 → fi j < 11) (ba : a < 4) (bb : b < 4) (hjd : pB jd) (hlx : ∀ i, i < fi a → ∀ k, k < fi b → (lkS ye (fun j => snF (root m) (W j) 20) Z Ro Co (brF b1 b2 (a * 10 + i) (b * 10 + k) nb = true) sp fa a i b k) = nI (lx i k)) (hlx3 : ∀ i k, lx i k ≤ 300) : CE l G yX9_joins cX9_joins 8 (some .int) 4 0 0 [.ref (G.1 + 88), .int (nI a), .int (nI b)] h (some (.int (nI (jS lx (fi b) (fi a) 0 0)))) (fun h1 => ∃ lk1 : Nat → Int32, ∃ su1 : Nat → Int32, ∃ jd1 : Nat → Int32, ∃ wy1 : Nat → Int32, h1[99]? = some (aI 100 lk1) ∧ h1[100]? = some (aI 11264 su1) ∧ h1[101]? = some (aI 10 jd1) ∧ h1[102]? = some (aI 11264 wy1) ∧ rng 99 102 h h1 ∧ pB jd1 ∧ (∀ j, j < fi a → jd1 j = jP lx (fi b) (fi a) j) ∧ jL lx (fi a) (fi b) lk1 ∧ wy1 0 = nI (min 1000000 (jC lx (fi b) (fi a) 0 0))) := by
  refine cm_ofQ rfl (Nat.le_of_ble_eq_true rfl) [(0, .ref (G.1 + 88)), (1, .int (nI a)), (2, .int (nI b))] rfl (fun QF hQF => ?_)
  have fa0 := hfi a ba
  have fb0 := hfi b bb
  refine aw_aload_n 0 dX9_joins_0 rfl rfl ?_
  refine aw_iload_n 1 dX9_joins_1 rfl rfl ?_
  refine aw_iload_n 2 dX9_joins_2 rfl rfl ?_
  refine aw_eW [.int (nI a), .int (nI b)] [] lX9_177 vX9_measure mX9_measure dX9_joins_3 (bX9_measure (sp := sp) (fa := fa) (nb := nb) (ns := ns) (nm := nm) (nv := nv) (sh := sh) (ho := ho) (ow := ow) (sl := sl) (m := m) (ye := ye) (b1 := b1) (b2 := b2) (W := W) (Z := Z) (Ro := Ro) (Co := Co) (fi := fi) (lk := lk) (a := a) (b := b) h88 h90 h91 h93 h94 h95 h96 h97 h98 h92 h99 hm hye (by omega) bb1 bb2 (by omega) (by omega) hfi (by omega) (by omega) hlx) h88 rfl rfl rfl (Nat.le_of_ble_eq_true rfl) (by decide) (by decide) rfl (fun h1747 q1746 => ?_)
  obtain ⟨lk11745, f1748, k1749, p1750⟩ := q1746
  have f1751 := rng_at k1749 (by decide) h88
  have f1752 := rng_at k1749 (by decide) h90
  have f1753 := rng_at k1749 (by decide) h91
  have f1754 := rng_at k1749 (by decide) h93
  have f1755 := rng_at k1749 (by decide) h94
  have f1756 := rng_at k1749 (by decide) h95
  have f1757 := rng_at k1749 (by decide) h96
  have f1758 := rng_at k1749 (by decide) h97
  have f1759 := rng_at k1749 (by decide) h98
  have f1760 := rng_at k1749 (by decide) h92
  have f1761 := rng_at k1749 (by decide) h100
  have f1762 := rng_at k1749 (by decide) h101
  have f1763 := rng_at k1749 (by decide) h102
  have hL := p1750
  refine aw_aload_n 0 dX9_joins_6 rfl rfl ?_
  refine aw_aload_n 0 dX9_joins_7 rfl rfl ?_
  refine aw_get fX9_19 dX9_joins_8 f1751 rfl ?_
  refine aw_iload_n 1 dX9_joins_11 rfl rfl ?_
  refine aw_iald a (rfl) (by omega) (by decide) dX9_joins_12 f1760 ?_
  refine aw_toe (nI (fi a)) (rfl) ?_
  refine aw_aload_n 0 dX9_joins_13 rfl rfl ?_
  refine aw_get fX9_19 dX9_joins_14 f1751 rfl ?_
  refine aw_iload_n 2 dX9_joins_17 rfl rfl ?_
  refine aw_iald b (rfl) (by omega) (by decide) dX9_joins_18 f1760 ?_
  refine aw_toe (nI (fi b)) (rfl) ?_
  refine aw_eV [.int (nI (fi a)), .int (nI (fi b))] [] lX9_181 vX9_finds mX9_finds dX9_joins_19 (bX9_finds (sp := sp) (fa := fa) (nb := nb) (ns := ns) (nm := nm) (nv := nv) (sh := sh) (ho := ho) (ow := ow) (sl := sl) (lk := lk11745) (su := su) (wy := wy) (n := fi a) (m := fi b) f1751 f1748 f1761 f1763 (by omega) (by omega) hL hlx3) f1751 rfl rfl rfl (Nat.le_of_ble_eq_true rfl) (by decide) (by decide) rfl (fun h1767 q1766 => ?_)
  obtain ⟨su11764, wy11765, f1768, f1769, k1770, p1771, p1772⟩ := q1766
  have f1773 := rg2_at k1770 (by decide) f1748
  have f1774 := rg2_at k1770 (by decide) f1751
  have f1775 := rg2_at k1770 (by decide) f1752
  have f1776 := rg2_at k1770 (by decide) f1753
  have f1777 := rg2_at k1770 (by decide) f1754
  have f1778 := rg2_at k1770 (by decide) f1755
  have f1779 := rg2_at k1770 (by decide) f1756
  have f1780 := rg2_at k1770 (by decide) f1757
  have f1781 := rg2_at k1770 (by decide) f1758
  have f1782 := rg2_at k1770 (by decide) f1759
  have f1783 := rg2_at k1770 (by decide) f1760
  have f1784 := rg2_at k1770 (by decide) f1762
  have hF := p1771
  have hWW := p1772
  have hL9 := hL
  refine aw_istore_n [(3, .int (nI (jS lx (fi b) (fi a) 0 0))), (0, .ref (G.1 + 88)), (1, .int (nI a)), (2, .int (nI b))] dX9_joins_22 rfl (by decide) rfl ?_
  refine aw_iconst (0) dX9_joins_23 (by decide) ?_
  refine aw_istore [(4, .int 0), (3, .int (nI (jS lx (fi b) (fi a) 0 0))), (0, .ref (G.1 + 88)), (1, .int (nI a)), (2, .int (nI b))] dX9_joins_24 (by decide) rfl ?_
  refine aw_iconst (0) dX9_joins_26 (by decide) ?_
  refine aw_istore [(5, .int 0), (4, .int 0), (3, .int (nI (jS lx (fi b) (fi a) 0 0))), (0, .ref (G.1 + 88)), (1, .int (nI a)), (2, .int (nI b))] dX9_joins_27 (by decide) rfl ?_
  refine aw_lv [(5, .int 0), (4, .int 0), (3, .int (nI (jS lx (fi b) (fi a) 0 0))), (2, .int (nI b)), (1, .int (nI a)), (0, .ref (G.1 + 88))] [0, 1, 2, 5, 4, 3] rfl ?_
  suffices L1801 : ∀ (mm : Nat) (i : Nat) (s : Nat) (jd1 : Nat → Int32) (h1785 : List va_E), fi a - i < mm → (i ≤ fi a) → (s < 1024) → (pB jd1) → (s = jTk lx (fi b) (fi a) i) → (∀ j, j < i → jd1 j = jP lx (fi b) (fi a) j) → h1785[100]? = some (aI 11264 su11764) → h1785[102]? = some (aI 11264 wy11765) → h1785[99]? = some (aI 100 lk11745) → h1785[88]? = some (oB 9 (lM G (nI sp) (nI fa) (nI nb) (nI ns) (nI nm) ho ow sl (nI nv) (nI sh))) → h1785[90]? = some (aI 20 (nA m)) → h1785[91]? = some (aI 4 (nA ye)) → h1785[93]? = some (aI 40 W) → h1785[94]? = some (aI 40 Z) → h1785[95]? = some (aI 40 Ro) → h1785[96]? = some (aI 40 Co) → h1785[97]? = some (aI 30 (nA b1)) → h1785[98]? = some (aI 30 (nA b2)) → h1785[92]? = some (aI 4 (nA fi)) → h1785[101]? = some (aI 10 jd1) → rng 99 102 h h1785 → AW l G yX9_joins cX9_joins 8 (some .int) (xR 4 0 0) (fun _ _ => True) QF 0 0 29 [(5, .int (nI i)), (4, .int (nI s)), (3, .int (nI (jS lx (fi b) (fi a) 0 0))), (2, .int (nI b)), (1, .int (nI a)), (0, .ref (G.1 + 88))] [] h1785 from L1801 (fi a - 0 + 1) 0 0 jd _ (Nat.lt_succ_self _) (Nat.zero_le _) (by decide) (hjd) (rfl) (fun q h8 => absurd h8 (Nat.not_lt_zero _)) f1768 f1769 f1773 f1774 f1775 f1776 f1777 f1778 f1779 f1780 f1781 f1782 f1783 f1784 (rng_tr (rng_tr (rng_rf 99 102 h) (rng_w k1749 (by decide) (by decide))) (rng_w2 k1770 (by decide) (by decide)))
  intro mm
  induction mm with
  | zero =>
    intro i s jd1 h1785 hmm hi bs hp hs hq f1786 f1787 f1788 f1789 f1790 f1791 f1792 f1793 f1794 f1795 f1796 f1797 f1798 f1799 k1800
    exact absurd hmm (Nat.not_lt_zero _)
  | succ mm ih1801 =>
    intro i s jd1 h1785 hmm hi bs hp hs hq f1786 f1787 f1788 f1789 f1790 f1791 f1792 f1793 f1794 f1795 f1796 f1797 f1798 f1799 k1800
    have hTm := jT_m (lk := lx) (m := fi b) (n := fi a) (by omega) i
    rw [← hs] at hTm
    refine aw_iload 0 dX9_joins_29 rfl ?_
    refine aw_aload_n 5 dX9_joins_31 rfl rfl ?_
    refine aw_get fX9_19 dX9_joins_32 f1789 rfl ?_
    refine aw_iload_n 4 dX9_joins_35 rfl rfl ?_
    refine aw_iald a (rfl) (by omega) (by decide) dX9_joins_36 f1798 ?_
    refine aw_toe (nI (fi a)) (rfl) ?_
    refine aw_icmp_ge 185 dX9_joins_37 (by decide) (fun c37 => ?_) (fun c37 => ?_)
    · have d37 := (nv_le (a := fi a) (b := i) (rfl) (rfl) (by omega) (by omega)).mp c37
      refine aw_iload_n 2 dX9_joins_185 rfl rfl ?_
      subst hQF
      exact aw_iret rfl dX9_joins_186 (by decide) (by decide) ⟨rfl, _, _, _, _, f1788, f1786, f1799, f1787, k1800, hp, fun j hj => hq j (by omega), hL, fW_00 hWW⟩
    · have d37 := mt (nv_le (a := fi a) (b := i) (rfl) (rfl) (by omega) (by omega)).mpr c37
      refine aw_aload_n 5 dX9_joins_40 rfl rfl ?_
      refine aw_get fX9_53 dX9_joins_41 f1789 rfl ?_
      refine aw_iload 0 dX9_joins_44 rfl ?_
      refine aw_bipush (-9) dX9_joins_46 (by decide) ?_
      refine aw_iast i (rfl) (by omega) (by decide) dX9_joins_48 f1799 ?_
      refine aw_iconst (0) dX9_joins_49 (by decide) ?_
      refine aw_istore [(6, .int 0), (5, .int (nI i)), (4, .int (nI s)), (3, .int (nI (jS lx (fi b) (fi a) 0 0))), (2, .int (nI b)), (1, .int (nI a)), (0, .ref (G.1 + 88))] dX9_joins_50 (by decide) rfl ?_
      refine aw_lv [(6, .int 0), (5, .int (nI i)), (4, .int (nI s)), (3, .int (nI (jS lx (fi b) (fi a) 0 0))), (2, .int (nI b)), (1, .int (nI a)), (0, .ref (G.1 + 88))] [0, 1, 2, 3, 4, 5, 6] rfl ?_
      suffices L1818 : ∀ (mm : Nat) (k : Nat) (jd2 : Nat → Int32) (h1802 : List va_E), fi b - k < mm → (k ≤ fi b) → (pB jd2) → (∀ j, j < i → jd2 j = jP lx (fi b) (fi a) j) → (jd2 i = jF lx (jS lx (fi b) (fi a - i - 1) (i + 1)) i s (jS lx (fi b) (fi a - i) i s) k) → h1802[100]? = some (aI 11264 su11764) → h1802[102]? = some (aI 11264 wy11765) → h1802[99]? = some (aI 100 lk11745) → h1802[88]? = some (oB 9 (lM G (nI sp) (nI fa) (nI nb) (nI ns) (nI nm) ho ow sl (nI nv) (nI sh))) → h1802[90]? = some (aI 20 (nA m)) → h1802[91]? = some (aI 4 (nA ye)) → h1802[93]? = some (aI 40 W) → h1802[94]? = some (aI 40 Z) → h1802[95]? = some (aI 40 Ro) → h1802[96]? = some (aI 40 Co) → h1802[97]? = some (aI 30 (nA b1)) → h1802[98]? = some (aI 30 (nA b2)) → h1802[92]? = some (aI 4 (nA fi)) → h1802[101]? = some (aI 10 jd2) → rng 99 102 h h1802 → AW l G yX9_joins cX9_joins 8 (some .int) (xR 4 0 0) (fun _ _ => True) QF 0 0 52 [(6, .int (nI k)), (5, .int (nI i)), (4, .int (nI s)), (3, .int (nI (jS lx (fi b) (fi a) 0 0))), (2, .int (nI b)), (1, .int (nI a)), (0, .ref (G.1 + 88))] [] h1802 from L1818 (fi b - 0 + 1) 0 (upd jd1 i (-9)) _ (Nat.lt_succ_self _) (Nat.zero_le _) (pB_u hp (Or.inl rfl)) (pd_u hq) (jd_0) (gn (by decide) (f1786)) (gn (by decide) (f1787)) (gn (by decide) (f1788)) (gn (by decide) (f1789)) (gn (by decide) (f1790)) (gn (by decide) (f1791)) (gn (by decide) (f1792)) (gn (by decide) (f1793)) (gn (by decide) (f1794)) (gn (by decide) (f1795)) (gn (by decide) (f1796)) (gn (by decide) (f1797)) (gn (by decide) (f1798)) (gs f1799) (rng_set (k1800) (by decide) (by decide))
      intro mm
      induction mm with
      | zero =>
        intro k jd2 h1802 hmm hk hp2 hq2 hc f1803 f1804 f1805 f1806 f1807 f1808 f1809 f1810 f1811 f1812 f1813 f1814 f1815 f1816 k1817
        exact absurd hmm (Nat.not_lt_zero _)
      | succ mm ih1818 =>
        intro k jd2 h1802 hmm hk hp2 hq2 hc f1803 f1804 f1805 f1806 f1807 f1808 f1809 f1810 f1811 f1812 f1813 f1814 f1815 f1816 k1817
        refine aw_iload 0 dX9_joins_52 rfl ?_
        refine aw_aload_n 6 dX9_joins_54 rfl rfl ?_
        refine aw_get fX9_19 dX9_joins_55 f1806 rfl ?_
        refine aw_iload_n 4 dX9_joins_58 rfl rfl ?_
        refine aw_iald b (rfl) (by omega) (by decide) dX9_joins_59 f1815 ?_
        refine aw_toe (nI (fi b)) (rfl) ?_
        refine aw_icmp_ge 155 dX9_joins_60 (by decide) (fun c60 => ?_) (fun c60 => ?_)
        · have d60 := (nv_le (a := fi b) (b := k) (rfl) (rfl) (by omega) (by omega)).mp c60
          refine aw_aload_n 6 dX9_joins_155 rfl rfl ?_
          refine aw_get fX9_53 dX9_joins_156 f1806 rfl ?_
          refine aw_iload 1 dX9_joins_159 rfl ?_
          refine aw_iald i (rfl) (by omega) (by decide) dX9_joins_161 f1816 ?_
          refine aw_if_lt 179 dX9_joins_162 (by decide) (fun c162 => ?_) (fun c162 => ?_)
          · have d162 := (j_lt (a := (jd2 i).toInt) (b := (0)) (rfl) (rfl)).mp c162
            refine aw_iinc (j := 1) (nI (i + 1)) [(5, .int (nI (i + 1))), (6, .int (nI k)), (4, .int (nI s)), (3, .int (nI (jS lx (fi b) (fi a) 0 0))), (2, .int (nI b)), (1, .int (nI a)), (0, .ref (G.1 + 88))] dX9_joins_179 rfl (nv_inc (rfl)) (by decide) rfl ?_
            refine aw_goto 29 dX9_joins_182 (by decide) ?_
            refine aw_lv [(5, .int (nI (i + 1))), (4, .int (nI s)), (3, .int (nI (jS lx (fi b) (fi a) 0 0))), (2, .int (nI b)), (1, .int (nI a)), (0, .ref (G.1 + 88))] [0, 2, 3, 4, 5, 6] rfl ?_
            have EJ : jP lx (fi b) (fi a) i = jd2 i := jP_1 hs (by omega) hc
            have ET : jP lx (fi b) (fi a) i = -9 := EJ.trans (pB_9 hp2 (by omega) (by omega))
            exact ih1801 (i + 1) s jd2 _ (by omega) (by omega) (bs) (hp2) (by rw [jT_s, if_pos ET]; exact hs) (pd_s hq2 EJ) f1803 f1804 f1805 f1806 f1807 f1808 f1809 f1810 f1811 f1812 f1813 f1814 f1815 f1816 (k1817)
          · have d162 := mt (j_lt (a := (jd2 i).toInt) (b := (0)) (rfl) (rfl)).mpr c162
            obtain ⟨q, bq, eq⟩ := pB_g hp2 (show i < 10 by omega) d162
            refine aw_iload 2 dX9_joins_165 rfl ?_
            refine aw_iconst (1) dX9_joins_167 (by decide) ?_
            refine aw_aload_n 6 dX9_joins_168 rfl rfl ?_
            refine aw_get fX9_53 dX9_joins_169 f1806 rfl ?_
            refine aw_iload 1 dX9_joins_172 rfl ?_
            refine aw_iald i (rfl) (by omega) (by decide) dX9_joins_174 f1816 ?_
            refine aw_toe (nI q) (eq) ?_
            refine aw_ishl dX9_joins_175 ?_
            refine aw_toe (nI (2 ^ q)) (nv_shl1 (rfl) (by omega)) ?_
            refine aw_ior dX9_joins_176 ?_
            refine aw_toe (nI (s ||| (2 ^ q))) (nv_or (rfl) (rfl)) ?_
            refine aw_istore [(4, .int (nI (s ||| (2 ^ q)))), (6, .int (nI k)), (5, .int (nI i)), (3, .int (nI (jS lx (fi b) (fi a) 0 0))), (2, .int (nI b)), (1, .int (nI a)), (0, .ref (G.1 + 88))] dX9_joins_177 (by decide) rfl ?_
            refine aw_iinc (j := 2) (nI (i + 1)) [(5, .int (nI (i + 1))), (4, .int (nI (s ||| (2 ^ q)))), (6, .int (nI k)), (3, .int (nI (jS lx (fi b) (fi a) 0 0))), (2, .int (nI b)), (1, .int (nI a)), (0, .ref (G.1 + 88))] dX9_joins_179 rfl (nv_inc (rfl)) (by decide) rfl ?_
            refine aw_goto 29 dX9_joins_182 (by decide) ?_
            refine aw_lv [(5, .int (nI (i + 1))), (4, .int (nI (s ||| (2 ^ q)))), (3, .int (nI (jS lx (fi b) (fi a) 0 0))), (2, .int (nI b)), (1, .int (nI a)), (0, .ref (G.1 + 88))] [0, 1, 3, 4, 5, 6] rfl ?_
            have EJ : jP lx (fi b) (fi a) i = jd2 i := jP_1 hs (by omega) hc
            have ET : jP lx (fi b) (fi a) i = nI q := EJ.trans eq
            exact ih1801 (i + 1) (s ||| (2 ^ q)) jd2 _ (by omega) (by omega) (or_k bs (by omega)) (hp2) (by rw [jT_s, ET, if_neg (nI_9 (by omega)), jn_nI (by omega), ← hs]) (pd_s hq2 EJ) f1803 f1804 f1805 f1806 f1807 f1808 f1809 f1810 f1811 f1812 f1813 f1814 f1815 f1816 (k1817)
        · have d60 := mt (nv_le (a := fi b) (b := k) (rfl) (rfl) (by omega) (by omega)).mpr c60
          refine aw_aload_n 6 dX9_joins_63 rfl rfl ?_
          refine aw_get fX9_53 dX9_joins_64 f1806 rfl ?_
          refine aw_iload 1 dX9_joins_67 rfl ?_
          refine aw_iald i (rfl) (by omega) (by decide) dX9_joins_69 f1816 ?_
          refine aw_if_ge 155 dX9_joins_70 (by decide) (fun c70 => ?_) (fun c70 => ?_)
          · have d70 := (j_le (a := (0)) (b := (jd2 i).toInt) (rfl) (rfl)).mp c70
            refine aw_aload_n 6 dX9_joins_155 rfl rfl ?_
            refine aw_get fX9_53 dX9_joins_156 f1806 rfl ?_
            refine aw_iload 1 dX9_joins_159 rfl ?_
            refine aw_iald i (rfl) (by omega) (by decide) dX9_joins_161 f1816 ?_
            refine aw_if_lt 179 dX9_joins_162 (by decide) (fun c162 => ?_) (fun c162 => ?_)
            · have d162 := (j_lt (a := (jd2 i).toInt) (b := (0)) (rfl) (rfl)).mp c162
              refine aw_iinc (j := 1) (nI (i + 1)) [(5, .int (nI (i + 1))), (6, .int (nI k)), (4, .int (nI s)), (3, .int (nI (jS lx (fi b) (fi a) 0 0))), (2, .int (nI b)), (1, .int (nI a)), (0, .ref (G.1 + 88))] dX9_joins_179 rfl (nv_inc (rfl)) (by decide) rfl ?_
              refine aw_goto 29 dX9_joins_182 (by decide) ?_
              refine aw_lv [(5, .int (nI (i + 1))), (4, .int (nI s)), (3, .int (nI (jS lx (fi b) (fi a) 0 0))), (2, .int (nI b)), (1, .int (nI a)), (0, .ref (G.1 + 88))] [0, 2, 3, 4, 5, 6] rfl ?_
              exfalso
              omega
            · have d162 := mt (j_lt (a := (jd2 i).toInt) (b := (0)) (rfl) (rfl)).mpr c162
              obtain ⟨q, bq, eq⟩ := pB_g hp2 (show i < 10 by omega) d162
              refine aw_iload 2 dX9_joins_165 rfl ?_
              refine aw_iconst (1) dX9_joins_167 (by decide) ?_
              refine aw_aload_n 6 dX9_joins_168 rfl rfl ?_
              refine aw_get fX9_53 dX9_joins_169 f1806 rfl ?_
              refine aw_iload 1 dX9_joins_172 rfl ?_
              refine aw_iald i (rfl) (by omega) (by decide) dX9_joins_174 f1816 ?_
              refine aw_toe (nI q) (eq) ?_
              refine aw_ishl dX9_joins_175 ?_
              refine aw_toe (nI (2 ^ q)) (nv_shl1 (rfl) (by omega)) ?_
              refine aw_ior dX9_joins_176 ?_
              refine aw_toe (nI (s ||| (2 ^ q))) (nv_or (rfl) (rfl)) ?_
              refine aw_istore [(4, .int (nI (s ||| (2 ^ q)))), (6, .int (nI k)), (5, .int (nI i)), (3, .int (nI (jS lx (fi b) (fi a) 0 0))), (2, .int (nI b)), (1, .int (nI a)), (0, .ref (G.1 + 88))] dX9_joins_177 (by decide) rfl ?_
              refine aw_iinc (j := 2) (nI (i + 1)) [(5, .int (nI (i + 1))), (4, .int (nI (s ||| (2 ^ q)))), (6, .int (nI k)), (3, .int (nI (jS lx (fi b) (fi a) 0 0))), (2, .int (nI b)), (1, .int (nI a)), (0, .ref (G.1 + 88))] dX9_joins_179 rfl (nv_inc (rfl)) (by decide) rfl ?_
              refine aw_goto 29 dX9_joins_182 (by decide) ?_
              refine aw_lv [(5, .int (nI (i + 1))), (4, .int (nI (s ||| (2 ^ q)))), (3, .int (nI (jS lx (fi b) (fi a) 0 0))), (2, .int (nI b)), (1, .int (nI a)), (0, .ref (G.1 + 88))] [0, 1, 3, 4, 5, 6] rfl ?_
              have EJ : jP lx (fi b) (fi a) i = jd2 i := jP_2 hs (by omega) (by rw [eq]; exact nI_9 (by omega)) hc
              have ET : jP lx (fi b) (fi a) i = nI q := EJ.trans eq
              exact ih1801 (i + 1) (s ||| (2 ^ q)) jd2 _ (by omega) (by omega) (or_k bs (by omega)) (hp2) (by rw [jT_s, ET, if_neg (nI_9 (by omega)), jn_nI (by omega), ← hs]) (pd_s hq2 EJ) f1803 f1804 f1805 f1806 f1807 f1808 f1809 f1810 f1811 f1812 f1813 f1814 f1815 f1816 (k1817)
          · have d70 := mt (j_le (a := (0)) (b := (jd2 i).toInt) (rfl) (rfl)).mpr c70
            refine aw_aload_n 6 dX9_joins_73 rfl rfl ?_
            refine aw_get fX9_47 dX9_joins_74 f1806 rfl ?_
            refine aw_bipush (10) dX9_joins_77 (by decide) ?_
            refine aw_iload 1 dX9_joins_79 rfl ?_
            refine aw_imul dX9_joins_81 ?_
            refine aw_toe (nI (i * 10)) (by rw [Nat.mul_comm i 10]; exact nv_mul (rfl) (rfl)) ?_
            refine aw_iload 0 dX9_joins_82 rfl ?_
            refine aw_iadd dX9_joins_84 ?_
            refine aw_toe (nI ((i * 10) + k)) (nv_add (rfl) (rfl)) ?_
            refine aw_iald ((i * 10) + k) (rfl) (by omega) (by decide) dX9_joins_85 f1805 ?_
            have bl := hlx3 i k
            refine aw_toe (nI (lx i k)) (hL i (by omega) k (by omega)) ?_
            refine aw_istore [(7, .int (nI (lx i k))), (6, .int (nI k)), (5, .int (nI i)), (4, .int (nI s)), (3, .int (nI (jS lx (fi b) (fi a) 0 0))), (2, .int (nI b)), (1, .int (nI a)), (0, .ref (G.1 + 88))] dX9_joins_86 (by decide) rfl ?_
            refine aw_iload 0 dX9_joins_88 rfl ?_
            refine aw_if_le 149 dX9_joins_90 (by decide) (fun c90 => ?_) (fun c90 => ?_)
            · have d90 := (nv_le (a := lx i k) (b := 0) (rfl) (rfl) (by omega) (by omega)).mp c90
              refine aw_iinc (j := 1) (nI (k + 1)) [(6, .int (nI (k + 1))), (7, .int (nI (lx i k))), (5, .int (nI i)), (4, .int (nI s)), (3, .int (nI (jS lx (fi b) (fi a) 0 0))), (2, .int (nI b)), (1, .int (nI a)), (0, .ref (G.1 + 88))] dX9_joins_149 rfl (nv_inc (rfl)) (by decide) rfl ?_
              refine aw_goto 52 dX9_joins_152 (by decide) ?_
              refine aw_lv [(6, .int (nI (k + 1))), (5, .int (nI i)), (4, .int (nI s)), (3, .int (nI (jS lx (fi b) (fi a) 0 0))), (2, .int (nI b)), (1, .int (nI a)), (0, .ref (G.1 + 88))] [0, 2, 3, 4, 5, 6, 7] rfl ?_
              exact ih1818 (k + 1) jd2 _ (by omega) (by omega) (hp2) (hq2) (jd_n hc (pB_9 hp2 (by omega) (by omega)) (Or.inl (Or.inl (by omega)))) f1803 f1804 f1805 f1806 f1807 f1808 f1809 f1810 f1811 f1812 f1813 f1814 f1815 f1816 (k1817)
            · have d90 := mt (nv_le (a := lx i k) (b := 0) (rfl) (rfl) (by omega) (by omega)).mpr c90
              refine aw_iload 3 dX9_joins_93 rfl ?_
              refine aw_iload 1 dX9_joins_95 rfl ?_
              refine aw_ishr dX9_joins_97 ?_
              refine aw_iconst (1) dX9_joins_98 (by decide) ?_
              refine aw_iand dX9_joins_99 ?_
              refine aw_toe (if s.testBit k = true then 1 else 0) (nv_bit (rfl) (rfl) (by omega) (by omega)) ?_
              refine aw_if_ne 149 dX9_joins_100 (by decide) (fun c100 => ?_) (fun c100 => ?_)
              · have t100 := ite_1 c100
                refine aw_iinc (j := 1) (nI (k + 1)) [(6, .int (nI (k + 1))), (7, .int (nI (lx i k))), (5, .int (nI i)), (4, .int (nI s)), (3, .int (nI (jS lx (fi b) (fi a) 0 0))), (2, .int (nI b)), (1, .int (nI a)), (0, .ref (G.1 + 88))] dX9_joins_149 rfl (nv_inc (rfl)) (by decide) rfl ?_
                refine aw_goto 52 dX9_joins_152 (by decide) ?_
                refine aw_lv [(6, .int (nI (k + 1))), (5, .int (nI i)), (4, .int (nI s)), (3, .int (nI (jS lx (fi b) (fi a) 0 0))), (2, .int (nI b)), (1, .int (nI a)), (0, .ref (G.1 + 88))] [0, 2, 3, 4, 5, 6, 7] rfl ?_
                exact ih1818 (k + 1) jd2 _ (by omega) (by omega) (hp2) (hq2) (jd_n hc (pB_9 hp2 (by omega) (by omega)) (Or.inl (Or.inr t100))) f1803 f1804 f1805 f1806 f1807 f1808 f1809 f1810 f1811 f1812 f1813 f1814 f1815 f1816 (k1817)
              · have t100 := ite_0 c100
                have bq0 := or_k (a := s) (b := k) (by omega) (by omega)
                refine aw_iload 0 dX9_joins_103 rfl ?_
                refine aw_aload_n 7 dX9_joins_105 rfl rfl ?_
                refine aw_get fX9_50 dX9_joins_106 f1806 rfl ?_
                refine aw_iload 2 dX9_joins_109 rfl ?_
                refine aw_iconst (1) dX9_joins_111 (by decide) ?_
                refine aw_iadd dX9_joins_112 ?_
                refine aw_toe (nI (i + 1)) (nv_add (rfl) (rfl)) ?_
                refine aw_iload 3 dX9_joins_113 rfl ?_
                refine aw_iconst (1) dX9_joins_115 (by decide) ?_
                refine aw_iload 1 dX9_joins_116 rfl ?_
                refine aw_ishl dX9_joins_118 ?_
                refine aw_toe (nI (2 ^ k)) (nv_shl1 (rfl) (by omega)) ?_
                refine aw_ior dX9_joins_119 ?_
                refine aw_toe (nI (s ||| (2 ^ k))) (nv_or (rfl) (rfl)) ?_
                refine aw_dS [.int (nI (i + 1)), .int (nI (s ||| (2 ^ k)))] [.ref (G.1 + 100), .int (nI (lx i k))] lX9_170 sX9_at mX9_at dX9_joins_120 (bX9_at (i := i + 1) (s := s ||| (2 ^ k)) (by omega)) rfl (Nat.le_of_ble_eq_true rfl) (by decide) (by decide) rfl ?_
                refine aw_iald ((i + 1) * 1024 + (s ||| (2 ^ k))) (rfl) (by omega) (by decide) dX9_joins_123 f1803 ?_
                refine aw_toe (nI (jS lx (fi b) (fi a - i - 1) (i + 1) (s ||| 2 ^ k))) (by have h9 := hF (i + 1) (Nat.zero_le _) (by omega) (s ||| 2 ^ k) (or_2m hTm (by omega)); rw [show fi a - i - 1 = fi a - (i + 1) by omega]; exact h9) ?_
                have bj1 := jS_le (m := fi b) hlx3 (fi a - i - 1) (i + 1) (s ||| 2 ^ k)
                refine aw_iadd dX9_joins_124 ?_
                refine aw_toe (nI ((lx i k) + (jS lx (fi b) (fi a - i - 1) (i + 1) (s ||| 2 ^ k)))) (nv_add (rfl) (rfl)) ?_
                refine aw_aload_n 7 dX9_joins_125 rfl rfl ?_
                refine aw_get fX9_50 dX9_joins_126 f1806 rfl ?_
                refine aw_iload 2 dX9_joins_129 rfl ?_
                refine aw_iload 3 dX9_joins_131 rfl ?_
                refine aw_dS [.int (nI i), .int (nI s)] [.ref (G.1 + 100), .int (nI ((lx i k) + (jS lx (fi b) (fi a - i - 1) (i + 1) (s ||| 2 ^ k))))] lX9_170 sX9_at mX9_at dX9_joins_133 (bX9_at (i := i) (s := s) (by omega)) rfl (Nat.le_of_ble_eq_true rfl) (by decide) (by decide) rfl ?_
                refine aw_iald (i * 1024 + s) (rfl) (by omega) (by decide) dX9_joins_136 f1803 ?_
                refine aw_toe (nI (jS lx (fi b) (fi a - i) i s)) (hF i (Nat.zero_le _) (by omega) s hTm) ?_
                have bj2 := jS_le (m := fi b) hlx3 (fi a - i) i s
                refine aw_icmp_ne 149 dX9_joins_137 (by decide) (fun c137 => ?_) (fun c137 => ?_)
                · have d137 := mt (nv_eq (a := (lx i k) + (jS lx (fi b) (fi a - i - 1) (i + 1) (s ||| 2 ^ k))) (b := jS lx (fi b) (fi a - i) i s) (rfl) (rfl) (by omega) (by omega)).mpr c137
                  refine aw_iinc (j := 1) (nI (k + 1)) [(6, .int (nI (k + 1))), (7, .int (nI (lx i k))), (5, .int (nI i)), (4, .int (nI s)), (3, .int (nI (jS lx (fi b) (fi a) 0 0))), (2, .int (nI b)), (1, .int (nI a)), (0, .ref (G.1 + 88))] dX9_joins_149 rfl (nv_inc (rfl)) (by decide) rfl ?_
                  refine aw_goto 52 dX9_joins_152 (by decide) ?_
                  refine aw_lv [(6, .int (nI (k + 1))), (5, .int (nI i)), (4, .int (nI s)), (3, .int (nI (jS lx (fi b) (fi a) 0 0))), (2, .int (nI b)), (1, .int (nI a)), (0, .ref (G.1 + 88))] [0, 2, 3, 4, 5, 6, 7] rfl ?_
                  exact ih1818 (k + 1) jd2 _ (by omega) (by omega) (hp2) (hq2) (jd_n hc (pB_9 hp2 (by omega) (by omega)) (Or.inr d137)) f1803 f1804 f1805 f1806 f1807 f1808 f1809 f1810 f1811 f1812 f1813 f1814 f1815 f1816 (k1817)
                · have d137 := (nv_eq (a := (lx i k) + (jS lx (fi b) (fi a - i - 1) (i + 1) (s ||| 2 ^ k))) (b := jS lx (fi b) (fi a - i) i s) (rfl) (rfl) (by omega) (by omega)).mp c137
                  refine aw_aload_n 7 dX9_joins_140 rfl rfl ?_
                  refine aw_get fX9_53 dX9_joins_141 f1806 rfl ?_
                  refine aw_iload 2 dX9_joins_144 rfl ?_
                  refine aw_iload 1 dX9_joins_146 rfl ?_
                  refine aw_iast i (rfl) (by omega) (by decide) dX9_joins_148 f1816 ?_
                  refine aw_iinc (j := 1) (nI (k + 1)) [(6, .int (nI (k + 1))), (7, .int (nI (lx i k))), (5, .int (nI i)), (4, .int (nI s)), (3, .int (nI (jS lx (fi b) (fi a) 0 0))), (2, .int (nI b)), (1, .int (nI a)), (0, .ref (G.1 + 88))] dX9_joins_149 rfl (nv_inc (rfl)) (by decide) rfl ?_
                  refine aw_goto 52 dX9_joins_152 (by decide) ?_
                  refine aw_lv [(6, .int (nI (k + 1))), (5, .int (nI i)), (4, .int (nI s)), (3, .int (nI (jS lx (fi b) (fi a) 0 0))), (2, .int (nI b)), (1, .int (nI a)), (0, .ref (G.1 + 88))] [0, 2, 3, 4, 5, 6, 7] rfl ?_
                  exact ih1818 (k + 1) (upd jd2 i (nI k)) _ (by omega) (by omega) (pB_u hp2 (Or.inr ⟨_, by omega, rfl⟩)) (pd_u hq2) (jd_y hc (pB_9 hp2 (by omega) (by omega)) (fun q9 => q9.elim (fun z9 => by omega) t100) d137) (gn (by decide) (f1803)) (gn (by decide) (f1804)) (gn (by decide) (f1805)) (gn (by decide) (f1806)) (gn (by decide) (f1807)) (gn (by decide) (f1808)) (gn (by decide) (f1809)) (gn (by decide) (f1810)) (gn (by decide) (f1811)) (gn (by decide) (f1812)) (gn (by decide) (f1813)) (gn (by decide) (f1814)) (gn (by decide) (f1815)) (gs f1816) (rng_set (k1817) (by decide) (by decide))
set_option maxHeartbeats 4000000 in
theorem bX9_isSure {l : Launch} {G : xG} {h : List va_E} {sp fa nb ns nm nv sh : Nat} {ho ow sl : Int32} {m ye b1 b2 : Nat → Nat} {W Z Ro Co : Nat → Int32} {fi : Nat → Nat} {lk su jd wy : Nat → Int32} {a b i : Nat} {lx : Nat → Nat → Nat} (h88 : h[88]? = some (oB 9 (lM G (nI sp) (nI fa) (nI nb) (nI ns) (nI nm) ho ow sl (nI nv) (nI sh)))) (h90 : h[90]? = some (aI 20 (nA m))) (h91 : h[91]? = some (aI 4 (nA ye))) (h93 : h[93]? = some (aI 40 W)) (h94 : h[94]? = some (aI 40 Z)) (h95 : h[95]? = some (aI 40 Ro)) (h96 : h[96]? = some (aI 40 Co)) (h97 : h[97]? = some (aI 30 (nA b1))) (h98 : h[98]? = some (aI 30 (nA b2))) (h92 : h[92]? = some (aI 4 (nA fi))) (h99 : h[99]? = some (aI 100 lk)) (h100 : h[100]? = some (aI 11264 su)) (h101 : h[101]? = some (aI 10 jd)) (h102 : h[102]? = some (aI 11264 wy)) (hm : ∀ j, j < 20 → m j ≤ j) (hye : ∀ j, j < 4 → ye j < 1901) (hnb : nb ≤ 30) (bb1 : ∀ j, j < 30 → b1 j < 40) (bb2 : ∀ j, j < 30 → b2 j < 40) (hsp : sp ≤ 50) (hfd : fa ≤ 9) (hfi : ∀ j, j < 4 → fi j < 11) (ba : a < 4) (bb : b < 4) (hjd : pB jd) (bi : i < 10) (bia : i < fi a) (hlx : ∀ i, i < fi a → ∀ k, k < fi b → (lkS ye (fun j => snF (root m) (W j) 20) Z Ro Co (brF b1 b2 (a * 10 + i) (b * 10 + k) nb = true) sp fa a i b k) = nI (lx i k)) (hlx3 : ∀ i k, lx i k ≤ 300) : CE l G yX9_isSure cX9_isSure 6 (some .boolean) 5 0 0 [.ref (G.1 + 88), .int (nI a), .int (nI i), .int (nI b)] h (some (.int (if jU lx (fi b) (fi a) i then 1 else 0))) (fun h1 => ∃ lk1 : Nat → Int32, ∃ su1 : Nat → Int32, ∃ jd1 : Nat → Int32, ∃ wy1 : Nat → Int32, h1[99]? = some (aI 100 lk1) ∧ h1[100]? = some (aI 11264 su1) ∧ h1[101]? = some (aI 10 jd1) ∧ h1[102]? = some (aI 11264 wy1) ∧ rng 99 102 h h1 ∧ pB jd1 ∧ (∀ j, j < fi a → jd1 j = jP lx (fi b) (fi a) j)) := by
  refine cm_ofQ rfl (Nat.le_of_ble_eq_true rfl) [(0, .ref (G.1 + 88)), (1, .int (nI a)), (2, .int (nI i)), (3, .int (nI b))] rfl (fun QF hQF => ?_)
  have fa0 := hfi a ba
  have fb0 := hfi b bb
  refine aw_aload_n 0 dX9_isSure_0 rfl rfl ?_
  refine aw_iload_n 1 dX9_isSure_1 rfl rfl ?_
  refine aw_iload_n 3 dX9_isSure_2 rfl rfl ?_
  refine aw_eV [.int (nI a), .int (nI b)] [] lX9_187 vX9_joins mX9_joins dX9_isSure_3 (bX9_joins (sp := sp) (fa := fa) (nb := nb) (ns := ns) (nm := nm) (nv := nv) (sh := sh) (ho := ho) (ow := ow) (sl := sl) (m := m) (ye := ye) (b1 := b1) (b2 := b2) (W := W) (Z := Z) (Ro := Ro) (Co := Co) (fi := fi) (lk := lk) (su := su) (jd := jd) (wy := wy) (a := a) (b := b) h88 h90 h91 h93 h94 h95 h96 h97 h98 h92 h99 h100 h101 h102 hm hye (by omega) bb1 bb2 (by omega) (by omega) hfi (by omega) (by omega) (by omega) hlx hlx3) h88 rfl rfl rfl (Nat.le_of_ble_eq_true rfl) (by decide) (by decide) rfl (fun h1824 q1823 => ?_)
  obtain ⟨lk11819, su11820, jd11821, wy11822, f1825, f1826, f1827, f1828, k1829, p1830, p1831, p1832, p1833⟩ := q1823
  have f1834 := rng_at k1829 (by decide) h88
  have f1835 := rng_at k1829 (by decide) h90
  have f1836 := rng_at k1829 (by decide) h91
  have f1837 := rng_at k1829 (by decide) h93
  have f1838 := rng_at k1829 (by decide) h94
  have f1839 := rng_at k1829 (by decide) h95
  have f1840 := rng_at k1829 (by decide) h96
  have f1841 := rng_at k1829 (by decide) h97
  have f1842 := rng_at k1829 (by decide) h98
  have f1843 := rng_at k1829 (by decide) h92
  refine aw_istore [(4, .int (nI (jS lx (fi b) (fi a) 0 0))), (0, .ref (G.1 + 88)), (1, .int (nI a)), (2, .int (nI i)), (3, .int (nI b))] dX9_isSure_6 (by decide) rfl ?_
  refine aw_aload_n 1 dX9_isSure_8 rfl rfl ?_
  refine aw_get fX9_53 dX9_isSure_9 f1834 rfl ?_
  refine aw_iload_n 3 dX9_isSure_12 rfl rfl ?_
  refine aw_iald i (rfl) (by omega) (by decide) dX9_isSure_13 f1827 ?_
  refine aw_istore [(5, .int (jd11821 i)), (4, .int (nI (jS lx (fi b) (fi a) 0 0))), (0, .ref (G.1 + 88)), (1, .int (nI a)), (2, .int (nI i)), (3, .int (nI b))] dX9_isSure_14 (by decide) rfl ?_
  refine aw_iload 0 dX9_isSure_16 rfl ?_
  refine aw_if_ge 23 dX9_isSure_18 (by decide) (fun c18 => ?_) (fun c18 => ?_)
  · have d18 := (j_le (a := (0)) (b := (jd11821 i).toInt) (rfl) (rfl)).mp c18
    obtain ⟨q, bq, eq⟩ := pB_g p1830 (show i < 10 by omega) (by omega)
    have EJ : jP lx (fi b) (fi a) i = nI q := (p1831 i bia).symm.trans eq
    have hLz := jL_z (i := i) (q := q) p1832 (by omega) bq
    rw [eq]
    have bz1 := jS_le (m := fi b) hlx3 (fi a) 0 0
    have bz2 := jS_le (m := fi b) (lz_le (i := i) (q := q) hlx3) (fi a) 0 0
    refine aw_aload_n 2 dX9_isSure_23 rfl rfl ?_
    refine aw_get fX9_47 dX9_isSure_24 f1834 rfl ?_
    refine aw_bipush (10) dX9_isSure_27 (by decide) ?_
    refine aw_iload_n 4 dX9_isSure_29 rfl rfl ?_
    refine aw_imul dX9_isSure_30 ?_
    refine aw_toe (nI (i * 10)) (by rw [Nat.mul_comm i 10]; exact nv_mul (rfl) (rfl)) ?_
    refine aw_iload 0 dX9_isSure_31 rfl ?_
    refine aw_iadd dX9_isSure_33 ?_
    refine aw_toe (nI ((i * 10) + q)) (nv_add (rfl) (rfl)) ?_
    refine aw_iconst (0) dX9_isSure_34 (by decide) ?_
    refine aw_iast ((i * 10) + q) (rfl) (by omega) (by decide) dX9_isSure_35 f1825 ?_
    refine aw_aload_n 2 dX9_isSure_36 rfl rfl ?_
    refine aw_aload_n 2 dX9_isSure_37 rfl rfl ?_
    refine aw_get fX9_19 dX9_isSure_38 (gn (by decide) (f1834)) rfl ?_
    refine aw_iload_n 3 dX9_isSure_41 rfl rfl ?_
    refine aw_iald a (rfl) (by omega) (by decide) dX9_isSure_42 (gn (by decide) (f1843)) ?_
    refine aw_toe (nI (fi a)) (rfl) ?_
    refine aw_aload_n 2 dX9_isSure_43 rfl rfl ?_
    refine aw_get fX9_19 dX9_isSure_44 (gn (by decide) (f1834)) rfl ?_
    refine aw_iload_n 5 dX9_isSure_47 rfl rfl ?_
    refine aw_iald b (rfl) (by omega) (by decide) dX9_isSure_48 (gn (by decide) (f1843)) ?_
    refine aw_toe (nI (fi b)) (rfl) ?_
    refine aw_eV [.int (nI (fi a)), .int (nI (fi b))] [] lX9_181 vX9_finds mX9_finds dX9_isSure_49 (bX9_finds (sp := sp) (fa := fa) (nb := nb) (ns := ns) (nm := nm) (nv := nv) (sh := sh) (ho := ho) (ow := ow) (sl := sl) (lk := upd lk11819 ((i * 10) + q) 0) (su := su11820) (wy := wy11822) (n := fi a) (m := fi b) (lx := lz lx i q) (gn (by decide) (f1834)) (gs f1825) (gn (by decide) (f1826)) (gn (by decide) (f1828)) (by omega) (by omega) hLz (lz_le hlx3)) (gn (by decide) (f1834)) rfl rfl rfl (Nat.le_of_ble_eq_true rfl) (by decide) (by decide) rfl (fun h1847 q1846 => ?_)
    obtain ⟨su11844, wy11845, f1848, f1849, k1850, p1851, p1852⟩ := q1846
    have f1853 := rg2_at k1850 (by decide) (gs f1825)
    have f1854 := rg2_at k1850 (by decide) (gn (by decide) (f1827))
    have f1855 := rg2_at k1850 (by decide) (gn (by decide) (f1834))
    have f1856 := rg2_at k1850 (by decide) (gn (by decide) (f1835))
    have f1857 := rg2_at k1850 (by decide) (gn (by decide) (f1836))
    have f1858 := rg2_at k1850 (by decide) (gn (by decide) (f1837))
    have f1859 := rg2_at k1850 (by decide) (gn (by decide) (f1838))
    have f1860 := rg2_at k1850 (by decide) (gn (by decide) (f1839))
    have f1861 := rg2_at k1850 (by decide) (gn (by decide) (f1840))
    have f1862 := rg2_at k1850 (by decide) (gn (by decide) (f1841))
    have f1863 := rg2_at k1850 (by decide) (gn (by decide) (f1842))
    have f1864 := rg2_at k1850 (by decide) (gn (by decide) (f1843))
    refine aw_iload 1 dX9_isSure_52 rfl ?_
    refine aw_icmp_ge 61 dX9_isSure_54 (by decide) (fun c54 => ?_) (fun c54 => ?_)
    · have d54 := (nv_le (a := jS lx (fi b) (fi a) 0 0) (b := jS (lz lx i q) (fi b) (fi a) 0 0) (rfl) (rfl) (by omega) (by omega)).mp c54
      refine aw_iconst (0) dX9_isSure_61 (by decide) ?_
      subst hQF
      exact aw_zret rfl rfl dX9_isSure_62 (by decide) (by decide) ⟨by rw [if_neg (fun q9 => by have h9 := q9.2; rw [EJ, jn_nI (by omega)] at h9; omega)], _, _, _, _, f1853, f1848, f1854, f1849, rng_tr (rng_set (rng_tr (rng_rf 99 102 h) (rng_w k1829 (by decide) (by decide))) (by decide) (by decide)) (rng_w2 k1850 (by decide) (by decide)), p1830, p1831⟩
    · have d54 := mt (nv_le (a := jS lx (fi b) (fi a) 0 0) (b := jS (lz lx i q) (fi b) (fi a) 0 0) (rfl) (rfl) (by omega) (by omega)).mpr c54
      refine aw_iconst (1) dX9_isSure_57 (by decide) ?_
      refine aw_goto 62 dX9_isSure_58 (by decide) ?_
      subst hQF
      exact aw_zret rfl rfl dX9_isSure_62 (by decide) (by decide) ⟨by rw [if_pos ⟨by rw [EJ]; exact nI_9 (by omega), by rw [EJ, jn_nI (by omega)]; omega⟩], _, _, _, _, f1853, f1848, f1854, f1849, rng_tr (rng_set (rng_tr (rng_rf 99 102 h) (rng_w k1829 (by decide) (by decide))) (by decide) (by decide)) (rng_w2 k1850 (by decide) (by decide)), p1830, p1831⟩
  · have d18 := mt (j_le (a := (0)) (b := (jd11821 i).toInt) (rfl) (rfl)).mpr c18
    refine aw_iconst (0) dX9_isSure_21 (by decide) ?_
    subst hQF
    exact aw_zret rfl rfl dX9_isSure_22 (by decide) (by decide) ⟨by rw [if_neg (fun q9 => q9.1 ((p1831 i bia).symm.trans (pB_9 p1830 (by omega) (by omega))))], _, _, _, _, f1825, f1826, f1827, f1828, rng_tr (rng_rf 99 102 h) (rng_w k1829 (by decide) (by decide)), p1830, p1831⟩
set_option maxHeartbeats 4000000 in
theorem oX9_join {l : Launch} {G : xG} {h : List va_E} {sp fa nb ns nm nv sh : Nat} {ho ow sl : Int32} {rg : Nat → Int32} {m ye b1 b2 : Nat → Nat} {W Z Ro Co : Nat → Int32} {fi : Nat → Nat} {lk su jd wy : Nat → Int32} {lx : Nat → Nat → Nat → Nat → Nat} {a b : Int32} (h88 : h[88]? = some (oB 9 (lM G (nI sp) (nI fa) (nI nb) (nI ns) (nI nm) ho ow sl (nI nv) (nI sh)))) (h89 : h[89]? = some (aI 7 rg)) (h90 : h[90]? = some (aI 20 (nA m))) (h91 : h[91]? = some (aI 4 (nA ye))) (h93 : h[93]? = some (aI 40 W)) (h94 : h[94]? = some (aI 40 Z)) (h95 : h[95]? = some (aI 40 Ro)) (h96 : h[96]? = some (aI 40 Co)) (h97 : h[97]? = some (aI 30 (nA b1))) (h98 : h[98]? = some (aI 30 (nA b2))) (h92 : h[92]? = some (aI 4 (nA fi))) (h99 : h[99]? = some (aI 100 lk)) (h100 : h[100]? = some (aI 11264 su)) (h101 : h[101]? = some (aI 10 jd)) (h102 : h[102]? = some (aI 11264 wy)) (hm : ∀ j, j < 20 → m j ≤ j) (hye : ∀ j, j < 4 → ye j < 1901) (hnb : nb ≤ 30) (bb1 : ∀ j, j < 30 → b1 j < 40) (bb2 : ∀ j, j < 30 → b2 j < 40) (hsp : sp ≤ 50) (hfd : fa ≤ 9) (hfi : ∀ j, j < 4 → fi j < 11) (hjd : pB jd) (hlx : ∀ a, a < 4 → ∀ b, b < 4 → ∀ i, i < fi a → ∀ k, k < fi b → (lkS ye (fun j => snF (root m) (W j) 20) Z Ro Co (brF b1 b2 (a * 10 + i) (b * 10 + k) nb = true) sp fa a i b k) = nI (lx a b i k)) (hlx3 : ∀ a b i k, lx a b i k ≤ 300) : CE l G yX9_join cX9_join 3 (some .int) 6 0 0 [.ref (G.1 + 88), .int a, .int b] h (some (.int (if ((0 ≤ a.toInt ∧ a.toInt < 4) ∧ (0 ≤ b.toInt ∧ b.toInt < 4) ∧ a.toInt ≠ b.toInt) then nI (jS (lx (tn a) (tn b)) (fi (tn b)) (fi (tn a)) 0 0) else -1))) (fun h1 => ∃ lk1 : Nat → Int32, ∃ su1 : Nat → Int32, ∃ jd1 : Nat → Int32, ∃ wy1 : Nat → Int32, ∃ rg1 : Nat → Int32, h1[99]? = some (aI 100 lk1) ∧ h1[100]? = some (aI 11264 su1) ∧ h1[101]? = some (aI 10 jd1) ∧ h1[102]? = some (aI 11264 wy1) ∧ h1[89]? = some (aI 7 rg1) ∧ rg2 89 89 99 102 h h1 ∧ pB jd1) := by
  refine cm_ofQ rfl (Nat.le_of_ble_eq_true rfl) [(0, .ref (G.1 + 88)), (1, .int a), (2, .int b)] rfl (fun QF hQF => ?_)
  refine aw_aload_n 0 dX9_join_0 rfl rfl ?_
  refine aw_iload_n 1 dX9_join_1 rfl rfl ?_
  refine aw_iload_n 2 dX9_join_2 rfl rfl ?_
  refine aw_dV [.int a, .int b] [] lX9_184 vX9_areBooks mX9_areBooks dX9_join_3 (bX9_areBooks (a := a) (b := b) ) h88 rfl rfl rfl (Nat.le_of_ble_eq_true rfl) (by decide) (by decide) rfl ?_
  refine aw_if_eq 18 dX9_join_6 (by decide) (fun c6 => ?_) (fun c6 => ?_)
  · have t6 := ite_0 c6
    refine aw_aload_n 0 dX9_join_18 rfl rfl ?_
    refine aw_iconst (-1) dX9_join_19 (by decide) ?_
    refine aw_eV [.int (-1)] [] lX9_130 vX9_refuse mX9_refuse dX9_join_20 (bX9_refuse (sp := sp) (fa := fa) (nb := nb) (ns := ns) (nm := nm) (nv := nv) (sh := sh) (ho := ho) (ow := ow) (sl := sl) (rg := rg) (x := (-1)) (q := 1) h88 h89 (by decide) (by decide)) h88 rfl rfl rfl (Nat.le_of_ble_eq_true rfl) (by decide) (by decide) rfl (fun h1867 q1866 => ?_)
    obtain ⟨rg11865, f1868, k1869⟩ := q1866
    have f1870 := rng_at k1869 (by decide) h88
    have f1871 := rng_at k1869 (by decide) h90
    have f1872 := rng_at k1869 (by decide) h91
    have f1873 := rng_at k1869 (by decide) h93
    have f1874 := rng_at k1869 (by decide) h94
    have f1875 := rng_at k1869 (by decide) h95
    have f1876 := rng_at k1869 (by decide) h96
    have f1877 := rng_at k1869 (by decide) h97
    have f1878 := rng_at k1869 (by decide) h98
    have f1879 := rng_at k1869 (by decide) h92
    have f1880 := rng_at k1869 (by decide) h99
    have f1881 := rng_at k1869 (by decide) h100
    have f1882 := rng_at k1869 (by decide) h101
    have f1883 := rng_at k1869 (by decide) h102
    subst hQF
    exact aw_iret rfl dX9_join_23 (by decide) (by decide) ⟨by rw [if_neg (by omega)], _, _, _, _, _, f1880, f1881, f1882, f1883, f1868, rg2_tr (rg2_rf 89 89 99 102 h) (rg2_w k1869 (by decide)), hjd⟩
  · have t6 := ite_1 c6
    obtain ⟨a0, bb_a0, ee_a0⟩ := i_nat (x := a) (N := 4) (by omega) (by omega)
    subst ee_a0
    have tt_a0 : (nI a0).toInt = (a0 : Int) := nI_toInt (by omega)
    have nn_a0 : tn (nI a0) = a0 := tn_nI (by omega)
    obtain ⟨b0, bb_b0, ee_b0⟩ := i_nat (x := b) (N := 4) (by omega) (by omega)
    subst ee_b0
    have tt_b0 : (nI b0).toInt = (b0 : Int) := nI_toInt (by omega)
    have nn_b0 : tn (nI b0) = b0 := tn_nI (by omega)
    refine aw_aload_n 0 dX9_join_9 rfl rfl ?_
    refine aw_iload_n 1 dX9_join_10 rfl rfl ?_
    refine aw_iload_n 2 dX9_join_11 rfl rfl ?_
    refine aw_eV [.int (nI a0), .int (nI b0)] [] lX9_187 vX9_joins mX9_joins dX9_join_12 (bX9_joins (sp := sp) (fa := fa) (nb := nb) (ns := ns) (nm := nm) (nv := nv) (sh := sh) (ho := ho) (ow := ow) (sl := sl) (m := m) (ye := ye) (b1 := b1) (b2 := b2) (W := W) (Z := Z) (Ro := Ro) (Co := Co) (fi := fi) (lk := lk) (su := su) (jd := jd) (wy := wy) (a := a0) (b := b0) (lx := lx a0 b0) h88 h90 h91 h93 h94 h95 h96 h97 h98 h92 h99 h100 h101 h102 hm hye (by omega) bb1 bb2 (by omega) (by omega) hfi (by omega) (by omega) (by omega) (hlx a0 (by omega) b0 (by omega)) (hlx3 a0 b0)) h88 rfl rfl rfl (Nat.le_of_ble_eq_true rfl) (by decide) (by decide) rfl (fun h1889 q1888 => ?_)
    obtain ⟨lk11884, su11885, jd11886, wy11887, f1890, f1891, f1892, f1893, k1894, p1895, p1896, p1897, p1898⟩ := q1888
    have f1899 := rng_at k1894 (by decide) h88
    have f1900 := rng_at k1894 (by decide) h89
    have f1901 := rng_at k1894 (by decide) h90
    have f1902 := rng_at k1894 (by decide) h91
    have f1903 := rng_at k1894 (by decide) h93
    have f1904 := rng_at k1894 (by decide) h94
    have f1905 := rng_at k1894 (by decide) h95
    have f1906 := rng_at k1894 (by decide) h96
    have f1907 := rng_at k1894 (by decide) h97
    have f1908 := rng_at k1894 (by decide) h98
    have f1909 := rng_at k1894 (by decide) h92
    refine aw_goto 23 dX9_join_15 (by decide) ?_
    subst hQF
    exact aw_iret rfl dX9_join_23 (by decide) (by decide) ⟨by rw [nn_a0, nn_b0, if_pos (by omega)], _, _, _, _, _, f1890, f1891, f1892, f1893, f1900, rg2_tr (rg2_rf 89 89 99 102 h) (rg2_w k1894 (by decide)), p1895⟩
set_option maxHeartbeats 4000000 in
theorem oX9_joined {l : Launch} {G : xG} {h : List va_E} {sp fa nb ns nm nv sh : Nat} {ho ow sl : Int32} {rg : Nat → Int32} {m ye b1 b2 : Nat → Nat} {W Z Ro Co : Nat → Int32} {fi : Nat → Nat} {lk su jd wy : Nat → Int32} {lx : Nat → Nat → Nat → Nat → Nat} {a i b : Int32} (h88 : h[88]? = some (oB 9 (lM G (nI sp) (nI fa) (nI nb) (nI ns) (nI nm) ho ow sl (nI nv) (nI sh)))) (h89 : h[89]? = some (aI 7 rg)) (h90 : h[90]? = some (aI 20 (nA m))) (h91 : h[91]? = some (aI 4 (nA ye))) (h93 : h[93]? = some (aI 40 W)) (h94 : h[94]? = some (aI 40 Z)) (h95 : h[95]? = some (aI 40 Ro)) (h96 : h[96]? = some (aI 40 Co)) (h97 : h[97]? = some (aI 30 (nA b1))) (h98 : h[98]? = some (aI 30 (nA b2))) (h92 : h[92]? = some (aI 4 (nA fi))) (h99 : h[99]? = some (aI 100 lk)) (h100 : h[100]? = some (aI 11264 su)) (h101 : h[101]? = some (aI 10 jd)) (h102 : h[102]? = some (aI 11264 wy)) (hm : ∀ j, j < 20 → m j ≤ j) (hye : ∀ j, j < 4 → ye j < 1901) (hnb : nb ≤ 30) (bb1 : ∀ j, j < 30 → b1 j < 40) (bb2 : ∀ j, j < 30 → b2 j < 40) (hsp : sp ≤ 50) (hfd : fa ≤ 9) (hfi : ∀ j, j < 4 → fi j < 11) (hjd : pB jd) (hlx : ∀ a, a < 4 → ∀ b, b < 4 → ∀ i, i < fi a → ∀ k, k < fi b → (lkS ye (fun j => snF (root m) (W j) 20) Z Ro Co (brF b1 b2 (a * 10 + i) (b * 10 + k) nb = true) sp fa a i b k) = nI (lx a b i k)) (hlx3 : ∀ a b i k, lx a b i k ≤ 300) : CE l G yX9_joined cX9_joined 5 (some .int) 6 0 0 [.ref (G.1 + 88), .int a, .int i, .int b] h (some (.int (if (((0 ≤ a.toInt ∧ a.toInt < 4) ∧ (0 ≤ b.toInt ∧ b.toInt < 4) ∧ a.toInt ≠ b.toInt) ∧ ((0 ≤ a.toInt ∧ a.toInt < 4) ∧ 0 ≤ i.toInt ∧ i.toInt < (fi (tn a) : Int))) then jP (lx (tn a) (tn b)) (fi (tn b)) (fi (tn a)) (tn i) else -1))) (fun h1 => ∃ lk1 : Nat → Int32, ∃ su1 : Nat → Int32, ∃ jd1 : Nat → Int32, ∃ wy1 : Nat → Int32, ∃ rg1 : Nat → Int32, h1[99]? = some (aI 100 lk1) ∧ h1[100]? = some (aI 11264 su1) ∧ h1[101]? = some (aI 10 jd1) ∧ h1[102]? = some (aI 11264 wy1) ∧ h1[89]? = some (aI 7 rg1) ∧ rg2 89 89 99 102 h h1 ∧ pB jd1) := by
  refine cm_ofQ rfl (Nat.le_of_ble_eq_true rfl) [(0, .ref (G.1 + 88)), (1, .int a), (2, .int i), (3, .int b)] rfl (fun QF hQF => ?_)
  refine aw_aload_n 0 dX9_joined_0 rfl rfl ?_
  refine aw_iload_n 1 dX9_joined_1 rfl rfl ?_
  refine aw_iload_n 3 dX9_joined_2 rfl rfl ?_
  refine aw_dV [.int a, .int b] [] lX9_184 vX9_areBooks mX9_areBooks dX9_joined_3 (bX9_areBooks (a := a) (b := b) ) h88 rfl rfl rfl (Nat.le_of_ble_eq_true rfl) (by decide) (by decide) rfl ?_
  refine aw_if_eq 22 dX9_joined_6 (by decide) (fun c6 => ?_) (fun c6 => ?_)
  · have t6 := ite_0 c6
    refine aw_aload_n 0 dX9_joined_22 rfl rfl ?_
    refine aw_iconst (-1) dX9_joined_23 (by decide) ?_
    refine aw_eV [.int (-1)] [] lX9_130 vX9_refuse mX9_refuse dX9_joined_24 (bX9_refuse (sp := sp) (fa := fa) (nb := nb) (ns := ns) (nm := nm) (nv := nv) (sh := sh) (ho := ho) (ow := ow) (sl := sl) (rg := rg) (x := (-1)) (q := 1) h88 h89 (by decide) (by decide)) h88 rfl rfl rfl (Nat.le_of_ble_eq_true rfl) (by decide) (by decide) rfl (fun h1912 q1911 => ?_)
    obtain ⟨rg11910, f1913, k1914⟩ := q1911
    have f1915 := rng_at k1914 (by decide) h88
    have f1916 := rng_at k1914 (by decide) h90
    have f1917 := rng_at k1914 (by decide) h91
    have f1918 := rng_at k1914 (by decide) h93
    have f1919 := rng_at k1914 (by decide) h94
    have f1920 := rng_at k1914 (by decide) h95
    have f1921 := rng_at k1914 (by decide) h96
    have f1922 := rng_at k1914 (by decide) h97
    have f1923 := rng_at k1914 (by decide) h98
    have f1924 := rng_at k1914 (by decide) h92
    have f1925 := rng_at k1914 (by decide) h99
    have f1926 := rng_at k1914 (by decide) h100
    have f1927 := rng_at k1914 (by decide) h101
    have f1928 := rng_at k1914 (by decide) h102
    subst hQF
    exact aw_iret rfl dX9_joined_27 (by decide) (by decide) ⟨by rw [if_neg (by omega)], _, _, _, _, _, f1925, f1926, f1927, f1928, f1913, rg2_tr (rg2_rf 89 89 99 102 h) (rg2_w k1914 (by decide)), hjd⟩
  · have t6 := ite_1 c6
    obtain ⟨a0, bb_a0, ee_a0⟩ := i_nat (x := a) (N := 4) (by omega) (by omega)
    subst ee_a0
    have tt_a0 : (nI a0).toInt = (a0 : Int) := nI_toInt (by omega)
    have nn_a0 : tn (nI a0) = a0 := tn_nI (by omega)
    obtain ⟨b0, bb_b0, ee_b0⟩ := i_nat (x := b) (N := 4) (by omega) (by omega)
    subst ee_b0
    have tt_b0 : (nI b0).toInt = (b0 : Int) := nI_toInt (by omega)
    have nn_b0 : tn (nI b0) = b0 := tn_nI (by omega)
    refine aw_iload_n 2 dX9_joined_9 rfl rfl ?_
    refine aw_aload_n 0 dX9_joined_10 rfl rfl ?_
    refine aw_get fX9_19 dX9_joined_11 h88 rfl ?_
    refine aw_iload_n 1 dX9_joined_14 rfl rfl ?_
    refine aw_iald a0 (rfl) (by omega) (by decide) dX9_joined_15 h92 ?_
    refine aw_toe (nI (fi a0)) (rfl) ?_
    have b1929 := hfi a0 (by omega)
    refine aw_dS [.int i, .int (nI (fi a0))] [] lX9_126 sX9_isIn mX9_isIn dX9_joined_16 (bX9_isIn (x := i) (n := fi a0) (by omega)) rfl (Nat.le_of_ble_eq_true rfl) (by decide) (by decide) rfl ?_
    refine aw_if_ne 28 dX9_joined_19 (by decide) (fun c19 => ?_) (fun c19 => ?_)
    · have t19 := ite_1 c19
      have fa0 := hfi a0 (by omega)
      obtain ⟨i0, bb_i0, ee_i0⟩ := i_nat (x := i) (N := 10) (by omega) (by omega)
      subst ee_i0
      have tt_i0 : (nI i0).toInt = (i0 : Int) := nI_toInt (by omega)
      have nn_i0 : tn (nI i0) = i0 := tn_nI (by omega)
      refine aw_aload_n 0 dX9_joined_28 rfl rfl ?_
      refine aw_iload_n 1 dX9_joined_29 rfl rfl ?_
      refine aw_iload_n 3 dX9_joined_30 rfl rfl ?_
      refine aw_eV [.int (nI a0), .int (nI b0)] [] lX9_187 vX9_joins mX9_joins dX9_joined_31 (bX9_joins (sp := sp) (fa := fa) (nb := nb) (ns := ns) (nm := nm) (nv := nv) (sh := sh) (ho := ho) (ow := ow) (sl := sl) (m := m) (ye := ye) (b1 := b1) (b2 := b2) (W := W) (Z := Z) (Ro := Ro) (Co := Co) (fi := fi) (lk := lk) (su := su) (jd := jd) (wy := wy) (a := a0) (b := b0) (lx := lx a0 b0) h88 h90 h91 h93 h94 h95 h96 h97 h98 h92 h99 h100 h101 h102 hm hye (by omega) bb1 bb2 (by omega) (by omega) hfi (by omega) (by omega) (by omega) (hlx a0 (by omega) b0 (by omega)) (hlx3 a0 b0)) h88 rfl rfl rfl (Nat.le_of_ble_eq_true rfl) (by decide) (by decide) rfl (fun h1935 q1934 => ?_)
      obtain ⟨lk11930, su11931, jd11932, wy11933, f1936, f1937, f1938, f1939, k1940, p1941, p1942, p1943, p1944⟩ := q1934
      have f1945 := rng_at k1940 (by decide) h88
      have f1946 := rng_at k1940 (by decide) h89
      have f1947 := rng_at k1940 (by decide) h90
      have f1948 := rng_at k1940 (by decide) h91
      have f1949 := rng_at k1940 (by decide) h93
      have f1950 := rng_at k1940 (by decide) h94
      have f1951 := rng_at k1940 (by decide) h95
      have f1952 := rng_at k1940 (by decide) h96
      have f1953 := rng_at k1940 (by decide) h97
      have f1954 := rng_at k1940 (by decide) h98
      have f1955 := rng_at k1940 (by decide) h92
      refine aw_istore [(4, .int (nI (jS (lx a0 b0) (fi b0) (fi a0) 0 0))), (0, .ref (G.1 + 88)), (1, .int (nI a0)), (2, .int (nI i0)), (3, .int (nI b0))] dX9_joined_34 (by decide) rfl ?_
      refine aw_aload_n 1 dX9_joined_36 rfl rfl ?_
      refine aw_get fX9_53 dX9_joined_37 f1945 rfl ?_
      refine aw_iload_n 3 dX9_joined_40 rfl rfl ?_
      refine aw_iald i0 (rfl) (by omega) (by decide) dX9_joined_41 f1938 ?_
      subst hQF
      exact aw_iret rfl dX9_joined_42 (by decide) (by decide) ⟨by rw [nn_a0, nn_b0, nn_i0, if_pos (by omega), p1942 i0 (by omega)], _, _, _, _, _, f1936, f1937, f1938, f1939, f1946, rg2_tr (rg2_rf 89 89 99 102 h) (rg2_w k1940 (by decide)), p1941⟩
    · have t19 := ite_0 c19
      refine aw_aload_n 0 dX9_joined_22 rfl rfl ?_
      refine aw_iconst (-1) dX9_joined_23 (by decide) ?_
      refine aw_eV [.int (-1)] [] lX9_130 vX9_refuse mX9_refuse dX9_joined_24 (bX9_refuse (sp := sp) (fa := fa) (nb := nb) (ns := ns) (nm := nm) (nv := nv) (sh := sh) (ho := ho) (ow := ow) (sl := sl) (rg := rg) (x := (-1)) (q := 1) h88 h89 (by decide) (by decide)) h88 rfl rfl rfl (Nat.le_of_ble_eq_true rfl) (by decide) (by decide) rfl (fun h1958 q1957 => ?_)
      obtain ⟨rg11956, f1959, k1960⟩ := q1957
      have f1961 := rng_at k1960 (by decide) h88
      have f1962 := rng_at k1960 (by decide) h90
      have f1963 := rng_at k1960 (by decide) h91
      have f1964 := rng_at k1960 (by decide) h93
      have f1965 := rng_at k1960 (by decide) h94
      have f1966 := rng_at k1960 (by decide) h95
      have f1967 := rng_at k1960 (by decide) h96
      have f1968 := rng_at k1960 (by decide) h97
      have f1969 := rng_at k1960 (by decide) h98
      have f1970 := rng_at k1960 (by decide) h92
      have f1971 := rng_at k1960 (by decide) h99
      have f1972 := rng_at k1960 (by decide) h100
      have f1973 := rng_at k1960 (by decide) h101
      have f1974 := rng_at k1960 (by decide) h102
      subst hQF
      exact aw_iret rfl dX9_joined_27 (by decide) (by decide) ⟨by rw [nn_a0, if_neg (by omega)], _, _, _, _, _, f1971, f1972, f1973, f1974, f1959, rg2_tr (rg2_rf 89 89 99 102 h) (rg2_w k1960 (by decide)), hjd⟩
set_option maxHeartbeats 4000000 in
theorem oX9_bests {l : Launch} {G : xG} {h : List va_E} {sp fa nb ns nm nv sh : Nat} {ho ow sl : Int32} {rg : Nat → Int32} {m ye b1 b2 : Nat → Nat} {W Z Ro Co : Nat → Int32} {fi : Nat → Nat} {lk su jd wy : Nat → Int32} {lx : Nat → Nat → Nat → Nat → Nat} {a b : Int32} (h88 : h[88]? = some (oB 9 (lM G (nI sp) (nI fa) (nI nb) (nI ns) (nI nm) ho ow sl (nI nv) (nI sh)))) (h89 : h[89]? = some (aI 7 rg)) (h90 : h[90]? = some (aI 20 (nA m))) (h91 : h[91]? = some (aI 4 (nA ye))) (h93 : h[93]? = some (aI 40 W)) (h94 : h[94]? = some (aI 40 Z)) (h95 : h[95]? = some (aI 40 Ro)) (h96 : h[96]? = some (aI 40 Co)) (h97 : h[97]? = some (aI 30 (nA b1))) (h98 : h[98]? = some (aI 30 (nA b2))) (h92 : h[92]? = some (aI 4 (nA fi))) (h99 : h[99]? = some (aI 100 lk)) (h100 : h[100]? = some (aI 11264 su)) (h101 : h[101]? = some (aI 10 jd)) (h102 : h[102]? = some (aI 11264 wy)) (hm : ∀ j, j < 20 → m j ≤ j) (hye : ∀ j, j < 4 → ye j < 1901) (hnb : nb ≤ 30) (bb1 : ∀ j, j < 30 → b1 j < 40) (bb2 : ∀ j, j < 30 → b2 j < 40) (hsp : sp ≤ 50) (hfd : fa ≤ 9) (hfi : ∀ j, j < 4 → fi j < 11) (hjd : pB jd) (hlx : ∀ a, a < 4 → ∀ b, b < 4 → ∀ i, i < fi a → ∀ k, k < fi b → (lkS ye (fun j => snF (root m) (W j) 20) Z Ro Co (brF b1 b2 (a * 10 + i) (b * 10 + k) nb = true) sp fa a i b k) = nI (lx a b i k)) (hlx3 : ∀ a b i k, lx a b i k ≤ 300) : CE l G yX9_bests cX9_bests 4 (some .int) 6 0 0 [.ref (G.1 + 88), .int a, .int b] h (some (.int (if ((0 ≤ a.toInt ∧ a.toInt < 4) ∧ (0 ≤ b.toInt ∧ b.toInt < 4) ∧ a.toInt ≠ b.toInt) then nI (min 1000000 (jC (lx (tn a) (tn b)) (fi (tn b)) (fi (tn a)) 0 0)) else -1))) (fun h1 => ∃ lk1 : Nat → Int32, ∃ su1 : Nat → Int32, ∃ jd1 : Nat → Int32, ∃ wy1 : Nat → Int32, ∃ rg1 : Nat → Int32, h1[99]? = some (aI 100 lk1) ∧ h1[100]? = some (aI 11264 su1) ∧ h1[101]? = some (aI 10 jd1) ∧ h1[102]? = some (aI 11264 wy1) ∧ h1[89]? = some (aI 7 rg1) ∧ rg2 89 89 99 102 h h1 ∧ pB jd1) := by
  refine cm_ofQ rfl (Nat.le_of_ble_eq_true rfl) [(0, .ref (G.1 + 88)), (1, .int a), (2, .int b)] rfl (fun QF hQF => ?_)
  refine aw_aload_n 0 dX9_bests_0 rfl rfl ?_
  refine aw_iload_n 1 dX9_bests_1 rfl rfl ?_
  refine aw_iload_n 2 dX9_bests_2 rfl rfl ?_
  refine aw_dV [.int a, .int b] [] lX9_184 vX9_areBooks mX9_areBooks dX9_bests_3 (bX9_areBooks (a := a) (b := b) ) h88 rfl rfl rfl (Nat.le_of_ble_eq_true rfl) (by decide) (by decide) rfl ?_
  refine aw_if_ne 15 dX9_bests_6 (by decide) (fun c6 => ?_) (fun c6 => ?_)
  · have t6 := ite_1 c6
    obtain ⟨a0, bb_a0, ee_a0⟩ := i_nat (x := a) (N := 4) (by omega) (by omega)
    subst ee_a0
    have tt_a0 : (nI a0).toInt = (a0 : Int) := nI_toInt (by omega)
    have nn_a0 : tn (nI a0) = a0 := tn_nI (by omega)
    obtain ⟨b0, bb_b0, ee_b0⟩ := i_nat (x := b) (N := 4) (by omega) (by omega)
    subst ee_b0
    have tt_b0 : (nI b0).toInt = (b0 : Int) := nI_toInt (by omega)
    have nn_b0 : tn (nI b0) = b0 := tn_nI (by omega)
    refine aw_aload_n 0 dX9_bests_15 rfl rfl ?_
    refine aw_iload_n 1 dX9_bests_16 rfl rfl ?_
    refine aw_iload_n 2 dX9_bests_17 rfl rfl ?_
    refine aw_eV [.int (nI a0), .int (nI b0)] [] lX9_187 vX9_joins mX9_joins dX9_bests_18 (bX9_joins (sp := sp) (fa := fa) (nb := nb) (ns := ns) (nm := nm) (nv := nv) (sh := sh) (ho := ho) (ow := ow) (sl := sl) (m := m) (ye := ye) (b1 := b1) (b2 := b2) (W := W) (Z := Z) (Ro := Ro) (Co := Co) (fi := fi) (lk := lk) (su := su) (jd := jd) (wy := wy) (a := a0) (b := b0) (lx := lx a0 b0) h88 h90 h91 h93 h94 h95 h96 h97 h98 h92 h99 h100 h101 h102 hm hye (by omega) bb1 bb2 (by omega) (by omega) hfi (by omega) (by omega) (by omega) (hlx a0 (by omega) b0 (by omega)) (hlx3 a0 b0)) h88 rfl rfl rfl (Nat.le_of_ble_eq_true rfl) (by decide) (by decide) rfl (fun h1980 q1979 => ?_)
    obtain ⟨lk11975, su11976, jd11977, wy11978, f1981, f1982, f1983, f1984, k1985, p1986, p1987, p1988, p1989⟩ := q1979
    have f1990 := rng_at k1985 (by decide) h88
    have f1991 := rng_at k1985 (by decide) h89
    have f1992 := rng_at k1985 (by decide) h90
    have f1993 := rng_at k1985 (by decide) h91
    have f1994 := rng_at k1985 (by decide) h93
    have f1995 := rng_at k1985 (by decide) h94
    have f1996 := rng_at k1985 (by decide) h95
    have f1997 := rng_at k1985 (by decide) h96
    have f1998 := rng_at k1985 (by decide) h97
    have f1999 := rng_at k1985 (by decide) h98
    have f2000 := rng_at k1985 (by decide) h92
    refine aw_istore_n [(3, .int (nI (jS (lx a0 b0) (fi b0) (fi a0) 0 0))), (0, .ref (G.1 + 88)), (1, .int (nI a0)), (2, .int (nI b0))] dX9_bests_21 rfl (by decide) rfl ?_
    refine aw_aload_n 1 dX9_bests_22 rfl rfl ?_
    refine aw_get fX9_56 dX9_bests_23 f1990 rfl ?_
    refine aw_iconst (0) dX9_bests_26 (by decide) ?_
    refine aw_iald 0 (rfl) (by decide) (by decide) dX9_bests_27 f1984 ?_
    subst hQF
    exact aw_iret rfl dX9_bests_28 (by decide) (by decide) ⟨by rw [nn_a0, nn_b0, if_pos (by omega), p1989], _, _, _, _, _, f1981, f1982, f1983, f1984, f1991, rg2_tr (rg2_rf 89 89 99 102 h) (rg2_w k1985 (by decide)), p1986⟩
  · have t6 := ite_0 c6
    refine aw_aload_n 0 dX9_bests_9 rfl rfl ?_
    refine aw_iconst (-1) dX9_bests_10 (by decide) ?_
    refine aw_eV [.int (-1)] [] lX9_130 vX9_refuse mX9_refuse dX9_bests_11 (bX9_refuse (sp := sp) (fa := fa) (nb := nb) (ns := ns) (nm := nm) (nv := nv) (sh := sh) (ho := ho) (ow := ow) (sl := sl) (rg := rg) (x := (-1)) (q := 1) h88 h89 (by decide) (by decide)) h88 rfl rfl rfl (Nat.le_of_ble_eq_true rfl) (by decide) (by decide) rfl (fun h2003 q2002 => ?_)
    obtain ⟨rg12001, f2004, k2005⟩ := q2002
    have f2006 := rng_at k2005 (by decide) h88
    have f2007 := rng_at k2005 (by decide) h90
    have f2008 := rng_at k2005 (by decide) h91
    have f2009 := rng_at k2005 (by decide) h93
    have f2010 := rng_at k2005 (by decide) h94
    have f2011 := rng_at k2005 (by decide) h95
    have f2012 := rng_at k2005 (by decide) h96
    have f2013 := rng_at k2005 (by decide) h97
    have f2014 := rng_at k2005 (by decide) h98
    have f2015 := rng_at k2005 (by decide) h92
    have f2016 := rng_at k2005 (by decide) h99
    have f2017 := rng_at k2005 (by decide) h100
    have f2018 := rng_at k2005 (by decide) h101
    have f2019 := rng_at k2005 (by decide) h102
    subst hQF
    exact aw_iret rfl dX9_bests_14 (by decide) (by decide) ⟨by rw [if_neg (by omega)], _, _, _, _, _, f2016, f2017, f2018, f2019, f2004, rg2_tr (rg2_rf 89 89 99 102 h) (rg2_w k2005 (by decide)), hjd⟩
set_option maxHeartbeats 4000000 in
theorem oX9_sure {l : Launch} {G : xG} {h : List va_E} {sp fa nb ns nm nv sh : Nat} {ho ow sl : Int32} {rg : Nat → Int32} {m ye b1 b2 : Nat → Nat} {W Z Ro Co : Nat → Int32} {fi : Nat → Nat} {lk su jd wy : Nat → Int32} {lx : Nat → Nat → Nat → Nat → Nat} {a i b : Int32} (h88 : h[88]? = some (oB 9 (lM G (nI sp) (nI fa) (nI nb) (nI ns) (nI nm) ho ow sl (nI nv) (nI sh)))) (h89 : h[89]? = some (aI 7 rg)) (h90 : h[90]? = some (aI 20 (nA m))) (h91 : h[91]? = some (aI 4 (nA ye))) (h93 : h[93]? = some (aI 40 W)) (h94 : h[94]? = some (aI 40 Z)) (h95 : h[95]? = some (aI 40 Ro)) (h96 : h[96]? = some (aI 40 Co)) (h97 : h[97]? = some (aI 30 (nA b1))) (h98 : h[98]? = some (aI 30 (nA b2))) (h92 : h[92]? = some (aI 4 (nA fi))) (h99 : h[99]? = some (aI 100 lk)) (h100 : h[100]? = some (aI 11264 su)) (h101 : h[101]? = some (aI 10 jd)) (h102 : h[102]? = some (aI 11264 wy)) (hm : ∀ j, j < 20 → m j ≤ j) (hye : ∀ j, j < 4 → ye j < 1901) (hnb : nb ≤ 30) (bb1 : ∀ j, j < 30 → b1 j < 40) (bb2 : ∀ j, j < 30 → b2 j < 40) (hsp : sp ≤ 50) (hfd : fa ≤ 9) (hfi : ∀ j, j < 4 → fi j < 11) (hjd : pB jd) (hlx : ∀ a, a < 4 → ∀ b, b < 4 → ∀ i, i < fi a → ∀ k, k < fi b → (lkS ye (fun j => snF (root m) (W j) 20) Z Ro Co (brF b1 b2 (a * 10 + i) (b * 10 + k) nb = true) sp fa a i b k) = nI (lx a b i k)) (hlx3 : ∀ a b i k, lx a b i k ≤ 300) : CE l G yX9_sure cX9_sure 4 (some .int) 6 0 0 [.ref (G.1 + 88), .int a, .int i, .int b] h (some (.int (if (((0 ≤ a.toInt ∧ a.toInt < 4) ∧ (0 ≤ b.toInt ∧ b.toInt < 4) ∧ a.toInt ≠ b.toInt) ∧ ((0 ≤ a.toInt ∧ a.toInt < 4) ∧ 0 ≤ i.toInt ∧ i.toInt < (fi (tn a) : Int))) then (if jU (lx (tn a) (tn b)) (fi (tn b)) (fi (tn a)) (tn i) then 1 else 0) else -1))) (fun h1 => ∃ lk1 : Nat → Int32, ∃ su1 : Nat → Int32, ∃ jd1 : Nat → Int32, ∃ wy1 : Nat → Int32, ∃ rg1 : Nat → Int32, h1[99]? = some (aI 100 lk1) ∧ h1[100]? = some (aI 11264 su1) ∧ h1[101]? = some (aI 10 jd1) ∧ h1[102]? = some (aI 11264 wy1) ∧ h1[89]? = some (aI 7 rg1) ∧ rg2 89 89 99 102 h h1 ∧ pB jd1) := by
  refine cm_ofQ rfl (Nat.le_of_ble_eq_true rfl) [(0, .ref (G.1 + 88)), (1, .int a), (2, .int i), (3, .int b)] rfl (fun QF hQF => ?_)
  refine aw_aload_n 0 dX9_sure_0 rfl rfl ?_
  refine aw_iload_n 1 dX9_sure_1 rfl rfl ?_
  refine aw_iload_n 3 dX9_sure_2 rfl rfl ?_
  refine aw_dV [.int a, .int b] [] lX9_184 vX9_areBooks mX9_areBooks dX9_sure_3 (bX9_areBooks (a := a) (b := b) ) h88 rfl rfl rfl (Nat.le_of_ble_eq_true rfl) (by decide) (by decide) rfl ?_
  refine aw_if_eq 22 dX9_sure_6 (by decide) (fun c6 => ?_) (fun c6 => ?_)
  · have t6 := ite_0 c6
    refine aw_aload_n 0 dX9_sure_22 rfl rfl ?_
    refine aw_iconst (-1) dX9_sure_23 (by decide) ?_
    refine aw_eV [.int (-1)] [] lX9_130 vX9_refuse mX9_refuse dX9_sure_24 (bX9_refuse (sp := sp) (fa := fa) (nb := nb) (ns := ns) (nm := nm) (nv := nv) (sh := sh) (ho := ho) (ow := ow) (sl := sl) (rg := rg) (x := (-1)) (q := 1) h88 h89 (by decide) (by decide)) h88 rfl rfl rfl (Nat.le_of_ble_eq_true rfl) (by decide) (by decide) rfl (fun h2022 q2021 => ?_)
    obtain ⟨rg12020, f2023, k2024⟩ := q2021
    have f2025 := rng_at k2024 (by decide) h88
    have f2026 := rng_at k2024 (by decide) h90
    have f2027 := rng_at k2024 (by decide) h91
    have f2028 := rng_at k2024 (by decide) h93
    have f2029 := rng_at k2024 (by decide) h94
    have f2030 := rng_at k2024 (by decide) h95
    have f2031 := rng_at k2024 (by decide) h96
    have f2032 := rng_at k2024 (by decide) h97
    have f2033 := rng_at k2024 (by decide) h98
    have f2034 := rng_at k2024 (by decide) h92
    have f2035 := rng_at k2024 (by decide) h99
    have f2036 := rng_at k2024 (by decide) h100
    have f2037 := rng_at k2024 (by decide) h101
    have f2038 := rng_at k2024 (by decide) h102
    subst hQF
    exact aw_iret rfl dX9_sure_27 (by decide) (by decide) ⟨by rw [if_neg (by omega)], _, _, _, _, _, f2035, f2036, f2037, f2038, f2023, rg2_tr (rg2_rf 89 89 99 102 h) (rg2_w k2024 (by decide)), hjd⟩
  · have t6 := ite_1 c6
    obtain ⟨a0, bb_a0, ee_a0⟩ := i_nat (x := a) (N := 4) (by omega) (by omega)
    subst ee_a0
    have tt_a0 : (nI a0).toInt = (a0 : Int) := nI_toInt (by omega)
    have nn_a0 : tn (nI a0) = a0 := tn_nI (by omega)
    obtain ⟨b0, bb_b0, ee_b0⟩ := i_nat (x := b) (N := 4) (by omega) (by omega)
    subst ee_b0
    have tt_b0 : (nI b0).toInt = (b0 : Int) := nI_toInt (by omega)
    have nn_b0 : tn (nI b0) = b0 := tn_nI (by omega)
    refine aw_iload_n 2 dX9_sure_9 rfl rfl ?_
    refine aw_aload_n 0 dX9_sure_10 rfl rfl ?_
    refine aw_get fX9_19 dX9_sure_11 h88 rfl ?_
    refine aw_iload_n 1 dX9_sure_14 rfl rfl ?_
    refine aw_iald a0 (rfl) (by omega) (by decide) dX9_sure_15 h92 ?_
    refine aw_toe (nI (fi a0)) (rfl) ?_
    have b2039 := hfi a0 (by omega)
    refine aw_dS [.int i, .int (nI (fi a0))] [] lX9_126 sX9_isIn mX9_isIn dX9_sure_16 (bX9_isIn (x := i) (n := fi a0) (by omega)) rfl (Nat.le_of_ble_eq_true rfl) (by decide) (by decide) rfl ?_
    refine aw_if_ne 28 dX9_sure_19 (by decide) (fun c19 => ?_) (fun c19 => ?_)
    · have t19 := ite_1 c19
      have fa0 := hfi a0 (by omega)
      obtain ⟨i0, bb_i0, ee_i0⟩ := i_nat (x := i) (N := 10) (by omega) (by omega)
      subst ee_i0
      have tt_i0 : (nI i0).toInt = (i0 : Int) := nI_toInt (by omega)
      have nn_i0 : tn (nI i0) = i0 := tn_nI (by omega)
      refine aw_aload_n 0 dX9_sure_28 rfl rfl ?_
      refine aw_iload_n 1 dX9_sure_29 rfl rfl ?_
      refine aw_iload_n 2 dX9_sure_30 rfl rfl ?_
      refine aw_iload_n 3 dX9_sure_31 rfl rfl ?_
      refine aw_eV [.int (nI a0), .int (nI i0), .int (nI b0)] [] lX9_190 vX9_isSure mX9_isSure dX9_sure_32 (bX9_isSure (sp := sp) (fa := fa) (nb := nb) (ns := ns) (nm := nm) (nv := nv) (sh := sh) (ho := ho) (ow := ow) (sl := sl) (m := m) (ye := ye) (b1 := b1) (b2 := b2) (W := W) (Z := Z) (Ro := Ro) (Co := Co) (fi := fi) (lk := lk) (su := su) (jd := jd) (wy := wy) (a := a0) (b := b0) (i := i0) (lx := lx a0 b0) h88 h90 h91 h93 h94 h95 h96 h97 h98 h92 h99 h100 h101 h102 hm hye (by omega) bb1 bb2 (by omega) (by omega) hfi (by omega) (by omega) (by omega) (by omega) (by omega) (hlx a0 (by omega) b0 (by omega)) (hlx3 a0 b0)) h88 rfl rfl rfl (Nat.le_of_ble_eq_true rfl) (by decide) (by decide) rfl (fun h2045 q2044 => ?_)
      obtain ⟨lk12040, su12041, jd12042, wy12043, f2046, f2047, f2048, f2049, k2050, p2051, p2052⟩ := q2044
      have f2053 := rng_at k2050 (by decide) h88
      have f2054 := rng_at k2050 (by decide) h89
      have f2055 := rng_at k2050 (by decide) h90
      have f2056 := rng_at k2050 (by decide) h91
      have f2057 := rng_at k2050 (by decide) h93
      have f2058 := rng_at k2050 (by decide) h94
      have f2059 := rng_at k2050 (by decide) h95
      have f2060 := rng_at k2050 (by decide) h96
      have f2061 := rng_at k2050 (by decide) h97
      have f2062 := rng_at k2050 (by decide) h98
      have f2063 := rng_at k2050 (by decide) h92
      refine aw_if_eq 42 dX9_sure_35 (by decide) (fun c35 => ?_) (fun c35 => ?_)
      · have t35 := ite_0 c35
        refine aw_iconst (0) dX9_sure_42 (by decide) ?_
        subst hQF
        exact aw_iret rfl dX9_sure_43 (by decide) (by decide) ⟨by rw [nn_a0, nn_b0, nn_i0, if_pos (by omega), if_neg (by assumption)], _, _, _, _, _, f2046, f2047, f2048, f2049, f2054, rg2_tr (rg2_rf 89 89 99 102 h) (rg2_w k2050 (by decide)), p2051⟩
      · have t35 := ite_1 c35
        refine aw_iconst (1) dX9_sure_38 (by decide) ?_
        refine aw_goto 43 dX9_sure_39 (by decide) ?_
        subst hQF
        exact aw_iret rfl dX9_sure_43 (by decide) (by decide) ⟨by rw [nn_a0, nn_b0, nn_i0, if_pos (by omega), if_pos (by assumption)], _, _, _, _, _, f2046, f2047, f2048, f2049, f2054, rg2_tr (rg2_rf 89 89 99 102 h) (rg2_w k2050 (by decide)), p2051⟩
    · have t19 := ite_0 c19
      refine aw_aload_n 0 dX9_sure_22 rfl rfl ?_
      refine aw_iconst (-1) dX9_sure_23 (by decide) ?_
      refine aw_eV [.int (-1)] [] lX9_130 vX9_refuse mX9_refuse dX9_sure_24 (bX9_refuse (sp := sp) (fa := fa) (nb := nb) (ns := ns) (nm := nm) (nv := nv) (sh := sh) (ho := ho) (ow := ow) (sl := sl) (rg := rg) (x := (-1)) (q := 1) h88 h89 (by decide) (by decide)) h88 rfl rfl rfl (Nat.le_of_ble_eq_true rfl) (by decide) (by decide) rfl (fun h2066 q2065 => ?_)
      obtain ⟨rg12064, f2067, k2068⟩ := q2065
      have f2069 := rng_at k2068 (by decide) h88
      have f2070 := rng_at k2068 (by decide) h90
      have f2071 := rng_at k2068 (by decide) h91
      have f2072 := rng_at k2068 (by decide) h93
      have f2073 := rng_at k2068 (by decide) h94
      have f2074 := rng_at k2068 (by decide) h95
      have f2075 := rng_at k2068 (by decide) h96
      have f2076 := rng_at k2068 (by decide) h97
      have f2077 := rng_at k2068 (by decide) h98
      have f2078 := rng_at k2068 (by decide) h92
      have f2079 := rng_at k2068 (by decide) h99
      have f2080 := rng_at k2068 (by decide) h100
      have f2081 := rng_at k2068 (by decide) h101
      have f2082 := rng_at k2068 (by decide) h102
      subst hQF
      exact aw_iret rfl dX9_sure_27 (by decide) (by decide) ⟨by rw [nn_a0, if_neg (by omega)], _, _, _, _, _, f2079, f2080, f2081, f2082, f2067, rg2_tr (rg2_rf 89 89 99 102 h) (rg2_w k2068 (by decide)), hjd⟩
