set_option maxHeartbeats 4000000 in
theorem bX9_likeOf {l : Launch} {G : xG} {h : List va_E} {sp fa nb ns nm nv sh : Nat} {ho ow sl : Int32} {m ye b1 b2 : Nat → Nat} {W Z Ro Co : Nat → Int32} {a i b k : Nat} (h88 : h[88]? = some (oB 9 (lM G (nI sp) (nI fa) (nI nb) (nI ns) (nI nm) ho ow sl (nI nv) (nI sh)))) (h90 : h[90]? = some (aI 20 (nA m))) (h91 : h[91]? = some (aI 4 (nA ye))) (h93 : h[93]? = some (aI 40 W)) (h94 : h[94]? = some (aI 40 Z)) (h95 : h[95]? = some (aI 40 Ro)) (h96 : h[96]? = some (aI 40 Co)) (h97 : h[97]? = some (aI 30 (nA b1))) (h98 : h[98]? = some (aI 30 (nA b2))) (hm : ∀ j, j < 20 → m j ≤ j) (hye : ∀ j, j < 4 → ye j < 1901) (hnb : nb ≤ 30) (bb1 : ∀ j, j < 30 → b1 j < 40) (bb2 : ∀ j, j < 30 → b2 j < 40) (hsp : sp ≤ 50) (hfd : fa ≤ 9) (ba : a < 4) (bi : i < 10) (bb : b < 4) (bk : k < 10) : CD l G yX9_likeOf cX9_likeOf 12 (some .int) 2 0 0 [.ref (G.1 + 88), .int (nI a), .int (nI i), .int (nI b), .int (nI k)] h (some (.int (lkS ye (fun j => snF (root m) (W j) 20) Z Ro Co (brF b1 b2 (a * 10 + i) (b * 10 + k) nb = true) sp fa a i b k))) h := by
  refine cm_ofQ rfl (Nat.le_of_ble_eq_true rfl) [(0, .ref (G.1 + 88)), (1, .int (nI a)), (2, .int (nI i)), (3, .int (nI b)), (4, .int (nI k))] rfl (fun QF hQF => ?_)
  refine aw_bipush (10) dX9_likeOf_0 (by decide) ?_
  refine aw_iload_n 1 dX9_likeOf_2 rfl rfl ?_
  refine aw_imul dX9_likeOf_3 ?_
  refine aw_toe (nI (a * 10)) (by rw [Nat.mul_comm a 10]; exact nv_mul (rfl) (rfl)) ?_
  refine aw_iload_n 2 dX9_likeOf_4 rfl rfl ?_
  refine aw_iadd dX9_likeOf_5 ?_
  refine aw_toe (nI ((a * 10) + i)) (nv_add (rfl) (rfl)) ?_
  refine aw_istore [(5, .int (nI ((a * 10) + i))), (0, .ref (G.1 + 88)), (1, .int (nI a)), (2, .int (nI i)), (3, .int (nI b)), (4, .int (nI k))] dX9_likeOf_6 (by decide) rfl ?_
  refine aw_bipush (10) dX9_likeOf_8 (by decide) ?_
  refine aw_iload_n 4 dX9_likeOf_10 rfl rfl ?_
  refine aw_imul dX9_likeOf_11 ?_
  refine aw_toe (nI (b * 10)) (by rw [Nat.mul_comm b 10]; exact nv_mul (rfl) (rfl)) ?_
  refine aw_iload 5 dX9_likeOf_12 rfl ?_
  refine aw_iadd dX9_likeOf_14 ?_
  refine aw_toe (nI ((b * 10) + k)) (nv_add (rfl) (rfl)) ?_
  refine aw_istore [(6, .int (nI ((b * 10) + k))), (5, .int (nI ((a * 10) + i))), (0, .ref (G.1 + 88)), (1, .int (nI a)), (2, .int (nI i)), (3, .int (nI b)), (4, .int (nI k))] dX9_likeOf_15 (by decide) rfl ?_
  refine aw_aload_n 2 dX9_likeOf_17 rfl rfl ?_
  refine aw_get fX9_25 dX9_likeOf_18 h88 rfl ?_
  refine aw_iload 1 dX9_likeOf_21 rfl ?_
  refine aw_iald ((a * 10) + i) (rfl) (by omega) (by decide) dX9_likeOf_23 h94 ?_
  refine aw_aload_n 2 dX9_likeOf_24 rfl rfl ?_
  refine aw_get fX9_25 dX9_likeOf_25 h88 rfl ?_
  refine aw_iload 0 dX9_likeOf_28 rfl ?_
  refine aw_iald ((b * 10) + k) (rfl) (by omega) (by decide) dX9_likeOf_30 h94 ?_
  refine aw_isub dX9_likeOf_31 ?_
  refine aw_mabs lX9_151 dX9_likeOf_32 (Nat.le_of_ble_eq_true rfl) (by decide) (by decide) ?_
  refine aw_top (fun v1641 ev1641 => ?_)
  refine aw_istore [(7, .int v1641), (6, .int (nI ((b * 10) + k))), (5, .int (nI ((a * 10) + i))), (0, .ref (G.1 + 88)), (1, .int (nI a)), (2, .int (nI i)), (3, .int (nI b)), (4, .int (nI k))] dX9_likeOf_35 (by decide) rfl ?_
  refine aw_aload_n 3 dX9_likeOf_37 rfl rfl ?_
  refine aw_iload 2 dX9_likeOf_38 rfl ?_
  refine aw_dV [.int (nI ((a * 10) + i))] [] lX9_156 vX9_senses mX9_senses dX9_likeOf_40 (bX9_senses (sp := sp) (fa := fa) (nb := nb) (ns := ns) (nm := nm) (nv := nv) (sh := sh) (ho := ho) (ow := ow) (sl := sl) (m := m) (W := W) (x := (a * 10) + i) h88 h90 h93 hm (by omega)) h88 rfl rfl rfl (Nat.le_of_ble_eq_true rfl) (by decide) (by decide) rfl ?_
  obtain ⟨n1642, bn1642, en1642⟩ := snF_nat (se := root m) (x := (W ((a * 10) + i))) rootlt 20 (Nat.le_refl _)
  refine aw_toe (nI n1642) (en1642) ?_
  refine aw_istore [(8, .int (nI n1642)), (7, .int v1641), (6, .int (nI ((b * 10) + k))), (5, .int (nI ((a * 10) + i))), (0, .ref (G.1 + 88)), (1, .int (nI a)), (2, .int (nI i)), (3, .int (nI b)), (4, .int (nI k))] dX9_likeOf_43 (by decide) rfl ?_
  refine aw_aload_n 4 dX9_likeOf_45 rfl rfl ?_
  refine aw_iload 2 dX9_likeOf_46 rfl ?_
  refine aw_dV [.int (nI ((b * 10) + k))] [] lX9_156 vX9_senses mX9_senses dX9_likeOf_48 (bX9_senses (sp := sp) (fa := fa) (nb := nb) (ns := ns) (nm := nm) (nv := nv) (sh := sh) (ho := ho) (ow := ow) (sl := sl) (m := m) (W := W) (x := (b * 10) + k) h88 h90 h93 hm (by omega)) h88 rfl rfl rfl (Nat.le_of_ble_eq_true rfl) (by decide) (by decide) rfl ?_
  obtain ⟨n1643, bn1643, en1643⟩ := snF_nat (se := root m) (x := (W ((b * 10) + k))) rootlt 20 (Nat.le_refl _)
  refine aw_toe (nI n1643) (en1643) ?_
  refine aw_istore [(9, .int (nI n1643)), (8, .int (nI n1642)), (7, .int v1641), (6, .int (nI ((b * 10) + k))), (5, .int (nI ((a * 10) + i))), (0, .ref (G.1 + 88)), (1, .int (nI a)), (2, .int (nI i)), (3, .int (nI b)), (4, .int (nI k))] dX9_likeOf_51 (by decide) rfl ?_
  have q1 : n1642 &&& n1643 ≤ n1642 := Nat.and_le_left
  have q2 : n1642 ^^^ n1643 < 1048576 := Nat.xor_lt_two_pow (n := 20) bn1642 bn1643
  have J1 : ∀ (gv : Int32) (fv : Int32), (fv = flF ye Co a b (a * 10 + i) (b * 10 + k)) → AW l G yX9_likeOf cX9_likeOf 12 (some .int) (xR 2 0 0) (fun _ _ => True) QF 0 0 143 [(9, .int (nI n1643)), (8, .int (nI n1642)), (7, .int v1641), (6, .int (nI ((b * 10) + k))), (5, .int (nI ((a * 10) + i))), (0, .ref (G.1 + 88)), (1, .int (nI a)), (2, .int (nI i)), (3, .int (nI b)), (4, .int (nI k)), (10, .int gv), (11, .int fv)] [] h := by
    intro gv fv hfv
    refine aw_iload 2 dX9_likeOf_143 rfl ?_
    refine aw_aload_n 5 dX9_likeOf_145 rfl rfl ?_
    refine aw_get fX9_40 dX9_likeOf_146 h88 rfl ?_
    refine aw_icmp_gt 204 dX9_likeOf_149 (by decide) (fun c149 => ?_) (fun c149 => ?_)
    · have d149 := (j_lt (a := ((sp : Nat) : Int)) (b := v1641.toInt) (i_toNat (rfl) (by omega)) (rfl)).mp c149
      refine aw_iconst (0) dX9_likeOf_204 (by decide) ?_
      subst hQF
      exact aw_iret rfl dX9_likeOf_205 (by decide) (by decide) ⟨congrArg (fun z9 : Int32 => some (Value.int z9)) (lk_0 (Or.inl (by have w9 : v1641 = apF Z (a * 10 + i) (b * 10 + k) := ev1641; rw [← w9]; exact c149))), rfl⟩
    · have d149 := mt (j_lt (a := ((sp : Nat) : Int)) (b := v1641.toInt) (i_toNat (rfl) (by omega)) (rfl)).mpr c149
      refine aw_iload 1 dX9_likeOf_152 rfl ?_
      refine aw_iload 0 dX9_likeOf_154 rfl ?_
      refine aw_iand dX9_likeOf_156 ?_
      refine aw_toe (nI (n1642 &&& n1643)) (nv_and (rfl) (rfl)) ?_
      refine aw_if_eq 204 dX9_likeOf_157 (by decide) (fun c157 => ?_) (fun c157 => ?_)
      · have d157 := (nv_eq (a := n1642 &&& n1643) (b := 0) (rfl) (rfl) (by omega) (by omega)).mp c157
        refine aw_iconst (0) dX9_likeOf_204 (by decide) ?_
        subst hQF
        exact aw_iret rfl dX9_likeOf_205 (by decide) (by decide) ⟨congrArg (fun z9 : Int32 => some (Value.int z9)) (lk_0 (Or.inr (Or.inl (by show snF (root m) (W (a * 10 + i)) 20 &&& snF (root m) (W (b * 10 + k)) 20 = 0; rw [en1642, en1643, nn_and]; exact c157)))), rfl⟩
      · have d157 := mt (nv_eq (a := n1642 &&& n1643) (b := 0) (rfl) (rfl) (by omega) (by omega)).mpr c157
        refine aw_aload_n 5 dX9_likeOf_160 rfl rfl ?_
        refine aw_iload 4 dX9_likeOf_161 rfl ?_
        refine aw_iload 3 dX9_likeOf_163 rfl ?_
        refine aw_dV [.int (nI ((a * 10) + i)), .int (nI ((b * 10) + k))] [] lX9_148 vX9_isBarred mX9_isBarred dX9_likeOf_165 (bX9_isBarred (sp := sp) (fa := fa) (nb := nb) (ns := ns) (nm := nm) (nv := nv) (sh := sh) (ho := ho) (ow := ow) (sl := sl) (b1 := b1) (b2 := b2) (x := (a * 10) + i) (y := (b * 10) + k) h88 h97 h98 (by omega) bb1 bb2 (by omega) (by omega)) h88 rfl rfl rfl (Nat.le_of_ble_eq_true rfl) (by decide) (by decide) rfl ?_
        refine aw_if_ne 204 dX9_likeOf_168 (by decide) (fun c168 => ?_) (fun c168 => ?_)
        · have t168 := ite_1 c168
          refine aw_iconst (0) dX9_likeOf_204 (by decide) ?_
          subst hQF
          exact aw_iret rfl dX9_likeOf_205 (by decide) (by decide) ⟨congrArg (fun z9 : Int32 => some (Value.int z9)) (lk_0 (Or.inr (Or.inr (Or.inl t168)))), rfl⟩
        · have t168 := ite_0 c168
          refine aw_iload 11 dX9_likeOf_171 rfl ?_
          refine aw_if_lt 204 dX9_likeOf_173 (by decide) (fun c173 => ?_) (fun c173 => ?_)
          · have d173 := (j_lt (a := fv.toInt) (b := (0)) (rfl) (rfl)).mp c173
            refine aw_iconst (0) dX9_likeOf_204 (by decide) ?_
            subst hQF
            exact aw_iret rfl dX9_likeOf_205 (by decide) (by decide) ⟨congrArg (fun z9 : Int32 => some (Value.int z9)) (lk_0 (Or.inr (Or.inr (Or.inr (Or.inl (by rw [← hfv]; exact c173)))))), rfl⟩
          · have d173 := mt (j_lt (a := fv.toInt) (b := (0)) (rfl) (rfl)).mpr c173
            refine aw_iload 11 dX9_likeOf_176 rfl ?_
            refine aw_aload_n 5 dX9_likeOf_178 rfl rfl ?_
            refine aw_get fX9_16 dX9_likeOf_179 h88 rfl ?_
            refine aw_iload_n 6 dX9_likeOf_182 rfl rfl ?_
            refine aw_iald a (rfl) (by omega) (by decide) dX9_likeOf_183 h91 ?_
            refine aw_toe (nI (ye a)) (rfl) ?_
            have b1644 := hye a (by omega)
            refine aw_aload_n 5 dX9_likeOf_184 rfl rfl ?_
            refine aw_get fX9_16 dX9_likeOf_185 h88 rfl ?_
            refine aw_iload_n 8 dX9_likeOf_188 rfl rfl ?_
            refine aw_iald b (rfl) (by omega) (by decide) dX9_likeOf_189 h91 ?_
            refine aw_toe (nI (ye b)) (rfl) ?_
            have b1645 := hye b (by omega)
            refine aw_isub dX9_likeOf_190 ?_
            refine aw_mabs lX9_151 dX9_likeOf_191 (Nat.le_of_ble_eq_true rfl) (by decide) (by decide) ?_
            refine aw_toe (nI (max (ye a) (ye b) - min (ye a) (ye b))) (ab_y (by omega) (by omega)) ?_
            refine aw_aload_n 5 dX9_likeOf_194 rfl rfl ?_
            refine aw_get fX9_44 dX9_likeOf_195 h88 rfl ?_
            refine aw_imul dX9_likeOf_198 ?_
            refine aw_iconst (5) dX9_likeOf_199 (by decide) ?_
            refine aw_iadd dX9_likeOf_200 ?_
            refine aw_icmp_le 206 dX9_likeOf_201 (by decide) (fun c201 => ?_) (fun c201 => ?_)
            · have d201 := (j_le (a := fv.toInt) (b := (((nI (max (ye a) (ye b) - min (ye a) (ye b))) * (nI fa)) + 5).toInt) (rfl) (rfl)).mp c201
              refine aw_iconst (1) dX9_likeOf_206 (by decide) ?_
              refine aw_bipush (10) dX9_likeOf_207 (by decide) ?_
              refine aw_iload 1 dX9_likeOf_209 rfl ?_
              refine aw_iload 0 dX9_likeOf_211 rfl ?_
              refine aw_iand dX9_likeOf_213 ?_
              refine aw_toe (nI (n1642 &&& n1643)) (nv_and (rfl) (rfl)) ?_
              refine aw_dS [.int (nI (n1642 &&& n1643))] [.int 10, .int 1] lX9_159 sX9_bitsOf mX9_bitsOf dX9_likeOf_214 (bX9_bitsOf (a := n1642 &&& n1643) (by omega)) rfl (Nat.le_of_ble_eq_true rfl) (by decide) (by decide) rfl ?_
              refine aw_imul dX9_likeOf_217 ?_
              refine aw_toe (nI (10 * (pcF 20 (n1642 &&& n1643)))) (nv_mul (rfl) (rfl)) ?_
              refine aw_iconst (2) dX9_likeOf_218 (by decide) ?_
              refine aw_iload 1 dX9_likeOf_219 rfl ?_
              refine aw_iload 0 dX9_likeOf_221 rfl ?_
              refine aw_ixor dX9_likeOf_223 ?_
              refine aw_toe (nI (n1642 ^^^ n1643)) (nv_xor (rfl) (rfl)) ?_
              refine aw_dS [.int (nI (n1642 ^^^ n1643))] [.int 2, .int (nI (10 * (pcF 20 (n1642 &&& n1643)))), .int 1] lX9_159 sX9_bitsOf mX9_bitsOf dX9_likeOf_224 (bX9_bitsOf (a := n1642 ^^^ n1643) (by omega)) rfl (Nat.le_of_ble_eq_true rfl) (by decide) (by decide) rfl ?_
              refine aw_imul dX9_likeOf_227 ?_
              refine aw_toe (nI (2 * (pcF 20 (n1642 ^^^ n1643)))) (nv_mul (rfl) (rfl)) ?_
              refine aw_isub dX9_likeOf_228 ?_
              refine aw_iload 2 dX9_likeOf_229 rfl ?_
              refine aw_isub dX9_likeOf_231 ?_
              refine aw_aload_n 5 dX9_likeOf_232 rfl rfl ?_
              refine aw_get fX9_28 dX9_likeOf_233 h88 rfl ?_
              refine aw_iload 4 dX9_likeOf_236 rfl ?_
              refine aw_iald ((a * 10) + i) (rfl) (by omega) (by decide) dX9_likeOf_238 h95 ?_
              refine aw_aload_n 5 dX9_likeOf_239 rfl rfl ?_
              refine aw_get fX9_28 dX9_likeOf_240 h88 rfl ?_
              refine aw_iload 3 dX9_likeOf_243 rfl ?_
              refine aw_iald ((b * 10) + k) (rfl) (by omega) (by decide) dX9_likeOf_245 h95 ?_
              refine aw_icmp_ne 254 dX9_likeOf_246 (by decide) (fun c246 => ?_) (fun c246 => ?_)
              · have d246 := mt (j_eq (a := (Ro ((a * 10) + i)).toInt) (b := (Ro ((b * 10) + k)).toInt) (rfl) (rfl)).mpr c246
                refine aw_iconst (0) dX9_likeOf_254 (by decide) ?_
                refine aw_iadd dX9_likeOf_255 ?_
                refine aw_mmax lX9_162 dX9_likeOf_256 (Nat.le_of_ble_eq_true rfl) (by decide) (by decide) ?_
                subst hQF
                exact aw_iret rfl dX9_likeOf_259 (by decide) (by decide) ⟨congrArg (fun z9 : Int32 => some (Value.int z9)) (lk_1 (S := fun j => snF (root m) (W j) 20) en1642 en1643 bn1642 bn1643 ev1641 (by rw [if_neg c246]) c149 c157 t168 (by rw [← hfv]; exact c173) (by have w9 : nI (max (ye a) (ye b) - min (ye a) (ye b)) * nI fa + 5 = nI (ynF ye fa a b) := ynF_e; rw [← w9, ← hfv]; exact Int32.not_lt.mpr c201)), rfl⟩
              · have d246 := (j_eq (a := (Ro ((a * 10) + i)).toInt) (b := (Ro ((b * 10) + k)).toInt) (rfl) (rfl)).mp c246
                refine aw_bipush (7) dX9_likeOf_249 (by decide) ?_
                refine aw_goto 255 dX9_likeOf_251 (by decide) ?_
                refine aw_iadd dX9_likeOf_255 ?_
                refine aw_mmax lX9_162 dX9_likeOf_256 (Nat.le_of_ble_eq_true rfl) (by decide) (by decide) ?_
                subst hQF
                exact aw_iret rfl dX9_likeOf_259 (by decide) (by decide) ⟨congrArg (fun z9 : Int32 => some (Value.int z9)) (lk_1 (S := fun j => snF (root m) (W j) 20) en1642 en1643 bn1642 bn1643 ev1641 (by rw [if_pos c246]) c149 c157 t168 (by rw [← hfv]; exact c173) (by have w9 : nI (max (ye a) (ye b) - min (ye a) (ye b)) * nI fa + 5 = nI (ynF ye fa a b) := ynF_e; rw [← w9, ← hfv]; exact Int32.not_lt.mpr c201)), rfl⟩
            · have d201 := mt (j_le (a := fv.toInt) (b := (((nI (max (ye a) (ye b) - min (ye a) (ye b))) * (nI fa)) + 5).toInt) (rfl) (rfl)).mpr c201
              refine aw_iconst (0) dX9_likeOf_204 (by decide) ?_
              subst hQF
              exact aw_iret rfl dX9_likeOf_205 (by decide) (by decide) ⟨congrArg (fun z9 : Int32 => some (Value.int z9)) (lk_0 (Or.inr (Or.inr (Or.inr (Or.inr (by have w9 : nI (max (ye a) (ye b) - min (ye a) (ye b)) * nI fa + 5 = nI (ynF ye fa a b) := ynF_e; rw [← w9, ← hfv]; exact Int32.not_le.mp c201)))))), rfl⟩
  refine aw_aload_n 5 dX9_likeOf_53 rfl rfl ?_
  refine aw_get fX9_16 dX9_likeOf_54 h88 rfl ?_
  refine aw_iload_n 6 dX9_likeOf_57 rfl rfl ?_
  refine aw_iald a (rfl) (by omega) (by decide) dX9_likeOf_58 h91 ?_
  refine aw_toe (nI (ye a)) (rfl) ?_
  have b1646 := hye a (by omega)
  refine aw_aload_n 5 dX9_likeOf_59 rfl rfl ?_
  refine aw_get fX9_16 dX9_likeOf_60 h88 rfl ?_
  refine aw_iload_n 8 dX9_likeOf_63 rfl rfl ?_
  refine aw_iald b (rfl) (by omega) (by decide) dX9_likeOf_64 h91 ?_
  refine aw_toe (nI (ye b)) (rfl) ?_
  have b1647 := hye b (by omega)
  refine aw_icmp_eq 91 dX9_likeOf_65 (by decide) (fun c65 => ?_) (fun c65 => ?_)
  · have d65 := (nv_eq (a := ye a) (b := ye b) (rfl) (rfl) (by omega) (by omega)).mp c65
    refine aw_iload_n 6 dX9_likeOf_91 rfl rfl ?_
    refine aw_iload_n 8 dX9_likeOf_92 rfl rfl ?_
    refine aw_icmp_ge 100 dX9_likeOf_93 (by decide) (fun c93 => ?_) (fun c93 => ?_)
    · have d93 := (nv_le (a := b) (b := a) (rfl) (rfl) (by omega) (by omega)).mp c93
      refine aw_iconst (0) dX9_likeOf_100 (by decide) ?_
      refine aw_istore [(10, .int 0), (9, .int (nI n1643)), (8, .int (nI n1642)), (7, .int v1641), (6, .int (nI ((b * 10) + k))), (5, .int (nI ((a * 10) + i))), (0, .ref (G.1 + 88)), (1, .int (nI a)), (2, .int (nI i)), (3, .int (nI b)), (4, .int (nI k))] dX9_likeOf_101 (by decide) rfl ?_
      refine aw_iload 0 dX9_likeOf_103 rfl ?_
      refine aw_if_eq 126 dX9_likeOf_105 (by decide) (fun c105 => ?_) (fun c105 => absurd (by decide) c105)
      refine aw_aload_n 6 dX9_likeOf_126 rfl rfl ?_
      refine aw_get fX9_31 dX9_likeOf_127 h88 rfl ?_
      refine aw_iload 4 dX9_likeOf_130 rfl ?_
      refine aw_iald ((b * 10) + k) (rfl) (by omega) (by decide) dX9_likeOf_132 h96 ?_
      refine aw_aload_n 6 dX9_likeOf_133 rfl rfl ?_
      refine aw_get fX9_31 dX9_likeOf_134 h88 rfl ?_
      refine aw_iload 5 dX9_likeOf_137 rfl ?_
      refine aw_iald ((a * 10) + i) (rfl) (by omega) (by decide) dX9_likeOf_139 h96 ?_
      refine aw_isub dX9_likeOf_140 ?_
      refine aw_istore [(11, .int ((Co ((b * 10) + k)) - (Co ((a * 10) + i)))), (10, .int 0), (9, .int (nI n1643)), (8, .int (nI n1642)), (7, .int v1641), (6, .int (nI ((b * 10) + k))), (5, .int (nI ((a * 10) + i))), (0, .ref (G.1 + 88)), (1, .int (nI a)), (2, .int (nI i)), (3, .int (nI b)), (4, .int (nI k))] dX9_likeOf_141 (by decide) rfl ?_
      refine aw_lv [(9, .int (nI n1643)), (8, .int (nI n1642)), (7, .int v1641), (6, .int (nI ((b * 10) + k))), (5, .int (nI ((a * 10) + i))), (0, .ref (G.1 + 88)), (1, .int (nI a)), (2, .int (nI i)), (3, .int (nI b)), (4, .int (nI k)), (10, .int 0), (11, .int ((Co ((b * 10) + k)) - (Co ((a * 10) + i))))] [2, 3, 4, 5, 6, 7, 8, 9, 10, 11, 1, 0] rfl ?_
      exact J1 0 ((Co ((b * 10) + k)) - (Co ((a * 10) + i))) (fl_f (by rw [if_pos d65]; omega))
    · have d93 := mt (nv_le (a := b) (b := a) (rfl) (rfl) (by omega) (by omega)).mpr c93
      refine aw_iconst (1) dX9_likeOf_96 (by decide) ?_
      refine aw_goto 101 dX9_likeOf_97 (by decide) ?_
      refine aw_istore [(10, .int 1), (9, .int (nI n1643)), (8, .int (nI n1642)), (7, .int v1641), (6, .int (nI ((b * 10) + k))), (5, .int (nI ((a * 10) + i))), (0, .ref (G.1 + 88)), (1, .int (nI a)), (2, .int (nI i)), (3, .int (nI b)), (4, .int (nI k))] dX9_likeOf_101 (by decide) rfl ?_
      refine aw_iload 0 dX9_likeOf_103 rfl ?_
      refine aw_if_eq 126 dX9_likeOf_105 (by decide) (fun c105 => absurd c105 (by decide)) (fun c105 => ?_)
      refine aw_aload_n 6 dX9_likeOf_108 rfl rfl ?_
      refine aw_get fX9_31 dX9_likeOf_109 h88 rfl ?_
      refine aw_iload 5 dX9_likeOf_112 rfl ?_
      refine aw_iald ((a * 10) + i) (rfl) (by omega) (by decide) dX9_likeOf_114 h96 ?_
      refine aw_aload_n 6 dX9_likeOf_115 rfl rfl ?_
      refine aw_get fX9_31 dX9_likeOf_116 h88 rfl ?_
      refine aw_iload 4 dX9_likeOf_119 rfl ?_
      refine aw_iald ((b * 10) + k) (rfl) (by omega) (by decide) dX9_likeOf_121 h96 ?_
      refine aw_isub dX9_likeOf_122 ?_
      refine aw_goto 141 dX9_likeOf_123 (by decide) ?_
      refine aw_istore [(11, .int ((Co ((a * 10) + i)) - (Co ((b * 10) + k)))), (10, .int 1), (9, .int (nI n1643)), (8, .int (nI n1642)), (7, .int v1641), (6, .int (nI ((b * 10) + k))), (5, .int (nI ((a * 10) + i))), (0, .ref (G.1 + 88)), (1, .int (nI a)), (2, .int (nI i)), (3, .int (nI b)), (4, .int (nI k))] dX9_likeOf_141 (by decide) rfl ?_
      refine aw_lv [(9, .int (nI n1643)), (8, .int (nI n1642)), (7, .int v1641), (6, .int (nI ((b * 10) + k))), (5, .int (nI ((a * 10) + i))), (0, .ref (G.1 + 88)), (1, .int (nI a)), (2, .int (nI i)), (3, .int (nI b)), (4, .int (nI k)), (10, .int 1), (11, .int ((Co ((a * 10) + i)) - (Co ((b * 10) + k))))] [2, 3, 4, 5, 6, 7, 8, 9, 10, 11, 1, 0] rfl ?_
      exact J1 1 ((Co ((a * 10) + i)) - (Co ((b * 10) + k))) (fl_t (by rw [if_pos d65]; omega))
  · have d65 := mt (nv_eq (a := ye a) (b := ye b) (rfl) (rfl) (by omega) (by omega)).mpr c65
    refine aw_aload_n 5 dX9_likeOf_68 rfl rfl ?_
    refine aw_get fX9_16 dX9_likeOf_69 h88 rfl ?_
    refine aw_iload_n 6 dX9_likeOf_72 rfl rfl ?_
    refine aw_iald a (rfl) (by omega) (by decide) dX9_likeOf_73 h91 ?_
    refine aw_toe (nI (ye a)) (rfl) ?_
    have b1648 := hye a (by omega)
    refine aw_aload_n 5 dX9_likeOf_74 rfl rfl ?_
    refine aw_get fX9_16 dX9_likeOf_75 h88 rfl ?_
    refine aw_iload_n 8 dX9_likeOf_78 rfl rfl ?_
    refine aw_iald b (rfl) (by omega) (by decide) dX9_likeOf_79 h91 ?_
    refine aw_toe (nI (ye b)) (rfl) ?_
    have b1649 := hye b (by omega)
    refine aw_icmp_ge 87 dX9_likeOf_80 (by decide) (fun c80 => ?_) (fun c80 => ?_)
    · have d80 := (nv_le (a := ye b) (b := ye a) (rfl) (rfl) (by omega) (by omega)).mp c80
      refine aw_iconst (0) dX9_likeOf_87 (by decide) ?_
      refine aw_goto 101 dX9_likeOf_88 (by decide) ?_
      refine aw_istore [(10, .int 0), (9, .int (nI n1643)), (8, .int (nI n1642)), (7, .int v1641), (6, .int (nI ((b * 10) + k))), (5, .int (nI ((a * 10) + i))), (0, .ref (G.1 + 88)), (1, .int (nI a)), (2, .int (nI i)), (3, .int (nI b)), (4, .int (nI k))] dX9_likeOf_101 (by decide) rfl ?_
      refine aw_iload 0 dX9_likeOf_103 rfl ?_
      refine aw_if_eq 126 dX9_likeOf_105 (by decide) (fun c105 => ?_) (fun c105 => absurd (by decide) c105)
      refine aw_aload_n 6 dX9_likeOf_126 rfl rfl ?_
      refine aw_get fX9_31 dX9_likeOf_127 h88 rfl ?_
      refine aw_iload 4 dX9_likeOf_130 rfl ?_
      refine aw_iald ((b * 10) + k) (rfl) (by omega) (by decide) dX9_likeOf_132 h96 ?_
      refine aw_aload_n 6 dX9_likeOf_133 rfl rfl ?_
      refine aw_get fX9_31 dX9_likeOf_134 h88 rfl ?_
      refine aw_iload 5 dX9_likeOf_137 rfl ?_
      refine aw_iald ((a * 10) + i) (rfl) (by omega) (by decide) dX9_likeOf_139 h96 ?_
      refine aw_isub dX9_likeOf_140 ?_
      refine aw_istore [(11, .int ((Co ((b * 10) + k)) - (Co ((a * 10) + i)))), (10, .int 0), (9, .int (nI n1643)), (8, .int (nI n1642)), (7, .int v1641), (6, .int (nI ((b * 10) + k))), (5, .int (nI ((a * 10) + i))), (0, .ref (G.1 + 88)), (1, .int (nI a)), (2, .int (nI i)), (3, .int (nI b)), (4, .int (nI k))] dX9_likeOf_141 (by decide) rfl ?_
      refine aw_lv [(9, .int (nI n1643)), (8, .int (nI n1642)), (7, .int v1641), (6, .int (nI ((b * 10) + k))), (5, .int (nI ((a * 10) + i))), (0, .ref (G.1 + 88)), (1, .int (nI a)), (2, .int (nI i)), (3, .int (nI b)), (4, .int (nI k)), (10, .int 0), (11, .int ((Co ((b * 10) + k)) - (Co ((a * 10) + i))))] [2, 3, 4, 5, 6, 7, 8, 9, 10, 11, 1, 0] rfl ?_
      exact J1 0 ((Co ((b * 10) + k)) - (Co ((a * 10) + i))) (fl_f (by rw [if_neg d65]; omega))
    · have d80 := mt (nv_le (a := ye b) (b := ye a) (rfl) (rfl) (by omega) (by omega)).mpr c80
      refine aw_iconst (1) dX9_likeOf_83 (by decide) ?_
      refine aw_goto 101 dX9_likeOf_84 (by decide) ?_
      refine aw_istore [(10, .int 1), (9, .int (nI n1643)), (8, .int (nI n1642)), (7, .int v1641), (6, .int (nI ((b * 10) + k))), (5, .int (nI ((a * 10) + i))), (0, .ref (G.1 + 88)), (1, .int (nI a)), (2, .int (nI i)), (3, .int (nI b)), (4, .int (nI k))] dX9_likeOf_101 (by decide) rfl ?_
      refine aw_iload 0 dX9_likeOf_103 rfl ?_
      refine aw_if_eq 126 dX9_likeOf_105 (by decide) (fun c105 => absurd c105 (by decide)) (fun c105 => ?_)
      refine aw_aload_n 6 dX9_likeOf_108 rfl rfl ?_
      refine aw_get fX9_31 dX9_likeOf_109 h88 rfl ?_
      refine aw_iload 5 dX9_likeOf_112 rfl ?_
      refine aw_iald ((a * 10) + i) (rfl) (by omega) (by decide) dX9_likeOf_114 h96 ?_
      refine aw_aload_n 6 dX9_likeOf_115 rfl rfl ?_
      refine aw_get fX9_31 dX9_likeOf_116 h88 rfl ?_
      refine aw_iload 4 dX9_likeOf_119 rfl ?_
      refine aw_iald ((b * 10) + k) (rfl) (by omega) (by decide) dX9_likeOf_121 h96 ?_
      refine aw_isub dX9_likeOf_122 ?_
      refine aw_goto 141 dX9_likeOf_123 (by decide) ?_
      refine aw_istore [(11, .int ((Co ((a * 10) + i)) - (Co ((b * 10) + k)))), (10, .int 1), (9, .int (nI n1643)), (8, .int (nI n1642)), (7, .int v1641), (6, .int (nI ((b * 10) + k))), (5, .int (nI ((a * 10) + i))), (0, .ref (G.1 + 88)), (1, .int (nI a)), (2, .int (nI i)), (3, .int (nI b)), (4, .int (nI k))] dX9_likeOf_141 (by decide) rfl ?_
      refine aw_lv [(9, .int (nI n1643)), (8, .int (nI n1642)), (7, .int v1641), (6, .int (nI ((b * 10) + k))), (5, .int (nI ((a * 10) + i))), (0, .ref (G.1 + 88)), (1, .int (nI a)), (2, .int (nI i)), (3, .int (nI b)), (4, .int (nI k)), (10, .int 1), (11, .int ((Co ((a * 10) + i)) - (Co ((b * 10) + k))))] [2, 3, 4, 5, 6, 7, 8, 9, 10, 11, 1, 0] rfl ?_
      exact J1 1 ((Co ((a * 10) + i)) - (Co ((b * 10) + k))) (fl_t (by rw [if_neg d65]; omega))
set_option maxHeartbeats 4000000 in
theorem oX9_like {l : Launch} {G : xG} {h : List va_E} {sp fa nb ns nm nv sh : Nat} {ho ow sl : Int32} {rg : Nat → Int32} {m ye b1 b2 : Nat → Nat} {W Z Ro Co : Nat → Int32} {fi : Nat → Nat} {a i b k : Int32} (h88 : h[88]? = some (oB 9 (lM G (nI sp) (nI fa) (nI nb) (nI ns) (nI nm) ho ow sl (nI nv) (nI sh)))) (h89 : h[89]? = some (aI 7 rg)) (h90 : h[90]? = some (aI 20 (nA m))) (h91 : h[91]? = some (aI 4 (nA ye))) (h93 : h[93]? = some (aI 40 W)) (h94 : h[94]? = some (aI 40 Z)) (h95 : h[95]? = some (aI 40 Ro)) (h96 : h[96]? = some (aI 40 Co)) (h97 : h[97]? = some (aI 30 (nA b1))) (h98 : h[98]? = some (aI 30 (nA b2))) (h92 : h[92]? = some (aI 4 (nA fi))) (hm : ∀ j, j < 20 → m j ≤ j) (hye : ∀ j, j < 4 → ye j < 1901) (hnb : nb ≤ 30) (bb1 : ∀ j, j < 30 → b1 j < 40) (bb2 : ∀ j, j < 30 → b2 j < 40) (hsp : sp ≤ 50) (hfd : fa ≤ 9) (hfi : ∀ j, j < 4 → fi j < 11) : CE l G yX9_like cX9_like 5 (some .int) 3 0 0 [.ref (G.1 + 88), .int a, .int i, .int b, .int k] h (some (.int (if (((0 ≤ a.toInt ∧ a.toInt < 4) ∧ 0 ≤ i.toInt ∧ i.toInt < (fi (tn a) : Int)) ∧ ((0 ≤ b.toInt ∧ b.toInt < 4) ∧ 0 ≤ k.toInt ∧ k.toInt < (fi (tn b) : Int)) ∧ a.toInt ≠ b.toInt) then (lkS ye (fun j => snF (root m) (W j) 20) Z Ro Co (brF b1 b2 ((tn a) * 10 + (tn i)) ((tn b) * 10 + (tn k)) nb = true) sp fa (tn a) (tn i) (tn b) (tn k)) else -1))) (fun h1 => ∃ rg1 : Nat → Int32, h1[89]? = some (aI 7 rg1) ∧ rng 89 89 h h1) := by
  refine cm_ofQ rfl (Nat.le_of_ble_eq_true rfl) [(0, .ref (G.1 + 88)), (1, .int a), (2, .int i), (3, .int b), (4, .int k)] rfl (fun QF hQF => ?_)
  refine aw_aload_n 0 dX9_like_0 rfl rfl ?_
  refine aw_iload_n 1 dX9_like_1 rfl rfl ?_
  refine aw_iload_n 2 dX9_like_2 rfl rfl ?_
  refine aw_dV [.int a, .int i] [] lX9_145 vX9_isEntry mX9_isEntry dX9_like_3 (bX9_isEntry (sp := sp) (fa := fa) (nb := nb) (ns := ns) (nm := nm) (nv := nv) (sh := sh) (ho := ho) (ow := ow) (sl := sl) (fi := fi) (c := a) (i := i) h88 h92 hfi) h88 rfl rfl rfl (Nat.le_of_ble_eq_true rfl) (by decide) (by decide) rfl ?_
  refine aw_if_eq 36 dX9_like_6 (by decide) (fun c6 => ?_) (fun c6 => ?_)
  · have t6 := ite_0 c6
    refine aw_aload_n 0 dX9_like_36 rfl rfl ?_
    refine aw_iconst (-1) dX9_like_37 (by decide) ?_
    refine aw_eV [.int (-1)] [] lX9_130 vX9_refuse mX9_refuse dX9_like_38 (bX9_refuse (sp := sp) (fa := fa) (nb := nb) (ns := ns) (nm := nm) (nv := nv) (sh := sh) (ho := ho) (ow := ow) (sl := sl) (rg := rg) (x := (-1)) (q := 1) h88 h89 (by decide) (by decide)) h88 rfl rfl rfl (Nat.le_of_ble_eq_true rfl) (by decide) (by decide) rfl (fun h1652 q1651 => ?_)
    obtain ⟨rg11650, f1653, k1654⟩ := q1651
    have f1655 := rng_at k1654 (by decide) h88
    have f1656 := rng_at k1654 (by decide) h90
    have f1657 := rng_at k1654 (by decide) h91
    have f1658 := rng_at k1654 (by decide) h93
    have f1659 := rng_at k1654 (by decide) h94
    have f1660 := rng_at k1654 (by decide) h95
    have f1661 := rng_at k1654 (by decide) h96
    have f1662 := rng_at k1654 (by decide) h97
    have f1663 := rng_at k1654 (by decide) h98
    have f1664 := rng_at k1654 (by decide) h92
    subst hQF
    exact aw_iret rfl dX9_like_41 (by decide) (by decide) ⟨by rw [if_neg (by omega)], _, f1653, rng_tr (rng_rf 89 89 h) (rng_w k1654 (by decide) (by decide))⟩
  · have t6 := ite_1 c6
    refine aw_aload_n 0 dX9_like_9 rfl rfl ?_
    refine aw_iload_n 3 dX9_like_10 rfl rfl ?_
    refine aw_iload 4 dX9_like_11 rfl ?_
    refine aw_dV [.int b, .int k] [] lX9_145 vX9_isEntry mX9_isEntry dX9_like_13 (bX9_isEntry (sp := sp) (fa := fa) (nb := nb) (ns := ns) (nm := nm) (nv := nv) (sh := sh) (ho := ho) (ow := ow) (sl := sl) (fi := fi) (c := b) (i := k) h88 h92 hfi) h88 rfl rfl rfl (Nat.le_of_ble_eq_true rfl) (by decide) (by decide) rfl ?_
    refine aw_if_eq 36 dX9_like_16 (by decide) (fun c16 => ?_) (fun c16 => ?_)
    · have t16 := ite_0 c16
      refine aw_aload_n 0 dX9_like_36 rfl rfl ?_
      refine aw_iconst (-1) dX9_like_37 (by decide) ?_
      refine aw_eV [.int (-1)] [] lX9_130 vX9_refuse mX9_refuse dX9_like_38 (bX9_refuse (sp := sp) (fa := fa) (nb := nb) (ns := ns) (nm := nm) (nv := nv) (sh := sh) (ho := ho) (ow := ow) (sl := sl) (rg := rg) (x := (-1)) (q := 1) h88 h89 (by decide) (by decide)) h88 rfl rfl rfl (Nat.le_of_ble_eq_true rfl) (by decide) (by decide) rfl (fun h1667 q1666 => ?_)
      obtain ⟨rg11665, f1668, k1669⟩ := q1666
      have f1670 := rng_at k1669 (by decide) h88
      have f1671 := rng_at k1669 (by decide) h90
      have f1672 := rng_at k1669 (by decide) h91
      have f1673 := rng_at k1669 (by decide) h93
      have f1674 := rng_at k1669 (by decide) h94
      have f1675 := rng_at k1669 (by decide) h95
      have f1676 := rng_at k1669 (by decide) h96
      have f1677 := rng_at k1669 (by decide) h97
      have f1678 := rng_at k1669 (by decide) h98
      have f1679 := rng_at k1669 (by decide) h92
      subst hQF
      exact aw_iret rfl dX9_like_41 (by decide) (by decide) ⟨by rw [if_neg (by omega)], _, f1668, rng_tr (rng_rf 89 89 h) (rng_w k1669 (by decide) (by decide))⟩
    · have t16 := ite_1 c16
      refine aw_iload_n 1 dX9_like_19 rfl rfl ?_
      refine aw_iload_n 3 dX9_like_20 rfl rfl ?_
      refine aw_icmp_eq 36 dX9_like_21 (by decide) (fun c21 => ?_) (fun c21 => ?_)
      · have d21 := (j_eq (a := a.toInt) (b := b.toInt) (rfl) (rfl)).mp c21
        refine aw_aload_n 0 dX9_like_36 rfl rfl ?_
        refine aw_iconst (-1) dX9_like_37 (by decide) ?_
        refine aw_eV [.int (-1)] [] lX9_130 vX9_refuse mX9_refuse dX9_like_38 (bX9_refuse (sp := sp) (fa := fa) (nb := nb) (ns := ns) (nm := nm) (nv := nv) (sh := sh) (ho := ho) (ow := ow) (sl := sl) (rg := rg) (x := (-1)) (q := 1) h88 h89 (by decide) (by decide)) h88 rfl rfl rfl (Nat.le_of_ble_eq_true rfl) (by decide) (by decide) rfl (fun h1682 q1681 => ?_)
        obtain ⟨rg11680, f1683, k1684⟩ := q1681
        have f1685 := rng_at k1684 (by decide) h88
        have f1686 := rng_at k1684 (by decide) h90
        have f1687 := rng_at k1684 (by decide) h91
        have f1688 := rng_at k1684 (by decide) h93
        have f1689 := rng_at k1684 (by decide) h94
        have f1690 := rng_at k1684 (by decide) h95
        have f1691 := rng_at k1684 (by decide) h96
        have f1692 := rng_at k1684 (by decide) h97
        have f1693 := rng_at k1684 (by decide) h98
        have f1694 := rng_at k1684 (by decide) h92
        subst hQF
        exact aw_iret rfl dX9_like_41 (by decide) (by decide) ⟨by rw [if_neg (by omega)], _, f1683, rng_tr (rng_rf 89 89 h) (rng_w k1684 (by decide) (by decide))⟩
      · have d21 := mt (j_eq (a := a.toInt) (b := b.toInt) (rfl) (rfl)).mpr c21
        have fa0 := hfi (tn a) (by unfold tn; omega)
        have fb0 := hfi (tn b) (by unfold tn; omega)
        obtain ⟨a0, bb_a0, ee_a0⟩ := i_nat (x := a) (N := 4) (by omega) (by omega)
        subst ee_a0
        have tt_a0 : (nI a0).toInt = (a0 : Int) := nI_toInt (by omega)
        have nn_a0 : tn (nI a0) = a0 := tn_nI (by omega)
        obtain ⟨b0, bb_b0, ee_b0⟩ := i_nat (x := b) (N := 4) (by omega) (by omega)
        subst ee_b0
        have tt_b0 : (nI b0).toInt = (b0 : Int) := nI_toInt (by omega)
        have nn_b0 : tn (nI b0) = b0 := tn_nI (by omega)
        rw [nn_a0] at t6 fa0
        rw [nn_b0] at t16 fb0
        obtain ⟨i0, bb_i0, ee_i0⟩ := i_nat (x := i) (N := 10) (by omega) (by omega)
        subst ee_i0
        have tt_i0 : (nI i0).toInt = (i0 : Int) := nI_toInt (by omega)
        have nn_i0 : tn (nI i0) = i0 := tn_nI (by omega)
        obtain ⟨k0, bb_k0, ee_k0⟩ := i_nat (x := k) (N := 10) (by omega) (by omega)
        subst ee_k0
        have tt_k0 : (nI k0).toInt = (k0 : Int) := nI_toInt (by omega)
        have nn_k0 : tn (nI k0) = k0 := tn_nI (by omega)
        refine aw_aload_n 0 dX9_like_24 rfl rfl ?_
        refine aw_iload_n 1 dX9_like_25 rfl rfl ?_
        refine aw_iload_n 2 dX9_like_26 rfl rfl ?_
        refine aw_iload_n 3 dX9_like_27 rfl rfl ?_
        refine aw_iload 4 dX9_like_28 rfl ?_
        refine aw_dV [.int (nI a0), .int (nI i0), .int (nI b0), .int (nI k0)] [] lX9_166 vX9_likeOf mX9_likeOf dX9_like_30 (bX9_likeOf (sp := sp) (fa := fa) (nb := nb) (ns := ns) (nm := nm) (nv := nv) (sh := sh) (ho := ho) (ow := ow) (sl := sl) (m := m) (ye := ye) (b1 := b1) (b2 := b2) (W := W) (Z := Z) (Ro := Ro) (Co := Co) (a := a0) (i := i0) (b := b0) (k := k0) h88 h90 h91 h93 h94 h95 h96 h97 h98 hm hye (by omega) bb1 bb2 (by omega) (by omega) (by omega) (by omega) (by omega) (by omega)) h88 rfl rfl rfl (Nat.le_of_ble_eq_true rfl) (by decide) (by decide) rfl ?_
        refine aw_goto 41 dX9_like_33 (by decide) ?_
        subst hQF
        exact aw_iret rfl dX9_like_41 (by decide) (by decide) ⟨by rw [nn_a0, nn_b0, nn_i0, nn_k0, if_pos (by omega)], _, h89, rng_rf 89 89 h⟩
