set_option maxHeartbeats 4000000 in
theorem oX8_entry {l : Launch} {G : xG} {h : List va_E} {jv bv : Value} {rf : Nat → Int32} {m se ye fi : Nat → Nat} {W Sn Z Ro Co : Nat → Int32} {Ba : Nat → Int64} {nb sp fa ve : Nat} {c w s r u : Int32} (h0 : h[0]? = some (oB 8 (lX G (jv) (bv)))) (h87 : h[87]? = some (aI 7 rf)) (h1 : h[1]? = some (oB 1 (lC G (nI nb) (nI sp) (nI fa) (nI ve)))) (h2 : h[2]? = some (aI 20 (nA m))) (h3 : h[3]? = some (aI 20 (nA se))) (h4 : h[4]? = some (aI 4 (nA ye))) (h5 : h[5]? = some (aI 4 (nA fi))) (h6 : h[6]? = some (aI 40 W)) (h7 : h[7]? = some (aI 40 Sn)) (h8 : h[8]? = some (aI 40 Z)) (h9 : h[9]? = some (aI 40 Ro)) (h10 : h[10]? = some (aI 40 Co)) (h11 : h[11]? = some (aL 40 Ba)) (hm : ∀ j, j < 20 → m j ≤ j) (hse : ∀ j, j < 20 → se j < 20) (hfi : ∀ j, j < 4 → fi j < 11) (hye : ∀ j, j < 4 → ye j < 1901) : CE l G yX8_entry cX8_entry 6 (some .int) 2 0 0 [.ref (G.1 + 0), .int c, .int w, .int s, .int r, .int u] h (some (.int (spEntryC fi c w s r u))) (fun h1 => ∃ ve1 : Nat, ∃ rf1 : Nat → Int32, h1[1]? = some (oB 1 (lC G (nI nb) (nI sp) (nI fa) (nI ve1))) ∧ h1[2]? = some (aI 20 (nA m)) ∧ h1[3]? = some (aI 20 (nA se)) ∧ h1[4]? = some (aI 4 (nA ye)) ∧ h1[5]? = some (aI 4 (nA (spUn (0 ≤ (spEntryC fi c w s r u).toInt) fi (tn c) (fi (tn c) + 1)))) ∧ h1[6]? = some (aI 40 (spUp fi c (0 ≤ (spEntryC fi c w s r u).toInt) W w)) ∧ h1[7]? = some (aI 40 (spUp fi c (0 ≤ (spEntryC fi c w s r u).toInt) Sn (snF se w 20))) ∧ h1[8]? = some (aI 40 (spUp fi c (0 ≤ (spEntryC fi c w s r u).toInt) Z s)) ∧ h1[9]? = some (aI 40 (spUp fi c (0 ≤ (spEntryC fi c w s r u).toInt) Ro r)) ∧ h1[10]? = some (aI 40 (spUp fi c (0 ≤ (spEntryC fi c w s r u).toInt) Co u)) ∧ h1[11]? = some (aL 40 Ba) ∧ h1[87]? = some (aI 7 rf1) ∧ rg2 1 11 87 87 h h1 ∧ (ve1 = ve + 1 ∨ (ve1 = ve ∧ ¬ (0 ≤ (spEntryC fi c w s r u).toInt)))) := by
  refine cm_ofQ rfl (Nat.le_of_ble_eq_true rfl) [(0, .ref (G.1 + 0)), (1, .int c), (2, .int w), (3, .int s), (4, .int r), (5, .int u)] rfl (fun QF hQF => ?_)
  refine aw_iload_n 1 dX8_entry_0 rfl rfl ?_
  refine aw_dS [.int c] [] lX8_81 sX8_isCatalogue mX8_isCatalogue dX8_entry_1 (bX8_isCatalogue (x := c) ) rfl (Nat.le_of_ble_eq_true rfl) (by decide) (by decide) rfl ?_
  refine aw_if_eq 16 dX8_entry_4 (by decide) (fun c4 => ?_) (fun c4 => ?_)
  · have t4 := ite_0 c4
    refine aw_aload_n 0 dX8_entry_16 rfl rfl ?_
    refine aw_iconst (-1) dX8_entry_17 (by decide) ?_
    refine aw_eV [.int (-1)] [] lX8_70 vX8_refuse mX8_refuse dX8_entry_18 (bX8_refuse (jv := jv) (bv := bv) (rf := rf) (x := (-1)) (q := 1) h0 h87 (by decide) (by decide)) h0 rfl rfl rfl (Nat.le_of_ble_eq_true rfl) (by decide) (by decide) rfl (fun h204 q203 => ?_)
    obtain ⟨rf1202, f205, k206⟩ := q203
    have f207 := rng_at k206 (by decide) h0
    have f208 := rng_at k206 (by decide) h1
    have f209 := rng_at k206 (by decide) h2
    have f210 := rng_at k206 (by decide) h3
    have f211 := rng_at k206 (by decide) h4
    have f212 := rng_at k206 (by decide) h5
    have f213 := rng_at k206 (by decide) h6
    have f214 := rng_at k206 (by decide) h7
    have f215 := rng_at k206 (by decide) h8
    have f216 := rng_at k206 (by decide) h9
    have f217 := rng_at k206 (by decide) h10
    have f218 := rng_at k206 (by decide) h11
    subst hQF
    have eS : (spEntryC fi c w s r u) = (-1) := by unfold spEntryC; (repeat' split) <;> first | (exfalso; omega) | rfl
    have ok9 : ¬ 0 ≤ (spEntryC fi c w s r u).toInt := by rw [eS]; decide
    exact aw_iret rfl dX8_entry_21 (by decide) (by decide) ⟨by rw [eS], _, _, f208, f209, f210, f211, by rw [spUn_n ok9]; exact f212, by rw [spUp_n ok9]; exact f213, by rw [spUp_n ok9]; exact f214, by rw [spUp_n ok9]; exact f215, by rw [spUp_n ok9]; exact f216, by rw [spUp_n ok9]; exact f217, f218, f205, rg2_tr (rg2_rf 1 11 87 87 h) (rg2_w k206 (by decide)), Or.inr ⟨rfl, ok9⟩⟩
  · have t4 := ite_1 c4
    refine aw_iload_n 2 dX8_entry_7 rfl rfl ?_
    refine aw_bipush (20) dX8_entry_8 (by decide) ?_
    refine aw_dS [.int w, .int 20] [] lX8_87 sX8_hasOtherBits mX8_hasOtherBits dX8_entry_10 (bX8_hasOtherBits20 (x := w) ) rfl (Nat.le_of_ble_eq_true rfl) (by decide) (by decide) rfl ?_
    refine aw_if_eq 22 dX8_entry_13 (by decide) (fun c13 => ?_) (fun c13 => ?_)
    · have t13 := ite_0 c13
      refine aw_iload_n 2 dX8_entry_22 rfl rfl ?_
      refine aw_if_eq 41 dX8_entry_23 (by decide) (fun c23 => ?_) (fun c23 => ?_)
      · have d23 := (j_eq (a := w.toInt) (b := (0)) (rfl) (rfl)).mp c23
        refine aw_aload_n 0 dX8_entry_41 rfl rfl ?_
        refine aw_bipush (-4) dX8_entry_42 (by decide) ?_
        refine aw_eV [.int (-4)] [] lX8_70 vX8_refuse mX8_refuse dX8_entry_44 (bX8_refuse (jv := jv) (bv := bv) (rf := rf) (x := (-4)) (q := 4) h0 h87 (by decide) (by decide)) h0 rfl rfl rfl (Nat.le_of_ble_eq_true rfl) (by decide) (by decide) rfl (fun h221 q220 => ?_)
        obtain ⟨rf1219, f222, k223⟩ := q220
        have f224 := rng_at k223 (by decide) h0
        have f225 := rng_at k223 (by decide) h1
        have f226 := rng_at k223 (by decide) h2
        have f227 := rng_at k223 (by decide) h3
        have f228 := rng_at k223 (by decide) h4
        have f229 := rng_at k223 (by decide) h5
        have f230 := rng_at k223 (by decide) h6
        have f231 := rng_at k223 (by decide) h7
        have f232 := rng_at k223 (by decide) h8
        have f233 := rng_at k223 (by decide) h9
        have f234 := rng_at k223 (by decide) h10
        have f235 := rng_at k223 (by decide) h11
        subst hQF
        have eS : (spEntryC fi c w s r u) = (-4) := by unfold spEntryC; (repeat' split) <;> first | (exfalso; omega) | rfl
        have ok9 : ¬ 0 ≤ (spEntryC fi c w s r u).toInt := by rw [eS]; decide
        exact aw_iret rfl dX8_entry_47 (by decide) (by decide) ⟨by rw [eS], _, _, f225, f226, f227, f228, by rw [spUn_n ok9]; exact f229, by rw [spUp_n ok9]; exact f230, by rw [spUp_n ok9]; exact f231, by rw [spUp_n ok9]; exact f232, by rw [spUp_n ok9]; exact f233, by rw [spUp_n ok9]; exact f234, f235, f222, rg2_tr (rg2_rf 1 11 87 87 h) (rg2_w k223 (by decide)), Or.inr ⟨rfl, ok9⟩⟩
      · have d23 := mt (j_eq (a := w.toInt) (b := (0)) (rfl) (rfl)).mpr c23
        refine aw_iload_n 3 dX8_entry_26 rfl rfl ?_
        refine aw_iconst (1) dX8_entry_27 (by decide) ?_
        refine aw_icmp_lt 41 dX8_entry_28 (by decide) (fun c28 => ?_) (fun c28 => ?_)
        · have d28 := (j_lt (a := s.toInt) (b := (1)) (rfl) (rfl)).mp c28
          refine aw_aload_n 0 dX8_entry_41 rfl rfl ?_
          refine aw_bipush (-4) dX8_entry_42 (by decide) ?_
          refine aw_eV [.int (-4)] [] lX8_70 vX8_refuse mX8_refuse dX8_entry_44 (bX8_refuse (jv := jv) (bv := bv) (rf := rf) (x := (-4)) (q := 4) h0 h87 (by decide) (by decide)) h0 rfl rfl rfl (Nat.le_of_ble_eq_true rfl) (by decide) (by decide) rfl (fun h238 q237 => ?_)
          obtain ⟨rf1236, f239, k240⟩ := q237
          have f241 := rng_at k240 (by decide) h0
          have f242 := rng_at k240 (by decide) h1
          have f243 := rng_at k240 (by decide) h2
          have f244 := rng_at k240 (by decide) h3
          have f245 := rng_at k240 (by decide) h4
          have f246 := rng_at k240 (by decide) h5
          have f247 := rng_at k240 (by decide) h6
          have f248 := rng_at k240 (by decide) h7
          have f249 := rng_at k240 (by decide) h8
          have f250 := rng_at k240 (by decide) h9
          have f251 := rng_at k240 (by decide) h10
          have f252 := rng_at k240 (by decide) h11
          subst hQF
          have eS : (spEntryC fi c w s r u) = (-4) := by unfold spEntryC; (repeat' split) <;> first | (exfalso; omega) | rfl
          have ok9 : ¬ 0 ≤ (spEntryC fi c w s r u).toInt := by rw [eS]; decide
          exact aw_iret rfl dX8_entry_47 (by decide) (by decide) ⟨by rw [eS], _, _, f242, f243, f244, f245, by rw [spUn_n ok9]; exact f246, by rw [spUp_n ok9]; exact f247, by rw [spUp_n ok9]; exact f248, by rw [spUp_n ok9]; exact f249, by rw [spUp_n ok9]; exact f250, by rw [spUp_n ok9]; exact f251, f252, f239, rg2_tr (rg2_rf 1 11 87 87 h) (rg2_w k240 (by decide)), Or.inr ⟨rfl, ok9⟩⟩
        · have d28 := mt (j_lt (a := s.toInt) (b := (1)) (rfl) (rfl)).mpr c28
          refine aw_iload 4 dX8_entry_31 rfl ?_
          refine aw_if_lt 41 dX8_entry_33 (by decide) (fun c33 => ?_) (fun c33 => ?_)
          · have d33 := (j_lt (a := r.toInt) (b := (0)) (rfl) (rfl)).mp c33
            refine aw_aload_n 0 dX8_entry_41 rfl rfl ?_
            refine aw_bipush (-4) dX8_entry_42 (by decide) ?_
            refine aw_eV [.int (-4)] [] lX8_70 vX8_refuse mX8_refuse dX8_entry_44 (bX8_refuse (jv := jv) (bv := bv) (rf := rf) (x := (-4)) (q := 4) h0 h87 (by decide) (by decide)) h0 rfl rfl rfl (Nat.le_of_ble_eq_true rfl) (by decide) (by decide) rfl (fun h255 q254 => ?_)
            obtain ⟨rf1253, f256, k257⟩ := q254
            have f258 := rng_at k257 (by decide) h0
            have f259 := rng_at k257 (by decide) h1
            have f260 := rng_at k257 (by decide) h2
            have f261 := rng_at k257 (by decide) h3
            have f262 := rng_at k257 (by decide) h4
            have f263 := rng_at k257 (by decide) h5
            have f264 := rng_at k257 (by decide) h6
            have f265 := rng_at k257 (by decide) h7
            have f266 := rng_at k257 (by decide) h8
            have f267 := rng_at k257 (by decide) h9
            have f268 := rng_at k257 (by decide) h10
            have f269 := rng_at k257 (by decide) h11
            subst hQF
            have eS : (spEntryC fi c w s r u) = (-4) := by unfold spEntryC; (repeat' split) <;> first | (exfalso; omega) | rfl
            have ok9 : ¬ 0 ≤ (spEntryC fi c w s r u).toInt := by rw [eS]; decide
            exact aw_iret rfl dX8_entry_47 (by decide) (by decide) ⟨by rw [eS], _, _, f259, f260, f261, f262, by rw [spUn_n ok9]; exact f263, by rw [spUp_n ok9]; exact f264, by rw [spUp_n ok9]; exact f265, by rw [spUp_n ok9]; exact f266, by rw [spUp_n ok9]; exact f267, by rw [spUp_n ok9]; exact f268, f269, f256, rg2_tr (rg2_rf 1 11 87 87 h) (rg2_w k257 (by decide)), Or.inr ⟨rfl, ok9⟩⟩
          · have d33 := mt (j_lt (a := r.toInt) (b := (0)) (rfl) (rfl)).mpr c33
            refine aw_iload 5 dX8_entry_36 rfl ?_
            refine aw_if_ge 48 dX8_entry_38 (by decide) (fun c38 => ?_) (fun c38 => ?_)
            · have d38 := (j_le (a := (0)) (b := u.toInt) (rfl) (rfl)).mp c38
              obtain ⟨a, bb_a, ee_a⟩ := i_nat (x := c) (N := 4) (by omega) (by omega)
              subst ee_a
              have tt_a : (nI a).toInt = (a : Int) := nI_toInt (by omega)
              have nn_a : tn (nI a) = a := tn_nI (by omega)
              refine aw_iload_n 3 dX8_entry_48 rfl rfl ?_
              refine aw_sipush (200) dX8_entry_49 (by decide) ?_
              refine aw_icmp_gt 83 dX8_entry_52 (by decide) (fun c52 => ?_) (fun c52 => ?_)
              · have d52 := (j_lt (a := (200)) (b := s.toInt) (rfl) (rfl)).mp c52
                refine aw_aload_n 0 dX8_entry_83 rfl rfl ?_
                refine aw_bipush (-6) dX8_entry_84 (by decide) ?_
                refine aw_eV [.int (-6)] [] lX8_70 vX8_refuse mX8_refuse dX8_entry_86 (bX8_refuse (jv := jv) (bv := bv) (rf := rf) (x := (-6)) (q := 6) h0 h87 (by decide) (by decide)) h0 rfl rfl rfl (Nat.le_of_ble_eq_true rfl) (by decide) (by decide) rfl (fun h272 q271 => ?_)
                obtain ⟨rf1270, f273, k274⟩ := q271
                have f275 := rng_at k274 (by decide) h0
                have f276 := rng_at k274 (by decide) h1
                have f277 := rng_at k274 (by decide) h2
                have f278 := rng_at k274 (by decide) h3
                have f279 := rng_at k274 (by decide) h4
                have f280 := rng_at k274 (by decide) h5
                have f281 := rng_at k274 (by decide) h6
                have f282 := rng_at k274 (by decide) h7
                have f283 := rng_at k274 (by decide) h8
                have f284 := rng_at k274 (by decide) h9
                have f285 := rng_at k274 (by decide) h10
                have f286 := rng_at k274 (by decide) h11
                subst hQF
                have eS : (spEntryC fi (nI a) w s r u) = (-6) := by unfold spEntryC; simp only [nn_a]; (repeat' split) <;> first | (exfalso; omega) | rfl
                have ok9 : ¬ 0 ≤ (spEntryC fi (nI a) w s r u).toInt := by rw [eS]; decide
                exact aw_iret rfl dX8_entry_89 (by decide) (by decide) ⟨by rw [eS], _, _, f276, f277, f278, f279, by rw [spUn_n ok9]; exact f280, by rw [spUp_n ok9]; exact f281, by rw [spUp_n ok9]; exact f282, by rw [spUp_n ok9]; exact f283, by rw [spUp_n ok9]; exact f284, by rw [spUp_n ok9]; exact f285, f286, f273, rg2_tr (rg2_rf 1 11 87 87 h) (rg2_w k274 (by decide)), Or.inr ⟨rfl, ok9⟩⟩
              · have d52 := mt (j_lt (a := (200)) (b := s.toInt) (rfl) (rfl)).mpr c52
                refine aw_iload 4 dX8_entry_55 rfl ?_
                refine aw_bipush (9) dX8_entry_57 (by decide) ?_
                refine aw_icmp_gt 83 dX8_entry_59 (by decide) (fun c59 => ?_) (fun c59 => ?_)
                · have d59 := (j_lt (a := (9)) (b := r.toInt) (rfl) (rfl)).mp c59
                  refine aw_aload_n 0 dX8_entry_83 rfl rfl ?_
                  refine aw_bipush (-6) dX8_entry_84 (by decide) ?_
                  refine aw_eV [.int (-6)] [] lX8_70 vX8_refuse mX8_refuse dX8_entry_86 (bX8_refuse (jv := jv) (bv := bv) (rf := rf) (x := (-6)) (q := 6) h0 h87 (by decide) (by decide)) h0 rfl rfl rfl (Nat.le_of_ble_eq_true rfl) (by decide) (by decide) rfl (fun h289 q288 => ?_)
                  obtain ⟨rf1287, f290, k291⟩ := q288
                  have f292 := rng_at k291 (by decide) h0
                  have f293 := rng_at k291 (by decide) h1
                  have f294 := rng_at k291 (by decide) h2
                  have f295 := rng_at k291 (by decide) h3
                  have f296 := rng_at k291 (by decide) h4
                  have f297 := rng_at k291 (by decide) h5
                  have f298 := rng_at k291 (by decide) h6
                  have f299 := rng_at k291 (by decide) h7
                  have f300 := rng_at k291 (by decide) h8
                  have f301 := rng_at k291 (by decide) h9
                  have f302 := rng_at k291 (by decide) h10
                  have f303 := rng_at k291 (by decide) h11
                  subst hQF
                  have eS : (spEntryC fi (nI a) w s r u) = (-6) := by unfold spEntryC; simp only [nn_a]; (repeat' split) <;> first | (exfalso; omega) | rfl
                  have ok9 : ¬ 0 ≤ (spEntryC fi (nI a) w s r u).toInt := by rw [eS]; decide
                  exact aw_iret rfl dX8_entry_89 (by decide) (by decide) ⟨by rw [eS], _, _, f293, f294, f295, f296, by rw [spUn_n ok9]; exact f297, by rw [spUp_n ok9]; exact f298, by rw [spUp_n ok9]; exact f299, by rw [spUp_n ok9]; exact f300, by rw [spUp_n ok9]; exact f301, by rw [spUp_n ok9]; exact f302, f303, f290, rg2_tr (rg2_rf 1 11 87 87 h) (rg2_w k291 (by decide)), Or.inr ⟨rfl, ok9⟩⟩
                · have d59 := mt (j_lt (a := (9)) (b := r.toInt) (rfl) (rfl)).mpr c59
                  refine aw_iload 5 dX8_entry_62 rfl ?_
                  refine aw_bipush (99) dX8_entry_64 (by decide) ?_
                  refine aw_icmp_gt 83 dX8_entry_66 (by decide) (fun c66 => ?_) (fun c66 => ?_)
                  · have d66 := (j_lt (a := (99)) (b := u.toInt) (rfl) (rfl)).mp c66
                    refine aw_aload_n 0 dX8_entry_83 rfl rfl ?_
                    refine aw_bipush (-6) dX8_entry_84 (by decide) ?_
                    refine aw_eV [.int (-6)] [] lX8_70 vX8_refuse mX8_refuse dX8_entry_86 (bX8_refuse (jv := jv) (bv := bv) (rf := rf) (x := (-6)) (q := 6) h0 h87 (by decide) (by decide)) h0 rfl rfl rfl (Nat.le_of_ble_eq_true rfl) (by decide) (by decide) rfl (fun h306 q305 => ?_)
                    obtain ⟨rf1304, f307, k308⟩ := q305
                    have f309 := rng_at k308 (by decide) h0
                    have f310 := rng_at k308 (by decide) h1
                    have f311 := rng_at k308 (by decide) h2
                    have f312 := rng_at k308 (by decide) h3
                    have f313 := rng_at k308 (by decide) h4
                    have f314 := rng_at k308 (by decide) h5
                    have f315 := rng_at k308 (by decide) h6
                    have f316 := rng_at k308 (by decide) h7
                    have f317 := rng_at k308 (by decide) h8
                    have f318 := rng_at k308 (by decide) h9
                    have f319 := rng_at k308 (by decide) h10
                    have f320 := rng_at k308 (by decide) h11
                    subst hQF
                    have eS : (spEntryC fi (nI a) w s r u) = (-6) := by unfold spEntryC; simp only [nn_a]; (repeat' split) <;> first | (exfalso; omega) | rfl
                    have ok9 : ¬ 0 ≤ (spEntryC fi (nI a) w s r u).toInt := by rw [eS]; decide
                    exact aw_iret rfl dX8_entry_89 (by decide) (by decide) ⟨by rw [eS], _, _, f310, f311, f312, f313, by rw [spUn_n ok9]; exact f314, by rw [spUp_n ok9]; exact f315, by rw [spUp_n ok9]; exact f316, by rw [spUp_n ok9]; exact f317, by rw [spUp_n ok9]; exact f318, by rw [spUp_n ok9]; exact f319, f320, f307, rg2_tr (rg2_rf 1 11 87 87 h) (rg2_w k308 (by decide)), Or.inr ⟨rfl, ok9⟩⟩
                  · have d66 := mt (j_lt (a := (99)) (b := u.toInt) (rfl) (rfl)).mpr c66
                    refine aw_aload_n 0 dX8_entry_69 rfl rfl ?_
                    refine aw_get fX8_20 dX8_entry_70 h0 rfl ?_
                    refine aw_get fX8_91 dX8_entry_73 h1 rfl ?_
                    refine aw_iload_n 1 dX8_entry_76 rfl rfl ?_
                    refine aw_iald a (rfl) (by omega) (by decide) dX8_entry_77 h5 ?_
                    refine aw_toe (nI (fi a)) (rfl) ?_
                    have b321 := hfi a (by omega)
                    refine aw_bipush (10) dX8_entry_78 (by decide) ?_
                    refine aw_icmp_lt 90 dX8_entry_80 (by decide) (fun c80 => ?_) (fun c80 => ?_)
                    · have d80 := (nv_lt (a := fi a) (b := 10) (rfl) (rfl) (by omega) (by omega)).mp c80
                      refine aw_aload_n 0 dX8_entry_90 rfl rfl ?_
                      refine aw_get fX8_20 dX8_entry_91 h0 rfl ?_
                      refine aw_iload_n 1 dX8_entry_94 rfl rfl ?_
                      refine aw_iload_n 2 dX8_entry_95 rfl rfl ?_
                      refine aw_iload_n 3 dX8_entry_96 rfl rfl ?_
                      refine aw_iload 4 dX8_entry_97 rfl ?_
                      refine aw_iload 5 dX8_entry_99 rfl ?_
                      refine aw_eV [.int (nI a), .int w, .int s, .int r, .int u] [] lX8_94 vX1_addEntry mX1_addEntry dX8_entry_101 (aX1_addEntry (m := m) (se := se) (ye := ye) (fi := fi) (W := W) (Sn := Sn) (Z := Z) (Ro := Ro) (Co := Co) (Ba := Ba) (nb := nb) (sp := sp) (fa := fa) (ve := ve) (c := a) (w := w) (s := s) (r := r) (u := u) h1 h2 h3 h4 h5 h6 h7 h8 h9 h10 h11 (by omega) (by omega)) h1 rfl rfl rfl (Nat.le_of_ble_eq_true rfl) (by decide) (by decide) rfl (fun h323 q322 => ?_)
                      obtain ⟨f324, f325, f326, f327, f328, f329, f330, f331, f332, f333, f334, k335⟩ := q322
                      have f336 := rng_at k335 (by decide) h0
                      have f337 := rng_at k335 (by decide) h87
                      subst hQF
                      have eS : (spEntryC fi (nI a) w s r u) = (nI (fi a)) := by unfold spEntryC; simp only [nn_a]; (repeat' split) <;> first | (exfalso; omega) | rfl
                      have ok9 : 0 ≤ (spEntryC fi (nI a) w s r u).toInt := by rw [eS, nI_toInt (by omega)]; omega
                      exact aw_iret rfl dX8_entry_104 (by decide) (by decide) ⟨by rw [eS], _, _, f324, f325, f326, f327, by rw [spUn_y ok9, nn_a]; exact f328, by rw [spUp_y ok9, nn_a]; exact f329, by rw [spUp_y ok9, nn_a]; exact f330, by rw [spUp_y ok9, nn_a]; exact f331, by rw [spUp_y ok9, nn_a]; exact f332, by rw [spUp_y ok9, nn_a]; exact f333, f334, f337, rg2_tr (rg2_rf 1 11 87 87 h) (rg2_w k335 (by decide)), Or.inl rfl⟩
                    · have d80 := mt (nv_lt (a := fi a) (b := 10) (rfl) (rfl) (by omega) (by omega)).mpr c80
                      refine aw_aload_n 0 dX8_entry_83 rfl rfl ?_
                      refine aw_bipush (-6) dX8_entry_84 (by decide) ?_
                      refine aw_eV [.int (-6)] [] lX8_70 vX8_refuse mX8_refuse dX8_entry_86 (bX8_refuse (jv := jv) (bv := bv) (rf := rf) (x := (-6)) (q := 6) h0 h87 (by decide) (by decide)) h0 rfl rfl rfl (Nat.le_of_ble_eq_true rfl) (by decide) (by decide) rfl (fun h340 q339 => ?_)
                      obtain ⟨rf1338, f341, k342⟩ := q339
                      have f343 := rng_at k342 (by decide) h0
                      have f344 := rng_at k342 (by decide) h1
                      have f345 := rng_at k342 (by decide) h2
                      have f346 := rng_at k342 (by decide) h3
                      have f347 := rng_at k342 (by decide) h4
                      have f348 := rng_at k342 (by decide) h5
                      have f349 := rng_at k342 (by decide) h6
                      have f350 := rng_at k342 (by decide) h7
                      have f351 := rng_at k342 (by decide) h8
                      have f352 := rng_at k342 (by decide) h9
                      have f353 := rng_at k342 (by decide) h10
                      have f354 := rng_at k342 (by decide) h11
                      subst hQF
                      have eS : (spEntryC fi (nI a) w s r u) = (-6) := by unfold spEntryC; simp only [nn_a]; (repeat' split) <;> first | (exfalso; omega) | rfl
                      have ok9 : ¬ 0 ≤ (spEntryC fi (nI a) w s r u).toInt := by rw [eS]; decide
                      exact aw_iret rfl dX8_entry_89 (by decide) (by decide) ⟨by rw [eS], _, _, f344, f345, f346, f347, by rw [spUn_n ok9]; exact f348, by rw [spUp_n ok9]; exact f349, by rw [spUp_n ok9]; exact f350, by rw [spUp_n ok9]; exact f351, by rw [spUp_n ok9]; exact f352, by rw [spUp_n ok9]; exact f353, f354, f341, rg2_tr (rg2_rf 1 11 87 87 h) (rg2_w k342 (by decide)), Or.inr ⟨rfl, ok9⟩⟩
            · have d38 := mt (j_le (a := (0)) (b := u.toInt) (rfl) (rfl)).mpr c38
              refine aw_aload_n 0 dX8_entry_41 rfl rfl ?_
              refine aw_bipush (-4) dX8_entry_42 (by decide) ?_
              refine aw_eV [.int (-4)] [] lX8_70 vX8_refuse mX8_refuse dX8_entry_44 (bX8_refuse (jv := jv) (bv := bv) (rf := rf) (x := (-4)) (q := 4) h0 h87 (by decide) (by decide)) h0 rfl rfl rfl (Nat.le_of_ble_eq_true rfl) (by decide) (by decide) rfl (fun h357 q356 => ?_)
              obtain ⟨rf1355, f358, k359⟩ := q356
              have f360 := rng_at k359 (by decide) h0
              have f361 := rng_at k359 (by decide) h1
              have f362 := rng_at k359 (by decide) h2
              have f363 := rng_at k359 (by decide) h3
              have f364 := rng_at k359 (by decide) h4
              have f365 := rng_at k359 (by decide) h5
              have f366 := rng_at k359 (by decide) h6
              have f367 := rng_at k359 (by decide) h7
              have f368 := rng_at k359 (by decide) h8
              have f369 := rng_at k359 (by decide) h9
              have f370 := rng_at k359 (by decide) h10
              have f371 := rng_at k359 (by decide) h11
              subst hQF
              have eS : (spEntryC fi c w s r u) = (-4) := by unfold spEntryC; (repeat' split) <;> first | (exfalso; omega) | rfl
              have ok9 : ¬ 0 ≤ (spEntryC fi c w s r u).toInt := by rw [eS]; decide
              exact aw_iret rfl dX8_entry_47 (by decide) (by decide) ⟨by rw [eS], _, _, f361, f362, f363, f364, by rw [spUn_n ok9]; exact f365, by rw [spUp_n ok9]; exact f366, by rw [spUp_n ok9]; exact f367, by rw [spUp_n ok9]; exact f368, by rw [spUp_n ok9]; exact f369, by rw [spUp_n ok9]; exact f370, f371, f358, rg2_tr (rg2_rf 1 11 87 87 h) (rg2_w k359 (by decide)), Or.inr ⟨rfl, ok9⟩⟩
    · have t13 := ite_1 c13
      refine aw_aload_n 0 dX8_entry_16 rfl rfl ?_
      refine aw_iconst (-1) dX8_entry_17 (by decide) ?_
      refine aw_eV [.int (-1)] [] lX8_70 vX8_refuse mX8_refuse dX8_entry_18 (bX8_refuse (jv := jv) (bv := bv) (rf := rf) (x := (-1)) (q := 1) h0 h87 (by decide) (by decide)) h0 rfl rfl rfl (Nat.le_of_ble_eq_true rfl) (by decide) (by decide) rfl (fun h374 q373 => ?_)
      obtain ⟨rf1372, f375, k376⟩ := q373
      have f377 := rng_at k376 (by decide) h0
      have f378 := rng_at k376 (by decide) h1
      have f379 := rng_at k376 (by decide) h2
      have f380 := rng_at k376 (by decide) h3
      have f381 := rng_at k376 (by decide) h4
      have f382 := rng_at k376 (by decide) h5
      have f383 := rng_at k376 (by decide) h6
      have f384 := rng_at k376 (by decide) h7
      have f385 := rng_at k376 (by decide) h8
      have f386 := rng_at k376 (by decide) h9
      have f387 := rng_at k376 (by decide) h10
      have f388 := rng_at k376 (by decide) h11
      subst hQF
      have eS : (spEntryC fi c w s r u) = (-1) := by unfold spEntryC; (repeat' split) <;> first | (exfalso; omega) | rfl
      have ok9 : ¬ 0 ≤ (spEntryC fi c w s r u).toInt := by rw [eS]; decide
      exact aw_iret rfl dX8_entry_21 (by decide) (by decide) ⟨by rw [eS], _, _, f378, f379, f380, f381, by rw [spUn_n ok9]; exact f382, by rw [spUp_n ok9]; exact f383, by rw [spUp_n ok9]; exact f384, by rw [spUp_n ok9]; exact f385, by rw [spUp_n ok9]; exact f386, by rw [spUp_n ok9]; exact f387, f388, f375, rg2_tr (rg2_rf 1 11 87 87 h) (rg2_w k376 (by decide)), Or.inr ⟨rfl, ok9⟩⟩
