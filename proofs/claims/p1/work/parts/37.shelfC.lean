set_option maxHeartbeats 4000000 in
theorem X7_tellRow_l {l : Launch} {G : xG} {R : Room} {E : Array Value → State → Prop} {QF : List Frame → Array Value → State → State → Prop} {kc ns : Nat} {tA pF : Nat → Int32} {sz tt sm bs bn : Int32} {n : Nat} {hX : List va_E} (en : sz = nI n) (hn : n ≤ 8) (hR : 3 ≤ R.frames ∧ 120 ≤ R.locals ∧ kc ≤ R.cells ∧ ns ≤ R.slots)
    (K : ∀ h, xSh G tA pF (tkF tA n) sz tt sm bs bn h → lo 125 hX h → AW l G yX7_tellRow cX7_tellRow 5 none R E QF kc ns 56 [(0, .ref (G.1 + 125))] [] h) :
    ∀ (m i lb : Nat) (h : List va_E) (iv sv la : Int32), i + m = n → iv = nI i → sv = nI (2 ^ i - 1) → la = nI lb → lb < 8 → xSh G tA pF (tkF tA i) sz tt sm bs bn h → lo 125 hX h → AW l G yX7_tellRow cX7_tellRow 5 none R E QF kc ns 6 [(3, .int iv), (2, .int la), (1, .int sv), (0, .ref (G.1 + 125))] [] h := by
  intro m
  induction m with
  | zero =>
    intro i lb h iv sv la hi ei es el bl hS hk
    refine aw_iload_n 0 dX7_tellRow_6 rfl rfl ?_
    refine aw_aload_n 3 dX7_tellRow_7 rfl rfl ?_
    refine aw_get fX7_39 dX7_tellRow_8 hS.1 rfl ?_
    refine aw_icmp_ge 56 dX7_tellRow_11 (by decide) (fun c11 => ?_) (fun c11 => absurd (by simp only [i_le, (i_toNat (ei) (by omega)), (i_toNat (en) (by omega))] <;> omega) c11)
    refine aw_lv [(0, .ref (G.1 + 125))] [3] rfl ?_
    exact K h (by rw [show n = i by omega]; exact hS) hk
  | succ m ih =>
    intro i lb h iv sv la hi ei es el bl hS hk
    refine aw_iload_n 0 dX7_tellRow_6 rfl rfl ?_
    refine aw_aload_n 3 dX7_tellRow_7 rfl rfl ?_
    refine aw_get fX7_39 dX7_tellRow_8 hS.1 rfl ?_
    refine aw_icmp_ge 56 dX7_tellRow_11 (by decide) (fun c11 => absurd c11 (by simp only [i_le, (i_toNat (ei) (by omega)), (i_toNat (en) (by omega))] <;> omega)) (fun c11 => ?_)
    refine aw_aload_n 3 dX7_tellRow_14 rfl rfl ?_
    refine aw_iload_n 2 dX7_tellRow_15 rfl rfl ?_
    refine aw_eW [.int sv] [] lX7_89 vX7_readGains mX7_readGains dX7_tellRow_16 (X7_readGains_o hS en hn) hS.1 rfl rfl rfl (Nat.le_of_ble_eq_true rfl) (by omega) (by omega) rfl (fun hg hG => ?_)
    refine aw_aload_n 3 dX7_tellRow_19 rfl rfl ?_
    refine aw_iload_n 2 dX7_tellRow_20 rfl rfl ?_
    refine aw_iload_n 1 dX7_tellRow_21 rfl rfl ?_
    refine aw_dV [.int sv, .int la] [] lX7_105 vX7_firstBest mX7_firstBest dX7_tellRow_22 (X7_firstBest_o hG.1 en hn es (by omega) el bl) hG.1.1 rfl rfl rfl (Nat.le_of_ble_eq_true rfl) (by omega) (by omega) rfl ?_
    refine aw_top (fun v23 ev23 => ?_)
    refine aw_istore [(4, .int v23), (3, .int iv), (2, .int la), (1, .int sv), (0, .ref (G.1 + 125))] dX7_tellRow_25 (by decide) rfl ?_
    refine aw_aload_n 4 dX7_tellRow_27 rfl rfl ?_
    refine aw_get fX7_36 dX7_tellRow_28 hG.1.1 rfl ?_
    refine aw_iload_n 1 dX7_tellRow_31 rfl rfl ?_
    refine aw_aload_n 4 dX7_tellRow_32 rfl rfl ?_
    refine aw_get fX7_9 dX7_tellRow_33 hG.1.1 rfl ?_
    refine aw_iload 0 dX7_tellRow_36 rfl ?_
    refine aw_iald i (ev23.trans (rfl)) (by omega) (by decide) dX7_tellRow_38 hG.1.2.1 ?_
    refine aw_iast i (ei) (by omega) (by decide) dX7_tellRow_39 hG.1.2.2.2.2.2.2.2.2.2 ?_
    rw [tkF_s]
    refine aw_iload_n 3 dX7_tellRow_40 rfl rfl ?_
    refine aw_iconst (1) dX7_tellRow_41 (by decide) ?_
    refine aw_iload 0 dX7_tellRow_42 rfl ?_
    refine aw_ishl dX7_tellRow_44 ?_
    refine aw_ior dX7_tellRow_45 ?_
    refine aw_top (fun v24 ev24 => ?_)
    refine aw_istore_n [(1, .int v24), (4, .int v23), (3, .int iv), (2, .int la), (0, .ref (G.1 + 125))] dX7_tellRow_46 rfl (by decide) rfl ?_
    refine aw_iload 1 dX7_tellRow_47 rfl ?_
    refine aw_istore_n [(2, .int v23), (1, .int v24), (4, .int v23), (3, .int iv), (0, .ref (G.1 + 125))] dX7_tellRow_49 rfl (by decide) rfl ?_
    obtain ⟨v25, ev25⟩ : ∃ q : Int32, q = iv + Int32.ofInt (1) := ⟨_, rfl⟩
    refine aw_iinc (j := 3) v25 [(3, .int v25), (2, .int v23), (1, .int v24), (4, .int v23), (0, .ref (G.1 + 125))] dX7_tellRow_50 rfl ev25.symm (by decide) rfl ?_
    refine aw_goto 6 dX7_tellRow_53 (by decide) ?_
    refine aw_lv [(3, .int v25), (2, .int v23), (1, .int v24), (0, .ref (G.1 + 125))] [0, 1, 2, 4] rfl ?_
    exact ih (i + 1) i _ _ _ _ (by omega) (ev25.trans (nv_inc (ei))) (by rw [ev24, nv_or1 es (ev23.trans (rfl)) (by omega), pw_or i (by omega)]) (ev23.trans (rfl)) (by omega) ⟨(gn (by decide) (hG.1.1)), (gn (by decide) (hG.1.2.1)), (gn (by decide) (hG.1.2.2.1)), (gn (by decide) (hG.1.2.2.2.1)), (gn (by decide) (hG.1.2.2.2.2.1)), (gn (by decide) (hG.1.2.2.2.2.2.1)), (gn (by decide) (hG.1.2.2.2.2.2.2.1)), (gn (by decide) (hG.1.2.2.2.2.2.2.2.1)), (gn (by decide) (hG.1.2.2.2.2.2.2.2.2.1)), (gs hG.1.2.2.2.2.2.2.2.2.2)⟩ (lo_set ((lo_tr hk hG.2 (by decide))) (by decide))
set_option maxHeartbeats 4000000 in
theorem X7_tellRow_o {l : Launch} {G : xG} {h : List va_E} {tA pF : Nat → Int32} {sz tt sm bs bn : Int32} {n : Nat} (hS : xSh G tA pF (fun _ => 0) sz tt sm bs bn h) (en : sz = nI n) (hn : n ≤ 8) : CE l G yX7_tellRow cX7_tellRow 5 none 3 0 0 [.ref (G.1 + 125)] h none (fun h1 => xSh G tA pF (tkF tA n) sz tt sm bs bn h1 ∧ lo 125 h h1) := by
  refine cm_of rfl (Nat.le_of_ble_eq_true rfl) [(0, .ref (G.1 + 125))] rfl ?_
  refine aw_iconst (0) dX7_tellRow_0 (by decide) ?_
  refine aw_istore_n [(1, .int 0), (0, .ref (G.1 + 125))] dX7_tellRow_1 rfl (by decide) rfl ?_
  refine aw_iconst (0) dX7_tellRow_2 (by decide) ?_
  refine aw_istore_n [(2, .int 0), (1, .int 0), (0, .ref (G.1 + 125))] dX7_tellRow_3 rfl (by decide) rfl ?_
  refine aw_iconst (0) dX7_tellRow_4 (by decide) ?_
  refine aw_istore_n [(3, .int 0), (2, .int 0), (1, .int 0), (0, .ref (G.1 + 125))] dX7_tellRow_5 rfl (by decide) rfl ?_
  refine aw_lv [(3, .int 0), (2, .int 0), (1, .int 0), (0, .ref (G.1 + 125))] [0, 1, 2, 3] rfl ?_
  refine X7_tellRow_l en hn (by decide) ?_ n 0 0 h _ _ _ (by omega) rfl rfl rfl (by decide) (by rw [tkF_0]; exact hS) (lo_rf 125 h)
  intro h1 hS1 hk1
  exact aw_vret rfl dX7_tellRow_56 (by decide) (by decide) ⟨rfl, hS1, hk1⟩
set_option maxHeartbeats 4000000 in
theorem X7_readThings_l {l : Launch} {G : xG} {R : Room} {E : Array Value → State → Prop} {QF : List Frame → Array Value → State → State → Prop} {kc ns : Nat} {tF : Nat → Int32} {tt sm bs bn w : Int32} {st : Nat} {hX : List va_E} (ew : w = nI st) (bst : st < 4096) (hp : popN st ≤ 8)
    (K : ∀ h sz pF, sz = nI (popN st) → xSh G (thF st 12) pF tF sz tt sm bs bn h → lo 125 hX h → AW l G yX7_readThings cX7_readThings 3 none R E QF kc ns 66 [(0, .ref (G.1 + 125))] [] h) :
    ∀ (m i : Nat) (h : List va_E) (iv sz : Int32) (pF : Nat → Int32), i + m = 12 → iv = nI i → sz = nI (thL st i).length → xSh G (thF st i) pF tF sz tt sm bs bn h → lo 125 hX h → AW l G yX7_readThings cX7_readThings 3 none R E QF kc ns 7 [(2, .int iv), (1, .int w), (0, .ref (G.1 + 125))] [] h := by
  intro m
  induction m with
  | zero =>
    intro i h iv sz pF hi ei ez hS hk
    have hi2 : i = 12 := by omega
    subst hi2
    refine aw_iload_n 0 dX7_readThings_7 rfl rfl ?_
    refine aw_bipush (12) dX7_readThings_8 (by decide) ?_
    refine aw_icmp_ge 66 dX7_readThings_10 (by decide) (fun c10 => ?_) (fun c10 => absurd (by simp only [i_le, (i_toNat (ei) (by omega)), (show (12 : Int32).toInt = 12 from rfl)] <;> omega) c10)
    refine aw_lv [(0, .ref (G.1 + 125))] [2] rfl ?_
    exact K h sz pF ez hS hk
  | succ m ih =>
    intro i h iv sz pF hi ei ez hS hk
    cases hb : st.testBit i
    · refine aw_iload_n 0 dX7_readThings_7 rfl rfl ?_
      refine aw_bipush (12) dX7_readThings_8 (by decide) ?_
      refine aw_icmp_ge 66 dX7_readThings_10 (by decide) (fun c10 => absurd c10 (by simp only [i_le, (i_toNat (ei) (by omega)), (show (12 : Int32).toInt = 12 from rfl)] <;> omega)) (fun c10 => ?_)
      refine aw_iload_n 1 dX7_readThings_13 rfl rfl ?_
      refine aw_iload_n 0 dX7_readThings_14 rfl rfl ?_
      refine aw_ishr dX7_readThings_15 ?_
      refine aw_iconst (1) dX7_readThings_16 (by decide) ?_
      refine aw_iand dX7_readThings_17 ?_
      refine aw_if_eq 60 dX7_readThings_18 (by decide) (fun c18 => ?_) (fun c18 => absurd (nv_bf ew ei (by omega) (by omega) hb) c18)
      obtain ⟨v26, ev26⟩ : ∃ q : Int32, q = iv + Int32.ofInt (1) := ⟨_, rfl⟩
      refine aw_iinc (j := 0) v26 [(2, .int v26), (1, .int w), (0, .ref (G.1 + 125))] dX7_readThings_60 rfl ev26.symm (by decide) rfl ?_
      refine aw_goto 7 dX7_readThings_63 (by decide) ?_
      refine aw_lv [(2, .int v26), (1, .int w), (0, .ref (G.1 + 125))] [0, 1, 2] rfl ?_
      exact ih (i + 1) h _ sz pF (by omega) (ev26.trans (nv_inc (ei))) (by rw [thL_f hb]; exact ez) (by rw [thF_f hb]; exact hS) hk
    · have hc := thL_lt hb (by omega)
      rw [popL] at hp
      refine aw_iload_n 0 dX7_readThings_7 rfl rfl ?_
      refine aw_bipush (12) dX7_readThings_8 (by decide) ?_
      refine aw_icmp_ge 66 dX7_readThings_10 (by decide) (fun c10 => absurd c10 (by simp only [i_le, (i_toNat (ei) (by omega)), (show (12 : Int32).toInt = 12 from rfl)] <;> omega)) (fun c10 => ?_)
      refine aw_iload_n 1 dX7_readThings_13 rfl rfl ?_
      refine aw_iload_n 0 dX7_readThings_14 rfl rfl ?_
      refine aw_ishr dX7_readThings_15 ?_
      refine aw_iconst (1) dX7_readThings_16 (by decide) ?_
      refine aw_iand dX7_readThings_17 ?_
      refine aw_if_eq 60 dX7_readThings_18 (by decide) (fun c18 => absurd c18 (by rw [nv_bt ew ei (by omega) (by omega) hb]; decide)) (fun c18 => ?_)
      refine aw_aload_n 2 dX7_readThings_21 rfl rfl ?_
      refine aw_get fX7_39 dX7_readThings_22 hS.1 rfl ?_
      refine aw_bipush (8) dX7_readThings_25 (by decide) ?_
      refine aw_icmp_ge 60 dX7_readThings_27 (by decide) (fun c27 => absurd c27 (by simp only [i_le, (i_toNat (ez) (by omega)), (show (8 : Int32).toInt = 8 from rfl)] <;> omega)) (fun c27 => ?_)
      refine aw_aload_n 2 dX7_readThings_30 rfl rfl ?_
      refine aw_get fX7_9 dX7_readThings_31 hS.1 rfl ?_
      refine aw_aload_n 2 dX7_readThings_34 rfl rfl ?_
      refine aw_get fX7_39 dX7_readThings_35 hS.1 rfl ?_
      refine aw_iload_n 0 dX7_readThings_38 rfl rfl ?_
      refine aw_iast ((thL st i).length) (ez) (by omega) (by decide) dX7_readThings_39 hS.2.1 ?_
      rw [show upd (thF st i) (thL st i).length iv = thF st (i + 1) from by rw [ei]; exact thF_t hb]
      refine aw_aload_n 2 dX7_readThings_40 rfl rfl ?_
      refine aw_get fX7_15 dX7_readThings_41 (gn (by decide) (hS.1)) rfl ?_
      refine aw_iload_n 0 dX7_readThings_44 rfl rfl ?_
      refine aw_aload_n 2 dX7_readThings_45 rfl rfl ?_
      refine aw_get fX7_39 dX7_readThings_46 (gn (by decide) (hS.1)) rfl ?_
      refine aw_iast i (ei) (by omega) (by decide) dX7_readThings_49 (gn (by decide) (hS.2.2.1)) ?_
      refine aw_aload_n 2 dX7_readThings_50 rfl rfl ?_
      refine aw_dup dX7_readThings_51 rfl ?_
      refine aw_get fX7_39 dX7_readThings_52 (gn (by decide) (gn (by decide) (hS.1))) rfl ?_
      refine aw_iconst (1) dX7_readThings_55 (by decide) ?_
      refine aw_iadd dX7_readThings_56 ?_
      refine aw_top (fun v27 ev27 => ?_)
      refine aw_putQ fX7_39 dX7_readThings_57 [.ref (G.1 + 126), .ref (G.1 + 127), .ref (G.1 + 128), .ref (G.1 + 129), .ref (G.1 + 130), .ref (G.1 + 131), .ref (G.1 + 132), .ref (G.1 + 133), .ref (G.1 + 134), .int v27, .int tt, .int sm, .int bs, .int bn] (gn (by decide) (gn (by decide) (hS.1))) rfl rfl rfl (Nat.le_of_ble_eq_true rfl) rfl ?_
      obtain ⟨v28, ev28⟩ : ∃ q : Int32, q = iv + Int32.ofInt (1) := ⟨_, rfl⟩
      refine aw_iinc (j := 0) v28 [(2, .int v28), (1, .int w), (0, .ref (G.1 + 125))] dX7_readThings_60 rfl ev28.symm (by decide) rfl ?_
      refine aw_goto 7 dX7_readThings_63 (by decide) ?_
      refine aw_lv [(2, .int v28), (1, .int w), (0, .ref (G.1 + 125))] [0, 1, 2] rfl ?_
      exact ih (i + 1) _ _ v27 _ (by omega) (ev28.trans (nv_inc (ei))) (by rw [ev27, ez, thL_t hb, List.length_append]; exact nI_1 _) ⟨(gs (gn (by decide) (gn (by decide) (hS.1)))), (gn (by decide) (gn (by decide) (gs hS.2.1))), (gn (by decide) (gs (gn (by decide) (hS.2.2.1)))), (gn (by decide) (gn (by decide) (gn (by decide) (hS.2.2.2.1)))), (gn (by decide) (gn (by decide) (gn (by decide) (hS.2.2.2.2.1)))), (gn (by decide) (gn (by decide) (gn (by decide) (hS.2.2.2.2.2.1)))), (gn (by decide) (gn (by decide) (gn (by decide) (hS.2.2.2.2.2.2.1)))), (gn (by decide) (gn (by decide) (gn (by decide) (hS.2.2.2.2.2.2.2.1)))), (gn (by decide) (gn (by decide) (gn (by decide) (hS.2.2.2.2.2.2.2.2.1)))), (gn (by decide) (gn (by decide) (gn (by decide) (hS.2.2.2.2.2.2.2.2.2))))⟩ (lo_set (lo_set (lo_set (hk) (by decide)) (by decide)) (by decide))
set_option maxHeartbeats 4000000 in
theorem X7_readThings_o {l : Launch} {G : xG} {h : List va_E} {tF : Nat → Int32} {tt sm bs bn w : Int32} {st : Nat} {pF : Nat → Int32} {sz : Int32} (hS : xSh G (fun _ => 0) pF tF sz tt sm bs bn h) (ew : w = nI st) (bst : st < 4096) (hp : popN st ≤ 8) : CE l G yX7_readThings cX7_readThings 3 none 0 0 0 [.ref (G.1 + 125), .int w] h none (fun h1 => (∃ pF, xSh G (thF st 12) pF tF (nI (popN st)) tt sm bs bn h1) ∧ lo 125 h h1) := by
  refine cm_of rfl (Nat.le_of_ble_eq_true rfl) [(0, .ref (G.1 + 125)), (1, .int w)] rfl ?_
  refine aw_aload_n 0 dX7_readThings_0 rfl rfl ?_
  refine aw_iconst (0) dX7_readThings_1 (by decide) ?_
  refine aw_putQ fX7_39 dX7_readThings_2 [.ref (G.1 + 126), .ref (G.1 + 127), .ref (G.1 + 128), .ref (G.1 + 129), .ref (G.1 + 130), .ref (G.1 + 131), .ref (G.1 + 132), .ref (G.1 + 133), .ref (G.1 + 134), .int 0, .int tt, .int sm, .int bs, .int bn] hS.1 rfl rfl rfl (Nat.le_of_ble_eq_true rfl) rfl ?_
  refine aw_iconst (0) dX7_readThings_5 (by decide) ?_
  refine aw_istore_n [(2, .int 0), (0, .ref (G.1 + 125)), (1, .int w)] dX7_readThings_6 rfl (by decide) rfl ?_
  refine aw_lv [(2, .int 0), (1, .int w), (0, .ref (G.1 + 125))] [0, 2, 1] rfl ?_
  refine X7_readThings_l ew bst hp ?_ 12 0 _ _ _ _ rfl rfl rfl (by rw [thF_0]; exact ⟨(gs hS.1), (gn (by decide) (hS.2.1)), (gn (by decide) (hS.2.2.1)), (gn (by decide) (hS.2.2.2.1)), (gn (by decide) (hS.2.2.2.2.1)), (gn (by decide) (hS.2.2.2.2.2.1)), (gn (by decide) (hS.2.2.2.2.2.2.1)), (gn (by decide) (hS.2.2.2.2.2.2.2.1)), (gn (by decide) (hS.2.2.2.2.2.2.2.2.1)), (gn (by decide) (hS.2.2.2.2.2.2.2.2.2))⟩) (lo_set (lo_rf 125 h) (by decide))
  intro h1 sz1 pF1 ez1 hS1 hk1
  exact aw_vret rfl dX7_readThings_66 (by decide) (by decide) ⟨rfl, ⟨pF1, by rw [← ez1]; exact hS1⟩, hk1⟩
