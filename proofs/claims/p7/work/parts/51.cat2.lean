set_option maxHeartbeats 4000000 in
theorem gX1_tellMeaning_l2 {l : Launch} {G : xG} {R : Room} {E : Array Value → State → Prop} {QF : List Frame → Array Value → State → State → Prop} {kc ns : Nat} {nb sp fa : Nat} {ver w o wv : Int32} {se : Nat → Nat} {W : Nat → Int32} {hX : List va_E} (h1 : hX[1]? = some (.inr (1, [.ref (G.1 + 2), .ref (G.1 + 3), .ref (G.1 + 4), .ref (G.1 + 5), .ref (G.1 + 6), .ref (G.1 + 7), .ref (G.1 + 8), .ref (G.1 + 9), .ref (G.1 + 10), .ref (G.1 + 11), .int (nI nb), .int (nI sp), .int (nI fa), .int ver]))) (h3 : hX[3]? = some (.inl (0, 20, .inl (nA se)))) (h6 : hX[6]? = some (.inl (0, 40, .inl W))) (hR : 1 ≤ R.frames ∧ 40 ≤ R.locals ∧ kc ≤ R.cells ∧ ns ≤ R.slots)
    (K : ∀ h' Sn, ex1 7 hX h' → h'[7]? = some (.inl (0, 40, .inl Sn)) → (∀ j, j < 40 → Sn j = snF se (W j) 20) → AW l G yX1_tellMeaning cX1_tellMeaning 5 (some .int) R E QF kc ns 103 [(3, .int wv), (2, .int o), (1, .int w), (0, .ref (G.1 + 1))] [] h') :
    ∀ (mm i : Nat) (h : List va_E) (Sn : Nat → Int32) (iv : Int32), i + mm = 40 → iv = nI i → ex1 7 hX h → h[7]? = some (.inl (0, 40, .inl Sn)) → (∀ j, j < i → Sn j = snF se (W j) 20) → AW l G yX1_tellMeaning cX1_tellMeaning 5 (some .int) R E QF kc ns 69 [(4, .int iv), (3, .int wv), (2, .int o), (1, .int w), (0, .ref (G.1 + 1))] [] h := by
  intro mm
  induction mm with
  | zero =>
    intro i h Sn iv hi ei hk h7 hr
    have g1 := ex1_at hk (by decide) h1
    have g3 := ex1_at hk (by decide) h3
    have g6 := ex1_at hk (by decide) h6
    refine aw_iload 0 dX1_tellMeaning_69 rfl ?_
    refine aw_aload_n 4 dX1_tellMeaning_71 rfl rfl ?_
    refine aw_get fX1_24 dX1_tellMeaning_72 g1 rfl ?_
    refine aw_alen (40) dX1_tellMeaning_75 g6 rfl rfl ?_
    refine aw_icmp_ge 103 dX1_tellMeaning_76 (by decide) (fun c76 => ?_) (fun c76 => absurd (by simp only [i_le, (i_toNat (ei) (by omega)), (show (40 : Int32).toInt = 40 from rfl)] <;> omega) c76)
    refine aw_lv [(3, .int wv), (2, .int o), (1, .int w), (0, .ref (G.1 + 1))] [1, 2, 3, 4] rfl ?_
    exact K _ _ hk h7 (by rw [show 40 = i by omega]; exact hr)
  | succ mm ih =>
    intro i h Sn iv hi ei hk h7 hr
    have g1 := ex1_at hk (by decide) h1
    have g3 := ex1_at hk (by decide) h3
    have g6 := ex1_at hk (by decide) h6
    refine aw_iload 0 dX1_tellMeaning_69 rfl ?_
    refine aw_aload_n 4 dX1_tellMeaning_71 rfl rfl ?_
    refine aw_get fX1_24 dX1_tellMeaning_72 g1 rfl ?_
    refine aw_alen (40) dX1_tellMeaning_75 g6 rfl rfl ?_
    refine aw_icmp_ge 103 dX1_tellMeaning_76 (by decide) (fun c76 => absurd c76 (by simp only [i_le, (i_toNat (ei) (by omega)), (show (40 : Int32).toInt = 40 from rfl)] <;> omega)) (fun c76 => ?_)
    refine aw_aload_n 4 dX1_tellMeaning_79 rfl rfl ?_
    refine aw_get fX1_27 dX1_tellMeaning_80 g1 rfl ?_
    refine aw_iload 0 dX1_tellMeaning_83 rfl ?_
    refine aw_aload_n 4 dX1_tellMeaning_85 rfl rfl ?_
    refine aw_aload_n 4 dX1_tellMeaning_86 rfl rfl ?_
    refine aw_get fX1_24 dX1_tellMeaning_87 g1 rfl ?_
    refine aw_iload 0 dX1_tellMeaning_90 rfl ?_
    refine aw_iald i (ei) (by omega) (by decide) dX1_tellMeaning_92 g6 ?_
    refine aw_dV [.int (W i)] [.int iv, .ref (G.1 + 7)] lX1_56 vX1_sensesOf mX1_sensesOf dX1_tellMeaning_93 (gX1_sensesOf g1 g3) g1 rfl rfl rfl (Nat.le_of_ble_eq_true rfl) (by omega) (by omega) rfl ?_
    refine aw_iast i (ei) (by omega) (by decide) dX1_tellMeaning_96 h7 ?_
    obtain ⟨v1, ev1⟩ : ∃ q : Int32, q = iv + Int32.ofInt (1) := ⟨_, rfl⟩
    refine aw_iinc (j := 0) v1 [(4, .int v1), (3, .int wv), (2, .int o), (1, .int w), (0, .ref (G.1 + 1))] dX1_tellMeaning_97 rfl ev1.symm (by decide) rfl ?_
    refine aw_goto 69 dX1_tellMeaning_100 (by decide) ?_
    refine aw_lv [(4, .int v1), (3, .int wv), (2, .int o), (1, .int w), (0, .ref (G.1 + 1))] [0, 1, 2, 3, 4] rfl ?_
    refine ih (i + 1) _ _ _ (by omega) (ev1.trans (nv_inc (ei))) (ex1_set hk) ((gs h7)) ?_
    intro j hj
    by_cases hji : j = i
    · rw [hji]; simp [upd]
    · simp only [upd, if_neg hji]; exact hr j (by omega)
set_option maxHeartbeats 4000000 in
theorem gX1_tellMeaning {l : Launch} {G : xG} {h : List va_E} {m se ye fi : Nat → Nat} {W Sn Z Ro Co : Nat → Int32} {Ba : Nat → Int64} {nb sp fa : Nat} {ver : Int32} {w o : Int32} {w0 o0 : Nat} (hC : xCat G m se ye fi W Sn Z Ro Co Ba nb sp fa ver h) (hm : ∀ j, j < 20 → m j ≤ j) (hse : ∀ j, j < 20 → se j < 20) (hfi : ∀ j, j < 4 → fi j < 11) (hye : ∀ j, j < 4 → ye j < 1901) (ew : w = nI w0) (bw : w0 < 20) (eo : o = nI o0) (bo : o0 ≤ w0) : CE l G yX1_tellMeaning cX1_tellMeaning 5 (some .int) 1 0 0 [.ref (G.1 + 1), .int w, .int o] h (some (.int (nI (m w0)))) (fun h1 => ∃ se1 Sn1 ver1, xCat G (un m w0 o0) se1 ye fi W Sn1 Z Ro Co Ba nb sp fa ver1 h1 ∧ (∀ j, j < 20 → se1 j = root (un m w0 o0) j) ∧ (∀ j, j < 40 → Sn1 j = snF se1 (W j) 20) ∧ rng 1 11 h h1) := by
  refine cm_of rfl (Nat.le_of_ble_eq_true rfl) [(0, .ref (G.1 + 1)), (1, .int w), (2, .int o)] rfl ?_
  refine aw_aload_n 0 dX1_tellMeaning_0 rfl rfl ?_
  refine aw_get fX1_9 dX1_tellMeaning_1 hC.1 rfl ?_
  refine aw_iload_n 1 dX1_tellMeaning_4 rfl rfl ?_
  refine aw_iald w0 (ew) (by omega) (by decide) dX1_tellMeaning_5 hC.2.1 ?_
  refine aw_toe (nI (m w0)) (rfl) ?_
  refine aw_istore_n [(3, .int (nI (m w0))), (0, .ref (G.1 + 1)), (1, .int w), (2, .int o)] dX1_tellMeaning_6 rfl (by decide) rfl ?_
  refine aw_aload_n 1 dX1_tellMeaning_7 rfl rfl ?_
  refine aw_get fX1_9 dX1_tellMeaning_8 hC.1 rfl ?_
  refine aw_iload_n 2 dX1_tellMeaning_11 rfl rfl ?_
  refine aw_iload_n 3 dX1_tellMeaning_12 rfl rfl ?_
  refine aw_iast w0 (ew) (by omega) (by decide) dX1_tellMeaning_13 hC.2.1 ?_
  rw [nA_u (f := m) (i := w0) (x := o) (v := o0) (eo)]
  refine aw_iconst (0) dX1_tellMeaning_14 (by decide) ?_
  refine aw_istore [(4, .int 0), (3, .int (nI (m w0))), (0, .ref (G.1 + 1)), (1, .int w), (2, .int o)] dX1_tellMeaning_15 (by decide) rfl ?_
  refine aw_lv [(4, .int 0), (3, .int (nI (m w0))), (2, .int o), (1, .int w), (0, .ref (G.1 + 1))] [0, 1, 4, 3, 2] rfl ?_
  refine aw_fg (fun hX => hX[1]? = some (.inr (1, [.ref (G.1 + 2), .ref (G.1 + 3), .ref (G.1 + 4), .ref (G.1 + 5), .ref (G.1 + 6), .ref (G.1 + 7), .ref (G.1 + 8), .ref (G.1 + 9), .ref (G.1 + 10), .ref (G.1 + 11), .int (nI nb), .int (nI sp), .int (nI fa), .int ver])) ∧ hX[2]? = some (.inl (0, 20, .inl (nA (un m w0 o0)))) ∧ hX[3]? = some (.inl (0, 20, .inl (nA se))) ∧ hX[4]? = some (.inl (0, 4, .inl (nA ye))) ∧ hX[5]? = some (.inl (0, 4, .inl (nA fi))) ∧ hX[6]? = some (.inl (0, 40, .inl W)) ∧ hX[7]? = some (.inl (0, 40, .inl Sn)) ∧ hX[8]? = some (.inl (0, 40, .inl Z)) ∧ hX[9]? = some (.inl (0, 40, .inl Ro)) ∧ hX[10]? = some (.inl (0, 40, .inl Co)) ∧ hX[11]? = some (.inl (1, 40, .inr (.inl Ba))) ∧ rng 1 11 h hX) ⟨(gn (by decide) (hC.1)), (gs hC.2.1), (gn (by decide) (hC.2.2.1)), (gn (by decide) (hC.2.2.2.1)), (gn (by decide) (hC.2.2.2.2.1)), (gn (by decide) (hC.2.2.2.2.2.1)), (gn (by decide) (hC.2.2.2.2.2.2.1)), (gn (by decide) (hC.2.2.2.2.2.2.2.1)), (gn (by decide) (hC.2.2.2.2.2.2.2.2.1)), (gn (by decide) (hC.2.2.2.2.2.2.2.2.2.1)), (gn (by decide) (hC.2.2.2.2.2.2.2.2.2.2)), rng_set (rng_rf 1 11 h) (by decide) (by decide)⟩ ?_
  rintro hX ⟨x1, x2, x3, x4, x5, x6, x7, x8, x9, x10, x11, xk⟩
  refine gX1_tellMeaning_l1 x1 x2 (fun j hj => ?_) ?_ 20 0 hX _ _ rfl rfl (ex1_rf 3 hX) x3 (fun j hj => absurd hj (by omega))
  · by_cases e : j = w0
    · rw [e, un_s]; omega
    · rw [un_n e]; exact hm j hj
  intro h' se1 k1 m1 r1
  refine aw_iconst (0) dX1_tellMeaning_66 (by decide) ?_
  refine aw_istore [(4, .int 0), (3, .int (nI (m w0))), (2, .int o), (1, .int w), (0, .ref (G.1 + 1))] dX1_tellMeaning_67 (by decide) rfl ?_
  refine aw_lv [(4, .int 0), (3, .int (nI (m w0))), (2, .int o), (1, .int w), (0, .ref (G.1 + 1))] [0, 1, 2, 3, 4] rfl ?_
  refine gX1_tellMeaning_l2 (ex1_at k1 (by decide) x1) m1 (ex1_at k1 (by decide) x6) (by decide) ?_ 40 0 h' _ _ rfl rfl (ex1_rf 7 h') (ex1_at k1 (by decide) x7) (fun j hj => absurd hj (by omega))
  intro h2 Sn1 k2 m2 r2
  refine aw_aload_n 3 dX1_tellMeaning_103 rfl rfl ?_
  refine aw_dup dX1_tellMeaning_104 rfl ?_
  refine aw_get fX1_53 dX1_tellMeaning_105 (ex1_at k2 (by decide) (ex1_at k1 (by decide) x1)) rfl ?_
  refine aw_iconst (1) dX1_tellMeaning_108 (by decide) ?_
  refine aw_iadd dX1_tellMeaning_109 ?_
  refine aw_top (fun v2 ev2 => ?_)
  refine aw_putQ fX1_53 dX1_tellMeaning_110 [.ref (G.1 + 2), .ref (G.1 + 3), .ref (G.1 + 4), .ref (G.1 + 5), .ref (G.1 + 6), .ref (G.1 + 7), .ref (G.1 + 8), .ref (G.1 + 9), .ref (G.1 + 10), .ref (G.1 + 11), .int (nI nb), .int (nI sp), .int (nI fa), .int v2] (ex1_at k2 (by decide) (ex1_at k1 (by decide) x1)) rfl rfl rfl (Nat.le_of_ble_eq_true rfl) rfl ?_
  refine aw_iload_n 0 dX1_tellMeaning_113 rfl rfl ?_
  exact aw_iret rfl dX1_tellMeaning_114 (by decide) (by decide) ⟨rfl, se1, Sn1, v2, ⟨(gs (ex1_at k2 (by decide) (ex1_at k1 (by decide) x1))), (gn (by decide) (ex1_at k2 (by decide) (ex1_at k1 (by decide) x2))), (gn (by decide) (ex1_at k2 (by decide) m1)), (gn (by decide) (ex1_at k2 (by decide) (ex1_at k1 (by decide) x4))), (gn (by decide) (ex1_at k2 (by decide) (ex1_at k1 (by decide) x5))), (gn (by decide) (ex1_at k2 (by decide) (ex1_at k1 (by decide) x6))), (gn (by decide) (m2)), (gn (by decide) (ex1_at k2 (by decide) (ex1_at k1 (by decide) x8))), (gn (by decide) (ex1_at k2 (by decide) (ex1_at k1 (by decide) x9))), (gn (by decide) (ex1_at k2 (by decide) (ex1_at k1 (by decide) x10))), (gn (by decide) (ex1_at k2 (by decide) (ex1_at k1 (by decide) x11)))⟩, r1, r2, rng_set (rng_tr (rng_tr xk (rng_w (ex1_rng k1) (by decide) (by decide))) (rng_w (ex1_rng k2) (by decide) (by decide))) (by decide) (by decide)⟩
set_option maxHeartbeats 4000000 in
theorem gX1_tellYear {l : Launch} {G : xG} {h : List va_E} {m se ye fi : Nat → Nat} {W Sn Z Ro Co : Nat → Int32} {Ba : Nat → Int64} {nb sp fa : Nat} {ver : Int32} {c y : Int32} {c0 y0 : Nat} (hC : xCat G m se ye fi W Sn Z Ro Co Ba nb sp fa ver h) (hm : ∀ j, j < 20 → m j ≤ j) (hse : ∀ j, j < 20 → se j < 20) (hfi : ∀ j, j < 4 → fi j < 11) (hye : ∀ j, j < 4 → ye j < 1901) (ec : c = nI c0) (bc : c0 < 4) (ey : y = nI y0) : CE l G yX1_tellYear cX1_tellYear 4 (some .int) 0 0 0 [.ref (G.1 + 1), .int c, .int y] h (some (.int (nI (ye c0)))) (fun h1 => ∃ ver1, xCat G m se (un ye c0 y0) fi W Sn Z Ro Co Ba nb sp fa ver1 h1 ∧ rng 1 11 h h1) := by
  refine cm_of rfl (Nat.le_of_ble_eq_true rfl) [(0, .ref (G.1 + 1)), (1, .int c), (2, .int y)] rfl ?_
  refine aw_aload_n 0 dX1_tellYear_0 rfl rfl ?_
  refine aw_get fX1_18 dX1_tellYear_1 hC.1 rfl ?_
  refine aw_iload_n 1 dX1_tellYear_4 rfl rfl ?_
  refine aw_iald c0 (ec) (by omega) (by decide) dX1_tellYear_5 hC.2.2.2.1 ?_
  refine aw_toe (nI (ye c0)) (rfl) ?_
  refine aw_istore_n [(3, .int (nI (ye c0))), (0, .ref (G.1 + 1)), (1, .int c), (2, .int y)] dX1_tellYear_6 rfl (by decide) rfl ?_
  refine aw_aload_n 1 dX1_tellYear_7 rfl rfl ?_
  refine aw_get fX1_18 dX1_tellYear_8 hC.1 rfl ?_
  refine aw_iload_n 2 dX1_tellYear_11 rfl rfl ?_
  refine aw_iload_n 3 dX1_tellYear_12 rfl rfl ?_
  refine aw_iast c0 (ec) (by omega) (by decide) dX1_tellYear_13 hC.2.2.2.1 ?_
  rw [nA_u (f := ye) (i := c0) (x := y) (v := y0) (ey)]
  refine aw_aload_n 1 dX1_tellYear_14 rfl rfl ?_
  refine aw_dup dX1_tellYear_15 rfl ?_
  refine aw_get fX1_53 dX1_tellYear_16 (gn (by decide) (hC.1)) rfl ?_
  refine aw_iconst (1) dX1_tellYear_19 (by decide) ?_
  refine aw_iadd dX1_tellYear_20 ?_
  refine aw_top (fun v3 ev3 => ?_)
  refine aw_putQ fX1_53 dX1_tellYear_21 [.ref (G.1 + 2), .ref (G.1 + 3), .ref (G.1 + 4), .ref (G.1 + 5), .ref (G.1 + 6), .ref (G.1 + 7), .ref (G.1 + 8), .ref (G.1 + 9), .ref (G.1 + 10), .ref (G.1 + 11), .int (nI nb), .int (nI sp), .int (nI fa), .int v3] (gn (by decide) (hC.1)) rfl rfl rfl (Nat.le_of_ble_eq_true rfl) rfl ?_
  refine aw_iload_n 0 dX1_tellYear_24 rfl rfl ?_
  exact aw_iret rfl dX1_tellYear_25 (by decide) (by decide) ⟨rfl, v3, ⟨(gs (gn (by decide) (hC.1))), (gn (by decide) (gn (by decide) (hC.2.1))), (gn (by decide) (gn (by decide) (hC.2.2.1))), (gn (by decide) (gs hC.2.2.2.1)), (gn (by decide) (gn (by decide) (hC.2.2.2.2.1))), (gn (by decide) (gn (by decide) (hC.2.2.2.2.2.1))), (gn (by decide) (gn (by decide) (hC.2.2.2.2.2.2.1))), (gn (by decide) (gn (by decide) (hC.2.2.2.2.2.2.2.1))), (gn (by decide) (gn (by decide) (hC.2.2.2.2.2.2.2.2.1))), (gn (by decide) (gn (by decide) (hC.2.2.2.2.2.2.2.2.2.1))), (gn (by decide) (gn (by decide) (hC.2.2.2.2.2.2.2.2.2.2)))⟩, rng_set (rng_set (rng_rf 1 11 h) (by decide) (by decide)) (by decide) (by decide)⟩
set_option maxHeartbeats 4000000 in
theorem gX1_tellSpare {l : Launch} {G : xG} {h : List va_E} {m se ye fi : Nat → Nat} {W Sn Z Ro Co : Nat → Int32} {Ba : Nat → Int64} {nb sp fa : Nat} {ver : Int32} {v : Int32} {v0 : Nat} (hC : xCat G m se ye fi W Sn Z Ro Co Ba nb sp fa ver h) (hm : ∀ j, j < 20 → m j ≤ j) (hse : ∀ j, j < 20 → se j < 20) (hfi : ∀ j, j < 4 → fi j < 11) (hye : ∀ j, j < 4 → ye j < 1901) (ev : v = nI v0) : CE l G yX1_tellSpare cX1_tellSpare 3 (some .int) 0 0 0 [.ref (G.1 + 1), .int v] h (some (.int (nI sp))) (fun h1 => ∃ ver1, xCat G m se ye fi W Sn Z Ro Co Ba nb v0 fa ver1 h1 ∧ rng 1 11 h h1) := by
  refine cm_of rfl (Nat.le_of_ble_eq_true rfl) [(0, .ref (G.1 + 1)), (1, .int v)] rfl ?_
  refine aw_aload_n 0 dX1_tellSpare_0 rfl rfl ?_
  refine aw_get fX1_47 dX1_tellSpare_1 hC.1 rfl ?_
  refine aw_istore_n [(2, .int (nI sp)), (0, .ref (G.1 + 1)), (1, .int v)] dX1_tellSpare_4 rfl (by decide) rfl ?_
  refine aw_aload_n 1 dX1_tellSpare_5 rfl rfl ?_
  refine aw_iload_n 2 dX1_tellSpare_6 rfl rfl ?_
  refine aw_toe (nI v0) (ev) ?_
  refine aw_putQ fX1_47 dX1_tellSpare_7 [.ref (G.1 + 2), .ref (G.1 + 3), .ref (G.1 + 4), .ref (G.1 + 5), .ref (G.1 + 6), .ref (G.1 + 7), .ref (G.1 + 8), .ref (G.1 + 9), .ref (G.1 + 10), .ref (G.1 + 11), .int (nI nb), .int (nI v0), .int (nI fa), .int ver] hC.1 rfl rfl rfl (Nat.le_of_ble_eq_true rfl) rfl ?_
  refine aw_aload_n 1 dX1_tellSpare_10 rfl rfl ?_
  refine aw_dup dX1_tellSpare_11 rfl ?_
  refine aw_get fX1_53 dX1_tellSpare_12 (gs hC.1) rfl ?_
  refine aw_iconst (1) dX1_tellSpare_15 (by decide) ?_
  refine aw_iadd dX1_tellSpare_16 ?_
  refine aw_top (fun v4 ev4 => ?_)
  refine aw_putQ fX1_53 dX1_tellSpare_17 [.ref (G.1 + 2), .ref (G.1 + 3), .ref (G.1 + 4), .ref (G.1 + 5), .ref (G.1 + 6), .ref (G.1 + 7), .ref (G.1 + 8), .ref (G.1 + 9), .ref (G.1 + 10), .ref (G.1 + 11), .int (nI nb), .int (nI v0), .int (nI fa), .int v4] (gs hC.1) rfl rfl rfl (Nat.le_of_ble_eq_true rfl) rfl ?_
  refine aw_iload_n 0 dX1_tellSpare_20 rfl rfl ?_
  exact aw_iret rfl dX1_tellSpare_21 (by decide) (by decide) ⟨rfl, v4, ⟨(gs (gs hC.1)), (gn (by decide) (gn (by decide) (hC.2.1))), (gn (by decide) (gn (by decide) (hC.2.2.1))), (gn (by decide) (gn (by decide) (hC.2.2.2.1))), (gn (by decide) (gn (by decide) (hC.2.2.2.2.1))), (gn (by decide) (gn (by decide) (hC.2.2.2.2.2.1))), (gn (by decide) (gn (by decide) (hC.2.2.2.2.2.2.1))), (gn (by decide) (gn (by decide) (hC.2.2.2.2.2.2.2.1))), (gn (by decide) (gn (by decide) (hC.2.2.2.2.2.2.2.2.1))), (gn (by decide) (gn (by decide) (hC.2.2.2.2.2.2.2.2.2.1))), (gn (by decide) (gn (by decide) (hC.2.2.2.2.2.2.2.2.2.2)))⟩, rng_set (rng_set (rng_rf 1 11 h) (by decide) (by decide)) (by decide) (by decide)⟩
set_option maxHeartbeats 4000000 in
theorem gX1_tellFade {l : Launch} {G : xG} {h : List va_E} {m se ye fi : Nat → Nat} {W Sn Z Ro Co : Nat → Int32} {Ba : Nat → Int64} {nb sp fa : Nat} {ver : Int32} {v : Int32} {v0 : Nat} (hC : xCat G m se ye fi W Sn Z Ro Co Ba nb sp fa ver h) (hm : ∀ j, j < 20 → m j ≤ j) (hse : ∀ j, j < 20 → se j < 20) (hfi : ∀ j, j < 4 → fi j < 11) (hye : ∀ j, j < 4 → ye j < 1901) (ev : v = nI v0) : CE l G yX1_tellFade cX1_tellFade 3 (some .int) 0 0 0 [.ref (G.1 + 1), .int v] h (some (.int (nI fa))) (fun h1 => ∃ ver1, xCat G m se ye fi W Sn Z Ro Co Ba nb sp v0 ver1 h1 ∧ rng 1 11 h h1) := by
  refine cm_of rfl (Nat.le_of_ble_eq_true rfl) [(0, .ref (G.1 + 1)), (1, .int v)] rfl ?_
  refine aw_aload_n 0 dX1_tellFade_0 rfl rfl ?_
  refine aw_get fX1_50 dX1_tellFade_1 hC.1 rfl ?_
  refine aw_istore_n [(2, .int (nI fa)), (0, .ref (G.1 + 1)), (1, .int v)] dX1_tellFade_4 rfl (by decide) rfl ?_
  refine aw_aload_n 1 dX1_tellFade_5 rfl rfl ?_
  refine aw_iload_n 2 dX1_tellFade_6 rfl rfl ?_
  refine aw_toe (nI v0) (ev) ?_
  refine aw_putQ fX1_50 dX1_tellFade_7 [.ref (G.1 + 2), .ref (G.1 + 3), .ref (G.1 + 4), .ref (G.1 + 5), .ref (G.1 + 6), .ref (G.1 + 7), .ref (G.1 + 8), .ref (G.1 + 9), .ref (G.1 + 10), .ref (G.1 + 11), .int (nI nb), .int (nI sp), .int (nI v0), .int ver] hC.1 rfl rfl rfl (Nat.le_of_ble_eq_true rfl) rfl ?_
  refine aw_aload_n 1 dX1_tellFade_10 rfl rfl ?_
  refine aw_dup dX1_tellFade_11 rfl ?_
  refine aw_get fX1_53 dX1_tellFade_12 (gs hC.1) rfl ?_
  refine aw_iconst (1) dX1_tellFade_15 (by decide) ?_
  refine aw_iadd dX1_tellFade_16 ?_
  refine aw_top (fun v5 ev5 => ?_)
  refine aw_putQ fX1_53 dX1_tellFade_17 [.ref (G.1 + 2), .ref (G.1 + 3), .ref (G.1 + 4), .ref (G.1 + 5), .ref (G.1 + 6), .ref (G.1 + 7), .ref (G.1 + 8), .ref (G.1 + 9), .ref (G.1 + 10), .ref (G.1 + 11), .int (nI nb), .int (nI sp), .int (nI v0), .int v5] (gs hC.1) rfl rfl rfl (Nat.le_of_ble_eq_true rfl) rfl ?_
  refine aw_iload_n 0 dX1_tellFade_20 rfl rfl ?_
  exact aw_iret rfl dX1_tellFade_21 (by decide) (by decide) ⟨rfl, v5, ⟨(gs (gs hC.1)), (gn (by decide) (gn (by decide) (hC.2.1))), (gn (by decide) (gn (by decide) (hC.2.2.1))), (gn (by decide) (gn (by decide) (hC.2.2.2.1))), (gn (by decide) (gn (by decide) (hC.2.2.2.2.1))), (gn (by decide) (gn (by decide) (hC.2.2.2.2.2.1))), (gn (by decide) (gn (by decide) (hC.2.2.2.2.2.2.1))), (gn (by decide) (gn (by decide) (hC.2.2.2.2.2.2.2.1))), (gn (by decide) (gn (by decide) (hC.2.2.2.2.2.2.2.2.1))), (gn (by decide) (gn (by decide) (hC.2.2.2.2.2.2.2.2.2.1))), (gn (by decide) (gn (by decide) (hC.2.2.2.2.2.2.2.2.2.2)))⟩, rng_set (rng_set (rng_rf 1 11 h) (by decide) (by decide)) (by decide) (by decide)⟩
