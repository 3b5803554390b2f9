set_option maxHeartbeats 4000000 in
theorem X1_tellMeaning_l1 {l : Launch} {G : xG} {R : Room} {E : Array Value → State → Prop} {QF : List Frame → Array Value → State → State → Prop} {kc ns : Nat} {w o wv : Int32} {mF : Nat → Int32} {hX : List va_E} (h1 : hX[1]? = some (.inr (1, [.ref (G.1 + 2), .ref (G.1 + 3), .ref (G.1 + 4), .ref (G.1 + 5), .ref (G.1 + 6), .ref (G.1 + 7), .ref (G.1 + 8), .ref (G.1 + 9), .ref (G.1 + 10), .ref (G.1 + 11), .int 0, .int 5, .int 1, .int 1]))) (h2 : hX[2]? = some (.inl (0, 20, .inl mF))) (hm : ∀ j, j < 20 → ∃ q, q < 20 ∧ mF j = nI q)
    (K : ∀ h' sF, ex1 3 hX h' → h'[3]? = some (.inl (0, 20, .inl sF)) → AW l G yX1_tellMeaning cX1_tellMeaning 5 (some .int) R E QF kc ns 66 [(3, .int wv), (2, .int o), (1, .int w), (0, .ref (G.1 + 1))] [] h') :
    ∀ (n i : Nat) (h : List va_E) (sF : Nat → Int32) (iv : Int32), i + n = 20 → iv = nI i → ex1 3 hX h → h[3]? = some (.inl (0, 20, .inl sF)) → AW l G yX1_tellMeaning cX1_tellMeaning 5 (some .int) R E QF kc ns 17 [(4, .int iv), (3, .int wv), (2, .int o), (1, .int w), (0, .ref (G.1 + 1))] [] h := by
  intro n
  induction n with
  | zero =>
    intro i h sF iv hi ei hk h3
    have g1 := ex1_at hk (by decide) h1
    have g2 := ex1_at hk (by decide) h2
    refine aw_iload 0 dX1_tellMeaning_17 rfl ?_
    refine aw_bipush (20) dX1_tellMeaning_19 (by decide) ?_
    refine aw_icmp_ge 66 dX1_tellMeaning_21 (by decide) (fun c21 => ?_) (fun c21 => absurd (by simp only [i_le, (i_toNat (ei) (by omega)), (show (20 : Int32).toInt = 20 from rfl)] <;> omega) c21)
    refine aw_lv [(3, .int wv), (2, .int o), (1, .int w), (0, .ref (G.1 + 1))] [1, 2, 3, 4] rfl ?_
    exact K _ _ hk h3
  | succ n ih =>
    intro i h sF iv hi ei hk h3
    have g1 := ex1_at hk (by decide) h1
    have g2 := ex1_at hk (by decide) h2
    obtain ⟨q, hq, eq⟩ := hm i (by omega)
    refine aw_iload 0 dX1_tellMeaning_17 rfl ?_
    refine aw_bipush (20) dX1_tellMeaning_19 (by decide) ?_
    refine aw_icmp_ge 66 dX1_tellMeaning_21 (by decide) (fun c21 => absurd c21 (by simp only [i_le, (i_toNat (ei) (by omega)), (show (20 : Int32).toInt = 20 from rfl)] <;> omega)) (fun c21 => ?_)
    refine aw_aload_n 4 dX1_tellMeaning_24 rfl rfl ?_
    refine aw_get fX1_15 dX1_tellMeaning_25 g1 rfl ?_
    refine aw_iload 0 dX1_tellMeaning_28 rfl ?_
    refine aw_aload_n 4 dX1_tellMeaning_30 rfl rfl ?_
    refine aw_get fX1_9 dX1_tellMeaning_31 g1 rfl ?_
    refine aw_iload 0 dX1_tellMeaning_34 rfl ?_
    refine aw_iald i (ei) (by omega) (by decide) dX1_tellMeaning_36 g2 ?_
    refine aw_iload 0 dX1_tellMeaning_37 rfl ?_
    refine aw_icmp_ne 47 dX1_tellMeaning_39 (by decide) (fun c39 => ?_) (fun c39 => ?_)
    · refine aw_aload_n 4 dX1_tellMeaning_47 rfl rfl ?_
      refine aw_get fX1_15 dX1_tellMeaning_48 g1 rfl ?_
      refine aw_aload_n 4 dX1_tellMeaning_51 rfl rfl ?_
      refine aw_get fX1_9 dX1_tellMeaning_52 g1 rfl ?_
      refine aw_iload 0 dX1_tellMeaning_55 rfl ?_
      refine aw_iald i (ei) (by omega) (by decide) dX1_tellMeaning_57 g2 ?_
      refine aw_iald q (eq) (hq) (by decide) dX1_tellMeaning_58 h3 ?_
      refine aw_iast i (ei) (by omega) (by decide) dX1_tellMeaning_59 h3 ?_
      obtain ⟨v51, ev51⟩ : ∃ q : Int32, q = iv + Int32.ofInt (1) := ⟨_, rfl⟩
      refine aw_iinc (j := 0) v51 [(4, .int v51), (3, .int wv), (2, .int o), (1, .int w), (0, .ref (G.1 + 1))] dX1_tellMeaning_60 rfl ev51.symm (by decide) rfl ?_
      refine aw_goto 17 dX1_tellMeaning_63 (by decide) ?_
      refine aw_lv [(4, .int v51), (3, .int wv), (2, .int o), (1, .int w), (0, .ref (G.1 + 1))] [0, 1, 2, 3, 4] rfl ?_
      exact ih (i + 1) _ _ _ (by omega) (ev51.trans (nv_inc (ei))) (ex1_set hk) ((gs h3))
    · refine aw_iload 0 dX1_tellMeaning_42 rfl ?_
      refine aw_goto 59 dX1_tellMeaning_44 (by decide) ?_
      refine aw_iast i (ei) (by omega) (by decide) dX1_tellMeaning_59 h3 ?_
      obtain ⟨v52, ev52⟩ : ∃ q : Int32, q = iv + Int32.ofInt (1) := ⟨_, rfl⟩
      refine aw_iinc (j := 0) v52 [(4, .int v52), (3, .int wv), (2, .int o), (1, .int w), (0, .ref (G.1 + 1))] dX1_tellMeaning_60 rfl ev52.symm (by decide) rfl ?_
      refine aw_goto 17 dX1_tellMeaning_63 (by decide) ?_
      refine aw_lv [(4, .int v52), (3, .int wv), (2, .int o), (1, .int w), (0, .ref (G.1 + 1))] [0, 1, 2, 3, 4] rfl ?_
      exact ih (i + 1) _ _ _ (by omega) (ev52.trans (nv_inc (ei))) (ex1_set hk) ((gs h3))
set_option maxHeartbeats 4000000 in
theorem X1_tellMeaning_l2 {l : Launch} {G : xG} {R : Room} {E : Array Value → State → Prop} {QF : List Frame → Array Value → State → State → Prop} {kc ns : Nat} {w o wv : Int32} {sF : Nat → Int32} {hX : List va_E} (h1 : hX[1]? = some (.inr (1, [.ref (G.1 + 2), .ref (G.1 + 3), .ref (G.1 + 4), .ref (G.1 + 5), .ref (G.1 + 6), .ref (G.1 + 7), .ref (G.1 + 8), .ref (G.1 + 9), .ref (G.1 + 10), .ref (G.1 + 11), .int 0, .int 5, .int 1, .int 1]))) (h3 : hX[3]? = some (.inl (0, 20, .inl sF))) (h6 : hX[6]? = some (.inl (0, 40, .inl (fun _ => 0)))) (hR : 1 ≤ R.frames ∧ 40 ≤ R.locals ∧ kc ≤ R.cells ∧ ns ≤ R.slots)
    (K : ∀ h', ex1 7 hX h' → AW l G yX1_tellMeaning cX1_tellMeaning 5 (some .int) R E QF kc ns 103 [(3, .int wv), (2, .int o), (1, .int w), (0, .ref (G.1 + 1))] [] h') :
    ∀ (n i : Nat) (h : List va_E) (tF : Nat → Int32) (iv : Int32), i + n = 40 → iv = nI i → ex1 7 hX h → h[7]? = some (.inl (0, 40, .inl tF)) → AW l G yX1_tellMeaning cX1_tellMeaning 5 (some .int) R E QF kc ns 69 [(4, .int iv), (3, .int wv), (2, .int o), (1, .int w), (0, .ref (G.1 + 1))] [] h := by
  intro n
  induction n with
  | zero =>
    intro i h tF iv hi ei hk h7
    have g1 := ex1_at hk (by decide) h1
    have g3 := ex1_at hk (by decide) h3
    have g6 := ex1_at hk (by decide) h6
    refine aw_iload 0 dX1_tellMeaning_69 rfl ?_
    refine aw_aload_n 4 dX1_tellMeaning_71 rfl rfl ?_
    refine aw_get fX1_24 dX1_tellMeaning_72 g1 rfl ?_
    refine aw_alen (40) dX1_tellMeaning_75 g6 rfl rfl ?_
    refine aw_icmp_ge 103 dX1_tellMeaning_76 (by decide) (fun c76 => ?_) (fun c76 => absurd (by simp only [i_le, (i_toNat (ei) (by omega)), (show (40 : Int32).toInt = 40 from rfl)] <;> omega) c76)
    refine aw_lv [(3, .int wv), (2, .int o), (1, .int w), (0, .ref (G.1 + 1))] [1, 2, 3, 4] rfl ?_
    exact K _ hk
  | succ n ih =>
    intro i h tF iv hi ei hk h7
    have g1 := ex1_at hk (by decide) h1
    have g3 := ex1_at hk (by decide) h3
    have g6 := ex1_at hk (by decide) h6
    refine aw_iload 0 dX1_tellMeaning_69 rfl ?_
    refine aw_aload_n 4 dX1_tellMeaning_71 rfl rfl ?_
    refine aw_get fX1_24 dX1_tellMeaning_72 g1 rfl ?_
    refine aw_alen (40) dX1_tellMeaning_75 g6 rfl rfl ?_
    refine aw_icmp_ge 103 dX1_tellMeaning_76 (by decide) (fun c76 => absurd c76 (by simp only [i_le, (i_toNat (ei) (by omega)), (show (40 : Int32).toInt = 40 from rfl)] <;> omega)) (fun c76 => ?_)
    refine aw_aload_n 4 dX1_tellMeaning_79 rfl rfl ?_
    refine aw_get fX1_27 dX1_tellMeaning_80 g1 rfl ?_
    refine aw_iload 0 dX1_tellMeaning_83 rfl ?_
    refine aw_aload_n 4 dX1_tellMeaning_85 rfl rfl ?_
    refine aw_aload_n 4 dX1_tellMeaning_86 rfl rfl ?_
    refine aw_get fX1_24 dX1_tellMeaning_87 g1 rfl ?_
    refine aw_iload 0 dX1_tellMeaning_90 rfl ?_
    refine aw_iald i (ei) (by omega) (by decide) dX1_tellMeaning_92 g6 ?_
    refine aw_toe 0 (rfl) ?_
    refine aw_uV [.int 0] [.int iv, .ref (G.1 + 7)] lX1_56 vX1_sensesOf mX1_sensesOf dX1_tellMeaning_93 (X1_sensesOf_u g1 g3) g1 rfl rfl rfl (Nat.le_of_ble_eq_true rfl) (by omega) (by omega) rfl (fun r53 h54 q55 => ?_)
    subst q55
    refine aw_iast i (ei) (by omega) (by decide) dX1_tellMeaning_96 h7 ?_
    obtain ⟨v56, ev56⟩ : ∃ q : Int32, q = iv + Int32.ofInt (1) := ⟨_, rfl⟩
    refine aw_iinc (j := 0) v56 [(4, .int v56), (3, .int wv), (2, .int o), (1, .int w), (0, .ref (G.1 + 1))] dX1_tellMeaning_97 rfl ev56.symm (by decide) rfl ?_
    refine aw_goto 69 dX1_tellMeaning_100 (by decide) ?_
    refine aw_lv [(4, .int v56), (3, .int wv), (2, .int o), (1, .int w), (0, .ref (G.1 + 1))] [0, 1, 2, 3, 4] rfl ?_
    exact ih (i + 1) _ _ _ (by omega) (ev56.trans (nv_inc (ei))) (ex1_set hk) ((gs h7))
set_option maxHeartbeats 4000000 in
theorem X1_tellMeaning_o {l : Launch} {G : xG} {h : List va_E} {w o : Int32} (hF : xF8 G h)(hw : 0 ≤ w.toInt ∧ w.toInt < 20)(ho : 0 ≤ o.toInt ∧ o.toInt < 20) : CE l G yX1_tellMeaning cX1_tellMeaning 5 (some .int) 1 0 0 [.ref (G.1 + 1), .int w, .int o] h (some (.int w)) (kp h) := by
  refine cm_of rfl (Nat.le_of_ble_eq_true rfl) [(0, .ref (G.1 + 1)), (1, .int w), (2, .int o)] rfl ?_
  obtain ⟨w0, bw, ew⟩ := i_nat (N := 20) hw.1 hw.2
  have tw : w.toInt = (w0 : Int) := i_toNat ew (by omega)
  obtain ⟨o0, bo, eo⟩ := i_nat (N := 20) ho.1 ho.2
  have to : o.toInt = (o0 : Int) := i_toNat eo (by omega)
  refine aw_aload_n 0 dX1_tellMeaning_0 rfl rfl ?_
  refine aw_get fX1_9 dX1_tellMeaning_1 hF.2.1 rfl ?_
  refine aw_iload_n 1 dX1_tellMeaning_4 rfl rfl ?_
  refine aw_iald w0 (ew) (by omega) (by decide) dX1_tellMeaning_5 hF.2.2.1 ?_
  refine aw_toe (nI w0) (xid_at (by omega)) ?_
  refine aw_top (fun v57 ev57 => ?_)
  refine aw_istore_n [(3, .int v57), (0, .ref (G.1 + 1)), (1, .int w), (2, .int o)] dX1_tellMeaning_6 rfl (by decide) rfl ?_
  refine aw_aload_n 1 dX1_tellMeaning_7 rfl rfl ?_
  refine aw_get fX1_9 dX1_tellMeaning_8 hF.2.1 rfl ?_
  refine aw_iload_n 2 dX1_tellMeaning_11 rfl rfl ?_
  refine aw_iload_n 3 dX1_tellMeaning_12 rfl rfl ?_
  refine aw_iast w0 (ew) (by omega) (by decide) dX1_tellMeaning_13 hF.2.2.1 ?_
  refine aw_iconst (0) dX1_tellMeaning_14 (by decide) ?_
  refine aw_istore [(4, .int 0), (3, .int v57), (0, .ref (G.1 + 1)), (1, .int w), (2, .int o)] dX1_tellMeaning_15 (by decide) rfl ?_
  refine aw_lv [(4, .int 0), (3, .int v57), (2, .int o), (1, .int w), (0, .ref (G.1 + 1))] [0, 1, 4, 3, 2] rfl ?_
  refine aw_fg (fun hX => hX[1]? = some (.inr (1, [.ref (G.1 + 2), .ref (G.1 + 3), .ref (G.1 + 4), .ref (G.1 + 5), .ref (G.1 + 6), .ref (G.1 + 7), .ref (G.1 + 8), .ref (G.1 + 9), .ref (G.1 + 10), .ref (G.1 + 11), .int 0, .int 5, .int 1, .int 1])) ∧ hX[2]? = some (.inl (0, 20, .inl (upd (xid 20) w0 o))) ∧ hX[3]? = some (.inl (0, 20, .inl (xid 20))) ∧ hX[6]? = some (.inl (0, 40, .inl (fun _ => 0))) ∧ hX[7]? = some (.inl (0, 40, .inl (fun _ => 0))) ∧ kp h hX) ⟨(gn (by decide) (hF.2.1)), (gs hF.2.2.1), (gn (by decide) (hF.2.2.2.1)), (gn (by decide) (hF.2.2.2.2.2.2.1)), (gn (by decide) (hF.2.2.2.2.2.2.2.1)), kp_set (kp_rf h) (by decide)⟩ ?_
  rintro hX ⟨x1, x2, x3, x6, x7, xk⟩
  refine X1_tellMeaning_l1 x1 x2 ?_ ?_ 20 0 hX _ _ rfl rfl (ex1_rf 3 hX) x3
  · intro j hj
    by_cases e : j = w0
    · exact ⟨o0, by omega, by simp [upd, e, eo]⟩
    · exact ⟨j, hj, by simp [upd, e, xid_at hj]⟩
  intro h' sF k1 m1
  refine aw_iconst (0) dX1_tellMeaning_66 (by decide) ?_
  refine aw_istore [(4, .int 0), (3, .int v57), (2, .int o), (1, .int w), (0, .ref (G.1 + 1))] dX1_tellMeaning_67 (by decide) rfl ?_
  refine aw_lv [(4, .int 0), (3, .int v57), (2, .int o), (1, .int w), (0, .ref (G.1 + 1))] [0, 1, 2, 3, 4] rfl ?_
  refine X1_tellMeaning_l2 (ex1_at k1 (by decide) x1) m1 (ex1_at k1 (by decide) x6) (by decide) ?_ 40 0 h' _ _ rfl rfl (ex1_rf 7 h') (ex1_at k1 (by decide) x7)
  intro h2 k2
  refine aw_aload_n 3 dX1_tellMeaning_103 rfl rfl ?_
  refine aw_dup dX1_tellMeaning_104 rfl ?_
  refine aw_get fX1_53 dX1_tellMeaning_105 (ex1_at k2 (by decide) (ex1_at k1 (by decide) x1)) rfl ?_
  refine aw_iconst (1) dX1_tellMeaning_108 (by decide) ?_
  refine aw_iadd dX1_tellMeaning_109 ?_
  refine aw_toe 2 (by decide) ?_
  refine aw_putQ fX1_53 dX1_tellMeaning_110 [.ref (G.1 + 2), .ref (G.1 + 3), .ref (G.1 + 4), .ref (G.1 + 5), .ref (G.1 + 6), .ref (G.1 + 7), .ref (G.1 + 8), .ref (G.1 + 9), .ref (G.1 + 10), .ref (G.1 + 11), .int 0, .int 5, .int 1, .int 2] (ex1_at k2 (by decide) (ex1_at k1 (by decide) x1)) rfl rfl rfl (Nat.le_of_ble_eq_true rfl) rfl ?_
  refine aw_iload_n 0 dX1_tellMeaning_113 rfl rfl ?_
  exact aw_iret rfl dX1_tellMeaning_114 (by decide) (by decide) ⟨by rw [ev57, ← ew], kp_set ((kp_tr (kp_tr xk (ex1_kp k1 (by decide))) (ex1_kp k2 (by decide)))) (by decide)⟩
set_option maxHeartbeats 4000000 in
theorem A0a {l : Launch} {G : xG} {h : List va_E} {w o : Int32} (hF : xF8 G h) (hw : ¬ (0 ≤ w.toInt ∧ w.toInt < 20)) : CE l G yX8_means cX8_means 3 (some .int) 3 0 0 [.ref (G.1 + 0), .int w, .int o] h (some (.int (-1))) (kp h) := by
  refine cm_of rfl (Nat.le_of_ble_eq_true rfl) [(0, .ref (G.1 + 0)), (1, .int w), (2, .int o)] rfl ?_
  refine aw_iload_n 1 dX8_means_0 rfl rfl ?_
  refine aw_dS [.int w] [] lX8_66 sX8_isWord mX8_isWord dX8_means_1 (X8_isWord_f (by omega)) rfl (Nat.le_of_ble_eq_true rfl) (by decide) (by decide) rfl ?_
  refine aw_if_eq 14 dX8_means_4 (by decide) (fun c4 => ?_) (fun c4 => absurd (by decide) c4)
  refine aw_aload_n 0 dX8_means_14 rfl rfl ?_
  refine aw_iconst (-1) dX8_means_15 (by decide) ?_
  refine aw_eV [.int (-1)] [] lX8_70 vX8_refuse mX8_refuse dX8_means_16 (X8_refuse1 hF) hF.1 rfl rfl rfl (Nat.le_of_ble_eq_true rfl) (by decide) (by decide) rfl (fun h58 q59 => ?_)
  exact aw_iret rfl dX8_means_19 (by decide) (by decide) ⟨rfl, (kp_tr (kp_rf h) q59)⟩
set_option maxHeartbeats 4000000 in
theorem B0a {l : Launch} {G : xG} {h : List va_E} {w o : Int32} (hM : xF9 G h) (hw : ¬ (0 ≤ w.toInt ∧ w.toInt < 20)) : CE l G yX9_means cX9_means 4 (some .int) 2 0 0 [.ref (G.1 + 88), .int w, .int o] h (some (.int (-1))) (fun _ => True) := by
  refine cm_of rfl (Nat.le_of_ble_eq_true rfl) [(0, .ref (G.1 + 88)), (1, .int w), (2, .int o)] rfl ?_
  refine aw_iload_n 1 dX9_means_0 rfl rfl ?_
  refine aw_bipush (20) dX9_means_1 (by decide) ?_
  refine aw_dS [.int w, .int 20] [] lX9_126 sX9_isIn mX9_isIn dX9_means_3 (X9_isIn20_f (by omega)) rfl (Nat.le_of_ble_eq_true rfl) (by decide) (by decide) rfl ?_
  refine aw_if_eq 18 dX9_means_6 (by decide) (fun c6 => ?_) (fun c6 => absurd (by decide) c6)
  refine aw_aload_n 0 dX9_means_18 rfl rfl ?_
  refine aw_iconst (-1) dX9_means_19 (by decide) ?_
  refine aw_eV [.int (-1)] [] lX9_130 vX9_refuse mX9_refuse dX9_means_20 (X9_refuse1 hM) hM.1 rfl rfl rfl (Nat.le_of_ble_eq_true rfl) (by decide) (by decide) rfl (fun h60 q61 => ?_)
  exact aw_iret rfl dX9_means_23 (by decide) (by decide) ⟨rfl, trivial⟩
set_option maxHeartbeats 4000000 in
theorem A0b {l : Launch} {G : xG} {h : List va_E} {w o : Int32} (hF : xF8 G h) (hw : 0 ≤ w.toInt ∧ w.toInt < 20)(ho : ¬ (0 ≤ o.toInt ∧ o.toInt < 20)) : CE l G yX8_means cX8_means 3 (some .int) 3 0 0 [.ref (G.1 + 0), .int w, .int o] h (some (.int (-1))) (kp h) := by
  refine cm_of rfl (Nat.le_of_ble_eq_true rfl) [(0, .ref (G.1 + 0)), (1, .int w), (2, .int o)] rfl ?_
  refine aw_iload_n 1 dX8_means_0 rfl rfl ?_
  refine aw_dS [.int w] [] lX8_66 sX8_isWord mX8_isWord dX8_means_1 (X8_isWord_t (by omega)) rfl (Nat.le_of_ble_eq_true rfl) (by decide) (by decide) rfl ?_
  refine aw_if_eq 14 dX8_means_4 (by decide) (fun c4 => absurd c4 (by decide)) (fun c4 => ?_)
  refine aw_iload_n 2 dX8_means_7 rfl rfl ?_
  refine aw_dS [.int o] [] lX8_66 sX8_isWord mX8_isWord dX8_means_8 (X8_isWord_f (by omega)) rfl (Nat.le_of_ble_eq_true rfl) (by decide) (by decide) rfl ?_
  refine aw_if_ne 20 dX8_means_11 (by decide) (fun c11 => absurd (by decide) c11) (fun c11 => ?_)
  refine aw_aload_n 0 dX8_means_14 rfl rfl ?_
  refine aw_iconst (-1) dX8_means_15 (by decide) ?_
  refine aw_eV [.int (-1)] [] lX8_70 vX8_refuse mX8_refuse dX8_means_16 (X8_refuse1 hF) hF.1 rfl rfl rfl (Nat.le_of_ble_eq_true rfl) (by decide) (by decide) rfl (fun h62 q63 => ?_)
  exact aw_iret rfl dX8_means_19 (by decide) (by decide) ⟨rfl, (kp_tr (kp_rf h) q63)⟩
set_option maxHeartbeats 4000000 in
theorem B0b {l : Launch} {G : xG} {h : List va_E} {w o : Int32} (hM : xF9 G h) (hw : 0 ≤ w.toInt ∧ w.toInt < 20)(ho : ¬ (0 ≤ o.toInt ∧ o.toInt < 20)) : CE l G yX9_means cX9_means 4 (some .int) 2 0 0 [.ref (G.1 + 88), .int w, .int o] h (some (.int (-1))) (fun _ => True) := by
  refine cm_of rfl (Nat.le_of_ble_eq_true rfl) [(0, .ref (G.1 + 88)), (1, .int w), (2, .int o)] rfl ?_
  refine aw_iload_n 1 dX9_means_0 rfl rfl ?_
  refine aw_bipush (20) dX9_means_1 (by decide) ?_
  refine aw_dS [.int w, .int 20] [] lX9_126 sX9_isIn mX9_isIn dX9_means_3 (X9_isIn20_t (by omega)) rfl (Nat.le_of_ble_eq_true rfl) (by decide) (by decide) rfl ?_
  refine aw_if_eq 18 dX9_means_6 (by decide) (fun c6 => absurd c6 (by decide)) (fun c6 => ?_)
  refine aw_iload_n 2 dX9_means_9 rfl rfl ?_
  refine aw_bipush (20) dX9_means_10 (by decide) ?_
  refine aw_dS [.int o, .int 20] [] lX9_126 sX9_isIn mX9_isIn dX9_means_12 (X9_isIn20_f (by omega)) rfl (Nat.le_of_ble_eq_true rfl) (by decide) (by decide) rfl ?_
  refine aw_if_ne 24 dX9_means_15 (by decide) (fun c15 => absurd (by decide) c15) (fun c15 => ?_)
  refine aw_aload_n 0 dX9_means_18 rfl rfl ?_
  refine aw_iconst (-1) dX9_means_19 (by decide) ?_
  refine aw_eV [.int (-1)] [] lX9_130 vX9_refuse mX9_refuse dX9_means_20 (X9_refuse1 hM) hM.1 rfl rfl rfl (Nat.le_of_ble_eq_true rfl) (by decide) (by decide) rfl (fun h64 q65 => ?_)
  exact aw_iret rfl dX9_means_23 (by decide) (by decide) ⟨rfl, trivial⟩
set_option maxHeartbeats 4000000 in
theorem A0c {l : Launch} {G : xG} {h : List va_E} {w o : Int32} (hF : xF8 G h) (hw : 0 ≤ w.toInt ∧ w.toInt < 20)(ho : 0 ≤ o.toInt ∧ o.toInt < 20)(hwo : w.toInt < o.toInt) : CE l G yX8_means cX8_means 3 (some .int) 3 0 0 [.ref (G.1 + 0), .int w, .int o] h (some (.int (-4))) (kp h) := by
  refine cm_of rfl (Nat.le_of_ble_eq_true rfl) [(0, .ref (G.1 + 0)), (1, .int w), (2, .int o)] rfl ?_
  refine aw_iload_n 1 dX8_means_0 rfl rfl ?_
  refine aw_dS [.int w] [] lX8_66 sX8_isWord mX8_isWord dX8_means_1 (X8_isWord_t (by omega)) rfl (Nat.le_of_ble_eq_true rfl) (by decide) (by decide) rfl ?_
  refine aw_if_eq 14 dX8_means_4 (by decide) (fun c4 => absurd c4 (by decide)) (fun c4 => ?_)
  refine aw_iload_n 2 dX8_means_7 rfl rfl ?_
  refine aw_dS [.int o] [] lX8_66 sX8_isWord mX8_isWord dX8_means_8 (X8_isWord_t (by omega)) rfl (Nat.le_of_ble_eq_true rfl) (by decide) (by decide) rfl ?_
  refine aw_if_ne 20 dX8_means_11 (by decide) (fun c11 => ?_) (fun c11 => absurd c11 (by decide))
  refine aw_iload_n 2 dX8_means_20 rfl rfl ?_
  refine aw_iload_n 1 dX8_means_21 rfl rfl ?_
  refine aw_icmp_le 32 dX8_means_22 (by decide) (fun c22 => absurd c22 (by simp only [i_le] <;> omega)) (fun c22 => ?_)
  refine aw_aload_n 0 dX8_means_25 rfl rfl ?_
  refine aw_bipush (-4) dX8_means_26 (by decide) ?_
  refine aw_eV [.int (-4)] [] lX8_70 vX8_refuse mX8_refuse dX8_means_28 (X8_refuse4 hF) hF.1 rfl rfl rfl (Nat.le_of_ble_eq_true rfl) (by decide) (by decide) rfl (fun h66 q67 => ?_)
  exact aw_iret rfl dX8_means_31 (by decide) (by decide) ⟨rfl, (kp_tr (kp_rf h) q67)⟩
set_option maxHeartbeats 4000000 in
theorem B0c {l : Launch} {G : xG} {h : List va_E} {w o : Int32} (hM : xF9 G h) (hw : 0 ≤ w.toInt ∧ w.toInt < 20)(ho : 0 ≤ o.toInt ∧ o.toInt < 20)(hwo : w.toInt < o.toInt) : CE l G yX9_means cX9_means 4 (some .int) 2 0 0 [.ref (G.1 + 88), .int w, .int o] h (some (.int (-4))) (fun _ => True) := by
  refine cm_of rfl (Nat.le_of_ble_eq_true rfl) [(0, .ref (G.1 + 88)), (1, .int w), (2, .int o)] rfl ?_
  refine aw_iload_n 1 dX9_means_0 rfl rfl ?_
  refine aw_bipush (20) dX9_means_1 (by decide) ?_
  refine aw_dS [.int w, .int 20] [] lX9_126 sX9_isIn mX9_isIn dX9_means_3 (X9_isIn20_t (by omega)) rfl (Nat.le_of_ble_eq_true rfl) (by decide) (by decide) rfl ?_
  refine aw_if_eq 18 dX9_means_6 (by decide) (fun c6 => absurd c6 (by decide)) (fun c6 => ?_)
  refine aw_iload_n 2 dX9_means_9 rfl rfl ?_
  refine aw_bipush (20) dX9_means_10 (by decide) ?_
  refine aw_dS [.int o, .int 20] [] lX9_126 sX9_isIn mX9_isIn dX9_means_12 (X9_isIn20_t (by omega)) rfl (Nat.le_of_ble_eq_true rfl) (by decide) (by decide) rfl ?_
  refine aw_if_ne 24 dX9_means_15 (by decide) (fun c15 => ?_) (fun c15 => absurd c15 (by decide))
  refine aw_iload_n 2 dX9_means_24 rfl rfl ?_
  refine aw_iload_n 1 dX9_means_25 rfl rfl ?_
  refine aw_icmp_le 36 dX9_means_26 (by decide) (fun c26 => absurd c26 (by simp only [i_le] <;> omega)) (fun c26 => ?_)
  refine aw_aload_n 0 dX9_means_29 rfl rfl ?_
  refine aw_bipush (-4) dX9_means_30 (by decide) ?_
  refine aw_eV [.int (-4)] [] lX9_130 vX9_refuse mX9_refuse dX9_means_32 (X9_refuse4 hM) hM.1 rfl rfl rfl (Nat.le_of_ble_eq_true rfl) (by decide) (by decide) rfl (fun h68 q69 => ?_)
  exact aw_iret rfl dX9_means_35 (by decide) (by decide) ⟨rfl, trivial⟩
set_option maxHeartbeats 4000000 in
theorem A0d {l : Launch} {G : xG} {h : List va_E} {w o : Int32} (hF : xF8 G h) (hw : 0 ≤ w.toInt ∧ w.toInt < 20)(ho : 0 ≤ o.toInt ∧ o.toInt < 20)(hwo : o.toInt ≤ w.toInt) : CE l G yX8_means cX8_means 3 (some .int) 3 0 0 [.ref (G.1 + 0), .int w, .int o] h (some (.int w)) (kp h) := by
  refine cm_of rfl (Nat.le_of_ble_eq_true rfl) [(0, .ref (G.1 + 0)), (1, .int w), (2, .int o)] rfl ?_
  obtain ⟨w0, bw, ew⟩ := i_nat (N := 20) hw.1 hw.2
  have tw : w.toInt = (w0 : Int) := i_toNat ew (by omega)
  obtain ⟨o0, bo, eo⟩ := i_nat (N := 20) ho.1 ho.2
  have to : o.toInt = (o0 : Int) := i_toNat eo (by omega)
  refine aw_iload_n 1 dX8_means_0 rfl rfl ?_
  refine aw_dS [.int w] [] lX8_66 sX8_isWord mX8_isWord dX8_means_1 (X8_isWord_t (by omega)) rfl (Nat.le_of_ble_eq_true rfl) (by decide) (by decide) rfl ?_
  refine aw_if_eq 14 dX8_means_4 (by decide) (fun c4 => absurd c4 (by decide)) (fun c4 => ?_)
  refine aw_iload_n 2 dX8_means_7 rfl rfl ?_
  refine aw_dS [.int o] [] lX8_66 sX8_isWord mX8_isWord dX8_means_8 (X8_isWord_t (by omega)) rfl (Nat.le_of_ble_eq_true rfl) (by decide) (by decide) rfl ?_
  refine aw_if_ne 20 dX8_means_11 (by decide) (fun c11 => ?_) (fun c11 => absurd c11 (by decide))
  refine aw_iload_n 2 dX8_means_20 rfl rfl ?_
  refine aw_iload_n 1 dX8_means_21 rfl rfl ?_
  refine aw_icmp_le 32 dX8_means_22 (by decide) (fun c22 => ?_) (fun c22 => absurd (by simp only [i_le, (i_toNat (eo) (by omega)), (i_toNat (ew) (by omega))] <;> omega) c22)
  refine aw_aload_n 0 dX8_means_32 rfl rfl ?_
  refine aw_get fX8_20 dX8_means_33 hF.1 rfl ?_
  refine aw_iload_n 1 dX8_means_36 rfl rfl ?_
  refine aw_iload_n 2 dX8_means_37 rfl rfl ?_
  refine aw_eV [.int w, .int o] [] lX8_74 vX1_tellMeaning mX1_tellMeaning dX8_means_38 (X1_tellMeaning_o hF hw ho) hF.2.1 rfl rfl rfl (Nat.le_of_ble_eq_true rfl) (by decide) (by decide) rfl (fun h70 q71 => ?_)
  exact aw_iret rfl dX8_means_41 (by decide) (by decide) ⟨rfl, (kp_tr (kp_rf h) q71)⟩
set_option maxHeartbeats 4000000 in
theorem B0d {l : Launch} {G : xG} {h : List va_E} {w o : Int32} (hM : xF9 G h) (hw : 0 ≤ w.toInt ∧ w.toInt < 20)(ho : 0 ≤ o.toInt ∧ o.toInt < 20)(hwo : o.toInt ≤ w.toInt) : CE l G yX9_means cX9_means 4 (some .int) 2 0 0 [.ref (G.1 + 88), .int w, .int o] h (some (.int w)) (fun _ => True) := by
  refine cm_of rfl (Nat.le_of_ble_eq_true rfl) [(0, .ref (G.1 + 88)), (1, .int w), (2, .int o)] rfl ?_
  obtain ⟨w0, bw, ew⟩ := i_nat (N := 20) hw.1 hw.2
  have tw : w.toInt = (w0 : Int) := i_toNat ew (by omega)
  obtain ⟨o0, bo, eo⟩ := i_nat (N := 20) ho.1 ho.2
  have to : o.toInt = (o0 : Int) := i_toNat eo (by omega)
  refine aw_iload_n 1 dX9_means_0 rfl rfl ?_
  refine aw_bipush (20) dX9_means_1 (by decide) ?_
  refine aw_dS [.int w, .int 20] [] lX9_126 sX9_isIn mX9_isIn dX9_means_3 (X9_isIn20_t (by omega)) rfl (Nat.le_of_ble_eq_true rfl) (by decide) (by decide) rfl ?_
  refine aw_if_eq 18 dX9_means_6 (by decide) (fun c6 => absurd c6 (by decide)) (fun c6 => ?_)
  refine aw_iload_n 2 dX9_means_9 rfl rfl ?_
  refine aw_bipush (20) dX9_means_10 (by decide) ?_
  refine aw_dS [.int o, .int 20] [] lX9_126 sX9_isIn mX9_isIn dX9_means_12 (X9_isIn20_t (by omega)) rfl (Nat.le_of_ble_eq_true rfl) (by decide) (by decide) rfl ?_
  refine aw_if_ne 24 dX9_means_15 (by decide) (fun c15 => ?_) (fun c15 => absurd c15 (by decide))
  refine aw_iload_n 2 dX9_means_24 rfl rfl ?_
  refine aw_iload_n 1 dX9_means_25 rfl rfl ?_
  refine aw_icmp_le 36 dX9_means_26 (by decide) (fun c26 => ?_) (fun c26 => absurd (by simp only [i_le, (i_toNat (eo) (by omega)), (i_toNat (ew) (by omega))] <;> omega) c26)
  refine aw_aload_n 0 dX9_means_36 rfl rfl ?_
  refine aw_get fX9_13 dX9_means_37 hM.1 rfl ?_
  refine aw_iload_n 1 dX9_means_40 rfl rfl ?_
  refine aw_iald w0 (ew) (by omega) (by decide) dX9_means_41 hM.2.2.1 ?_
  refine aw_toe (nI w0) (xid_at (by omega)) ?_
  refine aw_top (fun v72 ev72 => ?_)
  refine aw_istore_n [(3, .int v72), (0, .ref (G.1 + 88)), (1, .int w), (2, .int o)] dX9_means_42 rfl (by decide) rfl ?_
  refine aw_aload_n 1 dX9_means_43 rfl rfl ?_
  refine aw_get fX9_13 dX9_means_44 hM.1 rfl ?_
  refine aw_iload_n 2 dX9_means_47 rfl rfl ?_
  refine aw_iload_n 3 dX9_means_48 rfl rfl ?_
  refine aw_iast w0 (ew) (by omega) (by decide) dX9_means_49 hM.2.2.1 ?_
  refine aw_iload_n 0 dX9_means_50 rfl rfl ?_
  exact aw_iret rfl dX9_means_51 (by decide) (by decide) ⟨by rw [ev72, ew], trivial⟩
