def xCat (G : xG) (m se ye fi : Nat → Nat) (W Sn Z Ro Co : Nat → Int32) (Ba : Nat → Int64) (nb sp fa : Nat) (ver : Int32) (h : List va_E) : Prop := h[1]? = some (.inr (1, [.ref (G.1 + 2), .ref (G.1 + 3), .ref (G.1 + 4), .ref (G.1 + 5), .ref (G.1 + 6), .ref (G.1 + 7), .ref (G.1 + 8), .ref (G.1 + 9), .ref (G.1 + 10), .ref (G.1 + 11), .int (nI nb), .int (nI sp), .int (nI fa), .int ver])) ∧ h[2]? = some (.inl (0, 20, .inl (nA m))) ∧ h[3]? = some (.inl (0, 20, .inl (nA se))) ∧ h[4]? = some (.inl (0, 4, .inl (nA ye))) ∧ h[5]? = some (.inl (0, 4, .inl (nA fi))) ∧ h[6]? = some (.inl (0, 40, .inl W)) ∧ h[7]? = some (.inl (0, 40, .inl Sn)) ∧ h[8]? = some (.inl (0, 40, .inl Z)) ∧ h[9]? = some (.inl (0, 40, .inl Ro)) ∧ h[10]? = some (.inl (0, 40, .inl Co)) ∧ h[11]? = some (.inl (1, 40, .inr (.inl Ba)))
set_option maxHeartbeats 4000000 in
theorem gX1_sensesOf_l {l : Launch} {G : xG} {R : Room} {E : Array Value → State → Prop} {QF : List Frame → Array Value → State → State → Prop} {kc ns : Nat} {h : List va_E} {nb sp fa : Nat} {ver w : Int32} {se : Nat → Nat} (h1 : h[1]? = some (.inr (1, [.ref (G.1 + 2), .ref (G.1 + 3), .ref (G.1 + 4), .ref (G.1 + 5), .ref (G.1 + 6), .ref (G.1 + 7), .ref (G.1 + 8), .ref (G.1 + 9), .ref (G.1 + 10), .ref (G.1 + 11), .int (nI nb), .int (nI sp), .int (nI fa), .int ver]))) (h3 : h[3]? = some (.inl (0, 20, .inl (nA se))))
    (K : AW l G yX1_sensesOf cX1_sensesOf 4 (some .int) R E QF kc ns 35 [(2, .int (snF se w 20))] [] h) :
    ∀ (mm i : Nat) (fv iv : Int32), i + mm = 20 → iv = nI i → fv = snF se w i → AW l G yX1_sensesOf cX1_sensesOf 4 (some .int) R E QF kc ns 4 [(3, .int iv), (2, .int fv), (1, .int w), (0, .ref (G.1 + 1))] [] h := by
  intro mm
  induction mm with
  | zero =>
    intro i fv iv hi ei ef
    have e20 : i = 20 := by omega
    subst e20; subst ef
    refine aw_iload_n 0 dX1_sensesOf_4 rfl rfl ?_
    refine aw_bipush (20) dX1_sensesOf_5 (by decide) ?_
    refine aw_icmp_ge 35 dX1_sensesOf_7 (by decide) (fun c7 => ?_) (fun c7 => absurd (by simp only [i_le, (i_toNat (ei) (by omega)), (show (20 : Int32).toInt = 20 from rfl)] <;> omega) c7)
    refine aw_lv [(2, .int (snF se w 20))] [1] rfl ?_
    exact K
  | succ mm ih =>
    intro i fv iv hi ei ef
    refine aw_iload_n 0 dX1_sensesOf_4 rfl rfl ?_
    refine aw_bipush (20) dX1_sensesOf_5 (by decide) ?_
    refine aw_icmp_ge 35 dX1_sensesOf_7 (by decide) (fun c7 => absurd c7 (by simp only [i_le, (i_toNat (ei) (by omega)), (show (20 : Int32).toInt = 20 from rfl)] <;> omega)) (fun c7 => ?_)
    refine aw_iload_n 2 dX1_sensesOf_10 rfl rfl ?_
    refine aw_iload_n 0 dX1_sensesOf_11 rfl rfl ?_
    refine aw_ishr dX1_sensesOf_12 ?_
    refine aw_iconst (1) dX1_sensesOf_13 (by decide) ?_
    refine aw_iand dX1_sensesOf_14 ?_
    refine aw_if_eq 29 dX1_sensesOf_15 (by decide) (fun c15 => ?_) (fun c15 => ?_)
    · obtain ⟨v1, ev1⟩ : ∃ q : Int32, q = iv + Int32.ofInt (1) := ⟨_, rfl⟩
      refine aw_iinc (j := 0) v1 [(3, .int v1), (2, .int fv), (1, .int w), (0, .ref (G.1 + 1))] dX1_sensesOf_29 rfl ev1.symm (by decide) rfl ?_
      refine aw_goto 4 dX1_sensesOf_32 (by decide) ?_
      refine aw_lv [(3, .int v1), (2, .int fv), (1, .int w), (0, .ref (G.1 + 1))] [0, 1, 2, 3] rfl ?_
      exact ih (i + 1) _ _ (by omega) (ev1.trans (nv_inc (ei))) (by rw [snF_0 (by rw [← ei]; exact c15)]; exact ef)
    · refine aw_iload_n 1 dX1_sensesOf_18 rfl rfl ?_
      refine aw_iconst (1) dX1_sensesOf_19 (by decide) ?_
      refine aw_aload_n 3 dX1_sensesOf_20 rfl rfl ?_
      refine aw_get fX1_15 dX1_sensesOf_21 h1 rfl ?_
      refine aw_iload_n 0 dX1_sensesOf_24 rfl rfl ?_
      refine aw_iald i (ei) (by omega) (by decide) dX1_sensesOf_25 h3 ?_
      refine aw_toe (nI (se i)) (rfl) ?_
      refine aw_ishl dX1_sensesOf_26 ?_
      refine aw_ior dX1_sensesOf_27 ?_
      refine aw_top (fun v2 ev2 => ?_)
      refine aw_istore_n [(2, .int v2), (3, .int iv), (1, .int w), (0, .ref (G.1 + 1))] dX1_sensesOf_28 rfl (by decide) rfl ?_
      obtain ⟨v3, ev3⟩ : ∃ q : Int32, q = iv + Int32.ofInt (1) := ⟨_, rfl⟩
      refine aw_iinc (j := 1) v3 [(3, .int v3), (2, .int v2), (1, .int w), (0, .ref (G.1 + 1))] dX1_sensesOf_29 rfl ev3.symm (by decide) rfl ?_
      refine aw_goto 4 dX1_sensesOf_32 (by decide) ?_
      refine aw_lv [(3, .int v3), (2, .int v2), (1, .int w), (0, .ref (G.1 + 1))] [0, 1, 2, 3] rfl ?_
      exact ih (i + 1) _ _ (by omega) (ev3.trans (nv_inc (ei))) (by rw [snF_1 (by rw [← ei]; exact c15), ev2, ef])
set_option maxHeartbeats 4000000 in
theorem gX1_sensesOf {l : Launch} {G : xG} {h : List va_E} {nb sp fa : Nat} {ver w : Int32} {se : Nat → Nat}  (h1 : h[1]? = some (.inr (1, [.ref (G.1 + 2), .ref (G.1 + 3), .ref (G.1 + 4), .ref (G.1 + 5), .ref (G.1 + 6), .ref (G.1 + 7), .ref (G.1 + 8), .ref (G.1 + 9), .ref (G.1 + 10), .ref (G.1 + 11), .int (nI nb), .int (nI sp), .int (nI fa), .int ver]))) (h3 : h[3]? = some (.inl (0, 20, .inl (nA se)))) : CD l G yX1_sensesOf cX1_sensesOf 4 (some .int) 0 0 0 [.ref (G.1 + 1), .int w] h (some (.int (snF se w 20))) h := by
  refine cm_of rfl (Nat.le_of_ble_eq_true rfl) [(0, .ref (G.1 + 1)), (1, .int w)] rfl ?_
  refine aw_iconst (0) dX1_sensesOf_0 (by decide) ?_
  refine aw_istore_n [(2, .int 0), (0, .ref (G.1 + 1)), (1, .int w)] dX1_sensesOf_1 rfl (by decide) rfl ?_
  refine aw_iconst (0) dX1_sensesOf_2 (by decide) ?_
  refine aw_istore_n [(3, .int 0), (2, .int 0), (0, .ref (G.1 + 1)), (1, .int w)] dX1_sensesOf_3 rfl (by decide) rfl ?_
  refine aw_lv [(3, .int 0), (2, .int 0), (1, .int w), (0, .ref (G.1 + 1))] [0, 1, 3, 2] rfl ?_
  refine gX1_sensesOf_l h1 h3 ?_ 20 0 _ _ rfl rfl rfl
  refine aw_iload_n 0 dX1_sensesOf_35 rfl rfl ?_
  exact aw_iret rfl dX1_sensesOf_36 (by decide) (by decide) ⟨rfl, rfl⟩
set_option maxHeartbeats 4000000 in
theorem gX1_tellMeaning_l1 {l : Launch} {G : xG} {R : Room} {E : Array Value → State → Prop} {QF : List Frame → Array Value → State → State → Prop} {kc ns : Nat} {nb sp fa : Nat} {ver w o wv : Int32} {m : Nat → Nat} {hX : List va_E} (h1 : hX[1]? = some (.inr (1, [.ref (G.1 + 2), .ref (G.1 + 3), .ref (G.1 + 4), .ref (G.1 + 5), .ref (G.1 + 6), .ref (G.1 + 7), .ref (G.1 + 8), .ref (G.1 + 9), .ref (G.1 + 10), .ref (G.1 + 11), .int (nI nb), .int (nI sp), .int (nI fa), .int ver]))) (h2 : hX[2]? = some (.inl (0, 20, .inl (nA m)))) (hm : ∀ j, j < 20 → m j ≤ j)
    (K : ∀ h' se, ex1 3 hX h' → h'[3]? = some (.inl (0, 20, .inl (nA se))) → (∀ j, j < 20 → se j = root m j) → AW l G yX1_tellMeaning cX1_tellMeaning 5 (some .int) R E QF kc ns 66 [(3, .int wv), (2, .int o), (1, .int w), (0, .ref (G.1 + 1))] [] h') :
    ∀ (mm i : Nat) (h : List va_E) (se : Nat → Nat) (iv : Int32), i + mm = 20 → iv = nI i → ex1 3 hX h → h[3]? = some (.inl (0, 20, .inl (nA se))) → (∀ j, j < i → se j = root m j) → AW l G yX1_tellMeaning cX1_tellMeaning 5 (some .int) R E QF kc ns 17 [(4, .int iv), (3, .int wv), (2, .int o), (1, .int w), (0, .ref (G.1 + 1))] [] h := by
  intro mm
  induction mm with
  | zero =>
    intro i h se iv hi ei hk h3 hr
    have g1 := ex1_at hk (by decide) h1
    have g2 := ex1_at hk (by decide) h2
    refine aw_iload 0 dX1_tellMeaning_17 rfl ?_
    refine aw_bipush (20) dX1_tellMeaning_19 (by decide) ?_
    refine aw_icmp_ge 66 dX1_tellMeaning_21 (by decide) (fun c21 => ?_) (fun c21 => absurd (by simp only [i_le, (i_toNat (ei) (by omega)), (show (20 : Int32).toInt = 20 from rfl)] <;> omega) c21)
    refine aw_lv [(3, .int wv), (2, .int o), (1, .int w), (0, .ref (G.1 + 1))] [1, 2, 3, 4] rfl ?_
    exact K _ _ hk h3 (by rw [show 20 = i by omega]; exact hr)
  | succ mm ih =>
    intro i h se iv hi ei hk h3 hr
    have g1 := ex1_at hk (by decide) h1
    have g2 := ex1_at hk (by decide) h2
    have hmi := hm i (by omega)
    refine aw_iload 0 dX1_tellMeaning_17 rfl ?_
    refine aw_bipush (20) dX1_tellMeaning_19 (by decide) ?_
    refine aw_icmp_ge 66 dX1_tellMeaning_21 (by decide) (fun c21 => absurd c21 (by simp only [i_le, (i_toNat (ei) (by omega)), (show (20 : Int32).toInt = 20 from rfl)] <;> omega)) (fun c21 => ?_)
    refine aw_aload_n 4 dX1_tellMeaning_24 rfl rfl ?_
    refine aw_get fX1_15 dX1_tellMeaning_25 g1 rfl ?_
    refine aw_iload 0 dX1_tellMeaning_28 rfl ?_
    refine aw_aload_n 4 dX1_tellMeaning_30 rfl rfl ?_
    refine aw_get fX1_9 dX1_tellMeaning_31 g1 rfl ?_
    refine aw_iload 0 dX1_tellMeaning_34 rfl ?_
    refine aw_iald i (ei) (by omega) (by decide) dX1_tellMeaning_36 g2 ?_
    refine aw_toe (nI (m i)) (rfl) ?_
    refine aw_iload 0 dX1_tellMeaning_37 rfl ?_
    refine aw_icmp_ne 47 dX1_tellMeaning_39 (by decide) (fun c39 => ?_) (fun c39 => ?_)
    · refine aw_aload_n 4 dX1_tellMeaning_47 rfl rfl ?_
      refine aw_get fX1_15 dX1_tellMeaning_48 g1 rfl ?_
      refine aw_aload_n 4 dX1_tellMeaning_51 rfl rfl ?_
      refine aw_get fX1_9 dX1_tellMeaning_52 g1 rfl ?_
      refine aw_iload 0 dX1_tellMeaning_55 rfl ?_
      refine aw_iald i (ei) (by omega) (by decide) dX1_tellMeaning_57 g2 ?_
      refine aw_toe (nI (m i)) (rfl) ?_
      refine aw_iald (m i) (rfl) (by omega) (by decide) dX1_tellMeaning_58 h3 ?_
      refine aw_toe (nI (se (m i))) (rfl) ?_
      refine aw_iast i (ei) (by omega) (by decide) dX1_tellMeaning_59 h3 ?_
      rw [nA_u (f := se) (i := i) (x := (nI (se (m i)))) (v := se (m i)) (rfl)]
      obtain ⟨v4, ev4⟩ : ∃ q : Int32, q = iv + Int32.ofInt (1) := ⟨_, rfl⟩
      refine aw_iinc (j := 0) v4 [(4, .int v4), (3, .int wv), (2, .int o), (1, .int w), (0, .ref (G.1 + 1))] dX1_tellMeaning_60 rfl ev4.symm (by decide) rfl ?_
      refine aw_goto 17 dX1_tellMeaning_63 (by decide) ?_
      refine aw_lv [(4, .int v4), (3, .int wv), (2, .int o), (1, .int w), (0, .ref (G.1 + 1))] [0, 1, 2, 3, 4] rfl ?_
      refine ih (i + 1) _ _ _ (by omega) (ev4.trans (nv_inc (ei))) (ex1_set hk) ((gs h3)) ?_
      intro j hj
      by_cases hji : j = i
      · have hlt : m i < i := by rcases Nat.lt_or_eq_of_le hmi with q | q; exact q; exact absurd (by rw [q, ei]) c39
        rw [hji, un_s, root_st hlt]; exact hr _ hlt
      · rw [un_n hji]; exact hr j (by omega)
    · refine aw_iload 0 dX1_tellMeaning_42 rfl ?_
      refine aw_goto 59 dX1_tellMeaning_44 (by decide) ?_
      refine aw_iast i (ei) (by omega) (by decide) dX1_tellMeaning_59 h3 ?_
      rw [nA_u (f := se) (i := i) (x := iv) (v := i) (ei)]
      obtain ⟨v5, ev5⟩ : ∃ q : Int32, q = iv + Int32.ofInt (1) := ⟨_, rfl⟩
      refine aw_iinc (j := 0) v5 [(4, .int v5), (3, .int wv), (2, .int o), (1, .int w), (0, .ref (G.1 + 1))] dX1_tellMeaning_60 rfl ev5.symm (by decide) rfl ?_
      refine aw_goto 17 dX1_tellMeaning_63 (by decide) ?_
      refine aw_lv [(4, .int v5), (3, .int wv), (2, .int o), (1, .int w), (0, .ref (G.1 + 1))] [0, 1, 2, 3, 4] rfl ?_
      refine ih (i + 1) _ _ _ (by omega) (ev5.trans (nv_inc (ei))) (ex1_set hk) ((gs h3)) ?_
      intro j hj
      by_cases hji : j = i
      · have heq : m i = i := (nI_eq (by omega) (by omega)).mp (c39.trans ei)
        rw [hji, un_s, root_fix (by omega)]
      · rw [un_n hji]; exact hr j (by omega)
