def xjF (G : xG) (h : List va_E) (k : Nat) : Prop := h[13 + 3 * k]? = some (.inr (4, [.ref (G.1 + (14 + 3 * k)), .ref (G.1 + (15 + 3 * k)), .int 0, .int 0, .int 0])) ∧ h[14 + 3 * k]? = some (.inl (0, 10, .inl (fun _ => 0))) ∧ h[15 + 3 * k]? = some (.inl (2, 10, .inl (fun _ => 0)))
theorem xjF_k {G : xG} {h h2 : List va_E} {k b : Nat} (p : xjF G h k) (e : ∀ j, 13 ≤ j → j < b → h2[j]? = h[j]?) (hb : 16 + 3 * k ≤ b) : xjF G h2 k := by
  obtain ⟨p1, p2, p3⟩ := p
  exact ⟨by rw [e _ (by omega) (by omega)]; exact p1, by rw [e _ (by omega) (by omega)]; exact p2, by rw [e _ (by omega) (by omega)]; exact p3⟩
set_option maxHeartbeats 4000000 in
theorem X8_init_loop {l : Launch} {G : xG} {R : Room} {E : Array Value → State → Prop} {QF : List Frame → Array Value → State → State → Prop} (hR : 2 ≤ R.frames ∧ 60 ≤ R.locals ∧ 60 ≤ R.cells ∧ 800 ≤ R.slots) {hX : List va_E} (c0 : hX[0]? = some (.inr (8, [.ref (G.1 + 1), .ref (G.1 + 12), .null, .null, .null, .null, .null, .null, .null, .null])))
    (K : ∀ h', h'.length = 61 → lo 12 hX h' → h'[12]? = some (.inl (3, 16, .inr (.inr (.inr (.inr (xjo G.1 16)))))) → (∀ k, k < 16 → xjF G h' k) → AW l G yX8_init cX8_init 2 none R E QF 60 724 64 [(0, .ref (G.1 + 0))] [] h') :
    ∀ (n i : Nat) (h : List va_E) (iv : Int32), i + n = 16 → iv = nI i → h.length = 13 + 3 * i → lo 12 hX h → h[12]? = some (.inl (3, 16, .inr (.inr (.inr (.inr (xjo G.1 i)))))) → (∀ k, k < i → xjF G h k) → AW l G yX8_init cX8_init 2 none R E QF (12 + 3 * i) (324 + 25 * i) 36 [(1, .int iv), (0, .ref (G.1 + 0))] [] h := by
  intro n
  induction n with
  | zero =>
    intro i h iv hi ei hl hk h12 hj
    have hi' : i = 16 := by omega
    subst hi'
    have f0 := lo_at hk (by decide) c0
    refine aw_iload_n 0 dX8_init_36 rfl rfl ?_
    refine aw_aload_n 1 dX8_init_37 rfl rfl ?_
    refine aw_get fX8_26 dX8_init_38 f0 rfl ?_
    refine aw_alen (16) dX8_init_41 h12 rfl rfl ?_
    refine aw_icmp_ge 64 dX8_init_42 (by decide) (fun c42 => ?_) (fun c42 => absurd (by simp only [i_le, (i_toNat (ei) (by omega)), (show (16 : Int32).toInt = 16 from rfl)]; omega) c42)
    refine aw_lv [(0, .ref (G.1 + 0))] [1] rfl ?_
    exact aw_widen (by decide) (by decide) (K _ (by simpa using hl) hk h12 hj)
  | succ n ih =>
    intro i h iv hi ei hl hk h12 hj
    have f0 := lo_at hk (by decide) c0
    refine aw_iload_n 0 dX8_init_36 rfl rfl ?_
    refine aw_aload_n 1 dX8_init_37 rfl rfl ?_
    refine aw_get fX8_26 dX8_init_38 f0 rfl ?_
    refine aw_alen (16) dX8_init_41 h12 rfl rfl ?_
    refine aw_icmp_ge 64 dX8_init_42 (by decide) (fun c42 => absurd c42 (by simp only [i_le, (i_toNat (ei) (by omega)), (show (16 : Int32).toInt = 16 from rfl)]; omega)) (fun c42 => ?_)
    refine aw_aload_n 1 dX8_init_45 rfl rfl ?_
    refine aw_get fX8_26 dX8_init_46 f0 rfl ?_
    refine aw_iload_n 0 dX8_init_49 rfl rfl ?_
    refine aw_newQ (13 + 3 * i) nX8_24 dX8_init_50 [.null, .null, .int 0, .int 0, .int 0] (by decide) (by omega) (by omega) (by simp [hl] <;> omega) ?_
    refine aw_dup dX8_init_53 rfl ?_
    refine aw_eN [] [.ref (G.1 + (13 + 3 * i)), .int iv, .ref (G.1 + 12)] lX8_30 vX4_init mX4_init dX8_init_54 (KX4_init (a := 13 + 3 * i) (by simp [hl]) (gp (by simp [hl] <;> omega))) rfl (Nat.le_of_ble_eq_true rfl) (by omega) (by omega) rfl (fun h2 qq => ?_)
    obtain ⟨ql, qa, q1, q2, qk⟩ := qq
    refine aw_aast i (ei) (by omega) (by decide) dX8_init_57 (lo_at qk (by omega) (ga (h12))) qa rfl rfl ?_
    obtain ⟨v2, ev2⟩ : ∃ q : Int32, q = iv + Int32.ofInt (1) := ⟨_, rfl⟩
    refine aw_iinc (j := 0) v2 [(1, .int v2), (0, .ref (G.1 + 0))] dX8_init_58 rfl ev2.symm (by decide) rfl ?_
    refine aw_goto 36 dX8_init_61 (by decide) ?_
    refine aw_widen (k1 := 12 + 3 * (i + 1)) (n1 := 324 + 25 * (i + 1)) (by omega) (by omega) ?_
    refine ih (i + 1) _ _ (by omega) (ev2.trans (nv_inc (ei))) (by simp [ql] <;> omega) (lo_set (lo_tr (lo_app (hk) (by simp [hl] <;> omega)) qk (by omega)) (by decide)) ?_ ?_
    · rw [← xjo_q G.1 i (i + 1) (13 + 3 * i) rfl rfl]; exact (gs (lo_at qk (by omega) (ga (h12))))
    · intro k hk2
      by_cases hki : k < i
      · exact xjF_k (b := 13 + 3 * i) (hj k hki) (fun j j1 j2 => by rw [List.getElem?_set_ne (by omega), qk j (by omega), List.getElem?_append_left (by omega)]) (by omega)
      · have hki2 : k = i := by omega
        subst hki2
        refine ⟨?_, ?_, ?_⟩
        · rw [List.getElem?_set_ne (by omega), qa, show 13 + 3 * k + 1 = 14 + 3 * k by omega, show 13 + 3 * k + 2 = 15 + 3 * k by omega]
        · rw [List.getElem?_set_ne (by omega), show 14 + 3 * k = 13 + 3 * k + 1 by omega, q1]
        · rw [List.getElem?_set_ne (by omega), show 15 + 3 * k = 13 + 3 * k + 2 by omega, q2]
def xF8 (G : xG) (h1 : List va_E) : Prop := h1[0]? = some (.inr (8, [.ref (G.1 + 1), .ref (G.1 + 12), .ref (G.1 + 61), .ref (G.1 + 69), .ref (G.1 + 77), .ref (G.1 + 79), .ref (G.1 + 84), .ref (G.1 + 87), .null, .null])) ∧ h1[1]? = some (.inr (1, [.ref (G.1 + 2), .ref (G.1 + 3), .ref (G.1 + 4), .ref (G.1 + 5), .ref (G.1 + 6), .ref (G.1 + 7), .ref (G.1 + 8), .ref (G.1 + 9), .ref (G.1 + 10), .ref (G.1 + 11), .int 0, .int 5, .int 1, .int 1])) ∧ h1[2]? = some (.inl (0, 20, .inl (xid 20))) ∧ h1[3]? = some (.inl (0, 20, .inl (xid 20))) ∧ h1[4]? = some (.inl (0, 4, .inl (xcs 1500 4))) ∧ h1[5]? = some (.inl (0, 4, .inl (fun _ => 0))) ∧ h1[6]? = some (.inl (0, 40, .inl (fun _ => 0))) ∧ h1[7]? = some (.inl (0, 40, .inl (fun _ => 0))) ∧ h1[8]? = some (.inl (0, 40, .inl (fun _ => 0))) ∧ h1[9]? = some (.inl (0, 40, .inl (fun _ => 0))) ∧ h1[10]? = some (.inl (0, 40, .inl (fun _ => 0))) ∧ h1[11]? = some (.inl (1, 40, .inr (.inl (fun _ => 0)))) ∧ h1[12]? = some (.inl (3, 16, .inr (.inr (.inr (.inr (xjo G.1 16)))))) ∧ h1[61]? = some (.inr (5, [.ref (G.1 + 62), .ref (G.1 + 63), .ref (G.1 + 64), .ref (G.1 + 65), .ref (G.1 + 66), .ref (G.1 + 67), .ref (G.1 + 68), .int 0, .int 0])) ∧ h1[62]? = some (.inl (0, 60, .inl (fun _ => 0))) ∧ h1[63]? = some (.inl (0, 60, .inl (fun _ => 0))) ∧ h1[64]? = some (.inl (0, 60, .inl (fun _ => 0))) ∧ h1[65]? = some (.inl (0, 60, .inl (fun _ => 0))) ∧ h1[66]? = some (.inl (0, 60, .inl (fun _ => 0))) ∧ h1[67]? = some (.inl (0, 60, .inl (fun _ => 0))) ∧ h1[68]? = some (.inl (0, 60, .inl (fun _ => 0))) ∧ h1[69]? = some (.inr (5, [.ref (G.1 + 70), .ref (G.1 + 71), .ref (G.1 + 72), .ref (G.1 + 73), .ref (G.1 + 74), .ref (G.1 + 75), .ref (G.1 + 76), .int 0, .int 0])) ∧ h1[70]? = some (.inl (0, 60, .inl (fun _ => 0))) ∧ h1[71]? = some (.inl (0, 60, .inl (fun _ => 0))) ∧ h1[72]? = some (.inl (0, 60, .inl (fun _ => 0))) ∧ h1[73]? = some (.inl (0, 60, .inl (fun _ => 0))) ∧ h1[74]? = some (.inl (0, 60, .inl (fun _ => 0))) ∧ h1[75]? = some (.inl (0, 60, .inl (fun _ => 0))) ∧ h1[76]? = some (.inl (0, 60, .inl (fun _ => 0))) ∧ h1[77]? = some (.inr (2, [.ref (G.1 + 78), .int 0, .int (-9), .int (-9), .int 0])) ∧ h1[78]? = some (.inl (0, 60, .inl (fun _ => 0))) ∧ h1[79]? = some (.inr (6, [.ref (G.1 + 80), .ref (G.1 + 81), .ref (G.1 + 82), .ref (G.1 + 83), .int 0])) ∧ h1[80]? = some (.inl (0, 40, .inl (fun _ => 0))) ∧ h1[81]? = some (.inl (0, 40, .inl (fun _ => 0))) ∧ h1[82]? = some (.inl (0, 40, .inl (fun _ => 0))) ∧ h1[83]? = some (.inl (0, 40, .inl (fun _ => 0))) ∧ h1[84]? = some (.inr (0, [.ref (G.1 + 85), .ref (G.1 + 86), .int 0])) ∧ h1[85]? = some (.inl (0, 10, .inl (fun _ => 0))) ∧ h1[86]? = some (.inl (0, 6, .inl (fun _ => 0))) ∧ h1[87]? = some (.inl (0, 7, .inl (fun _ => 0))) ∧ (∀ k, k < 16 → xjF G h1 k)
set_option maxHeartbeats 4000000 in
theorem KX8_init {l : Launch} {G : xG} {h : List va_E} (hl : h.length = 1) (ha : h[0]? = some (.inr (8, [.null, .null, .null, .null, .null, .null, .null, .null, .null, .null]))) : CE l G yX8_init cX8_init 2 none 2 87 1838 [.ref (G.1 + 0)] h none (fun h1 => h1.length = 88 ∧ xF8 G h1) := by
  refine cm_of rfl (Nat.le_of_ble_eq_true rfl) [(0, .ref (G.1 + 0))] rfl ?_
  refine aw_aload_n 0 dX8_init_0 rfl rfl ?_
  refine aw_objInit lX8_3 oi_i oi_c dX8_init_1 (Nat.le_of_ble_eq_true rfl) (by decide) (by decide) ?_
  refine aw_aload_n 0 dX8_init_4 rfl rfl ?_
  refine aw_null dX8_init_5 ?_
  refine aw_putQ fX8_9 dX8_init_6 [.null, .null, .null, .null, .null, .null, .null, .null, .null, .null] ha rfl rfl rfl (Nat.le_of_ble_eq_true rfl) rfl ?_
  refine aw_aload_n 0 dX8_init_9 rfl rfl ?_
  refine aw_null dX8_init_10 ?_
  refine aw_putQ fX8_13 dX8_init_11 [.null, .null, .null, .null, .null, .null, .null, .null, .null, .null] (gs ha) rfl rfl rfl (Nat.le_of_ble_eq_true rfl) rfl ?_
  refine aw_aload_n 0 dX8_init_14 rfl rfl ?_
  refine aw_newQ 1 nX8_17 dX8_init_15 [.null, .null, .null, .null, .null, .null, .null, .null, .null, .null, .int 0, .int 0, .int 0, .int 0] (by decide) (by decide) (by decide) (by simp [hl]) ?_
  refine aw_dup dX8_init_18 rfl ?_
  refine aw_eI [] [.ref (G.1 + 1), .ref (G.1 + 0)] lX8_19 vX1_init mX1_init dX8_init_19 (KX1_init (a := 1) (by simp [hl]) (gp (by simp [hl]))) rfl (Nat.le_of_ble_eq_true rfl) (by decide) (by decide) rfl (fun h3 q4 => ?_)
  obtain ⟨g5, f6, f7, f8, f9, f10, f11, f12, f13, f14, f15, f16, k17⟩ := q4
  have lg5 : h3.length = 12 := g5
  have pf6 : h3[1]? = some (.inr (1, [.ref (G.1 + 2), .ref (G.1 + 3), .ref (G.1 + 4), .ref (G.1 + 5), .ref (G.1 + 6), .ref (G.1 + 7), .ref (G.1 + 8), .ref (G.1 + 9), .ref (G.1 + 10), .ref (G.1 + 11), .int 0, .int 5, .int 1, .int 1])) := f6
  have pf7 : h3[2]? = some (.inl (0, 20, .inl (xid 20))) := f7
  have pf8 : h3[3]? = some (.inl (0, 20, .inl (xid 20))) := f8
  have pf9 : h3[4]? = some (.inl (0, 4, .inl (xcs 1500 4))) := f9
  have pf10 : h3[5]? = some (.inl (0, 4, .inl (fun _ => 0))) := f10
  have pf11 : h3[6]? = some (.inl (0, 40, .inl (fun _ => 0))) := f11
  have pf12 : h3[7]? = some (.inl (0, 40, .inl (fun _ => 0))) := f12
  have pf13 : h3[8]? = some (.inl (0, 40, .inl (fun _ => 0))) := f13
  have pf14 : h3[9]? = some (.inl (0, 40, .inl (fun _ => 0))) := f14
  have pf15 : h3[10]? = some (.inl (0, 40, .inl (fun _ => 0))) := f15
  have pf16 : h3[11]? = some (.inl (1, 40, .inr (.inl (fun _ => 0)))) := f16
  refine aw_putFQ fX8_20 dX8_init_22 [.ref (G.1 + 1), .null, .null, .null, .null, .null, .null, .null, .null, .null] (lo_at k17 (by decide) (ga (gs (gs ha)))) rfl rfl rfl rfl rfl (Nat.le_of_ble_eq_true rfl) rfl ?_
  refine aw_aload_n 0 dX8_init_25 rfl rfl ?_
  refine aw_bipush (16) dX8_init_26 (by decide) ?_
  refine aw_anewaQ 12 16 nlX8_24 dX8_init_28 rfl (by decide) (by decide) (by decide) (by decide) (by simp [lg5]) ?_
  refine aw_putFQ fX8_26 dX8_init_31 [.ref (G.1 + 1), .ref (G.1 + 12), .null, .null, .null, .null, .null, .null, .null, .null] (ga (gs (lo_at k17 (by decide) (ga (gs (gs ha)))))) rfl rfl rfl rfl rfl (Nat.le_of_ble_eq_true rfl) rfl ?_
  refine aw_iconst (0) dX8_init_34 (by decide) ?_
  refine aw_istore_n [(1, .int 0), (0, .ref (G.1 + 0))] dX8_init_35 rfl (by decide) rfl ?_
  refine aw_fg (fun hX => hX.length = 13 ∧ hX[0]? = some (.inr (8, [.ref (G.1 + 1), .ref (G.1 + 12), .null, .null, .null, .null, .null, .null, .null, .null])) ∧ hX[1]? = some (.inr (1, [.ref (G.1 + 2), .ref (G.1 + 3), .ref (G.1 + 4), .ref (G.1 + 5), .ref (G.1 + 6), .ref (G.1 + 7), .ref (G.1 + 8), .ref (G.1 + 9), .ref (G.1 + 10), .ref (G.1 + 11), .int 0, .int 5, .int 1, .int 1])) ∧ hX[2]? = some (.inl (0, 20, .inl (xid 20))) ∧ hX[3]? = some (.inl (0, 20, .inl (xid 20))) ∧ hX[4]? = some (.inl (0, 4, .inl (xcs 1500 4))) ∧ hX[5]? = some (.inl (0, 4, .inl (fun _ => 0))) ∧ hX[6]? = some (.inl (0, 40, .inl (fun _ => 0))) ∧ hX[7]? = some (.inl (0, 40, .inl (fun _ => 0))) ∧ hX[8]? = some (.inl (0, 40, .inl (fun _ => 0))) ∧ hX[9]? = some (.inl (0, 40, .inl (fun _ => 0))) ∧ hX[10]? = some (.inl (0, 40, .inl (fun _ => 0))) ∧ hX[11]? = some (.inl (1, 40, .inr (.inl (fun _ => 0)))) ∧ hX[12]? = some (.inl (3, 16, .inr (.inr (.inr (.inr (fun _ => none))))))) ⟨(by simp [lg5]), (gs (ga (gs (lo_at k17 (by decide) (ga (gs (gs ha))))))), (gn (by decide) (ga (gn (by decide) (pf6)))), (gn (by decide) (ga (gn (by decide) (pf7)))), (gn (by decide) (ga (gn (by decide) (pf8)))), (gn (by decide) (ga (gn (by decide) (pf9)))), (gn (by decide) (ga (gn (by decide) (pf10)))), (gn (by decide) (ga (gn (by decide) (pf11)))), (gn (by decide) (ga (gn (by decide) (pf12)))), (gn (by decide) (ga (gn (by decide) (pf13)))), (gn (by decide) (ga (gn (by decide) (pf14)))), (gn (by decide) (ga (gn (by decide) (pf15)))), (gn (by decide) (ga (gn (by decide) (pf16)))), (gn (by decide) (gp (by simp [lg5])))⟩ ?_
  rintro hX ⟨lX, x0, x1, x2, x3, x4, x5, x6, x7, x8, x9, x10, x11, x12⟩
  refine aw_widen (k1 := 12 + 3 * 0) (n1 := 324 + 25 * 0) (by decide) (by decide) ?_
  refine X8_init_loop (by decide) x0 ?_ 16 0 hX 0 rfl rfl (by rw [lX]) (lo_rf 12 hX) (by rw [x12, show (fun _ => none : Nat → Option Nat) = xjo G.1 0 from by funext k; simp [xjo]]) (fun k hk => absurd hk (by omega))
  intro h' hl' hk' h12' hj'
  refine aw_aload_n 0 dX8_init_64 rfl rfl ?_
  refine aw_newQ 61 nX8_31 dX8_init_65 [.null, .null, .null, .null, .null, .null, .null, .int 0, .int 0] (by decide) (by decide) (by decide) (by simp [hl']) ?_
  refine aw_dup dX8_init_68 rfl ?_
  refine aw_eN [] [.ref (G.1 + 61), .ref (G.1 + 0)] lX8_33 vX5_init mX5_init dX8_init_69 (KX5_init (a := 61) (by simp [hl']) (gp (by simp [hl']))) rfl (Nat.le_of_ble_eq_true rfl) (by decide) (by decide) rfl (fun h18 q19 => ?_)
  obtain ⟨g20, f21, f22, f23, f24, f25, f26, f27, f28, k29⟩ := q19
  have lg20 : h18.length = 69 := g20
  have pf21 : h18[61]? = some (.inr (5, [.ref (G.1 + 62), .ref (G.1 + 63), .ref (G.1 + 64), .ref (G.1 + 65), .ref (G.1 + 66), .ref (G.1 + 67), .ref (G.1 + 68), .int 0, .int 0])) := f21
  have pf22 : h18[62]? = some (.inl (0, 60, .inl (fun _ => 0))) := f22
  have pf23 : h18[63]? = some (.inl (0, 60, .inl (fun _ => 0))) := f23
  have pf24 : h18[64]? = some (.inl (0, 60, .inl (fun _ => 0))) := f24
  have pf25 : h18[65]? = some (.inl (0, 60, .inl (fun _ => 0))) := f25
  have pf26 : h18[66]? = some (.inl (0, 60, .inl (fun _ => 0))) := f26
  have pf27 : h18[67]? = some (.inl (0, 60, .inl (fun _ => 0))) := f27
  have pf28 : h18[68]? = some (.inl (0, 60, .inl (fun _ => 0))) := f28
  have j30 : ∀ k, k < 16 → xjF G h18 k := fun k hk => xjF_k (b := 61) ((fun k hk => hj' k hk) k hk) (fun j j1 j2 => by rw [k29 j (by omega)]; rw [List.getElem?_append_left (by first | omega | (simp only [List.length_set]; omega))]) (by omega)
  refine aw_putFQ fX8_34 dX8_init_72 [.ref (G.1 + 1), .ref (G.1 + 12), .ref (G.1 + 61), .null, .null, .null, .null, .null, .null, .null] (lo_at k29 (by decide) (ga (lo_at hk' (by decide) x0))) rfl rfl rfl rfl rfl (Nat.le_of_ble_eq_true rfl) rfl ?_
  refine aw_aload_n 0 dX8_init_75 rfl rfl ?_
  refine aw_newQ 69 nX8_31 dX8_init_76 [.null, .null, .null, .null, .null, .null, .null, .int 0, .int 0] (by decide) (by decide) (by decide) (by simp [lg20]) ?_
  refine aw_dup dX8_init_79 rfl ?_
  refine aw_eN [] [.ref (G.1 + 69), .ref (G.1 + 0)] lX8_33 vX5_init mX5_init dX8_init_80 (KX5_init (a := 69) (by simp [lg20]) (gp (by simp [lg20]))) rfl (Nat.le_of_ble_eq_true rfl) (by decide) (by decide) rfl (fun h31 q32 => ?_)
  obtain ⟨g33, f34, f35, f36, f37, f38, f39, f40, f41, k42⟩ := q32
  have lg33 : h31.length = 77 := g33
  have pf34 : h31[69]? = some (.inr (5, [.ref (G.1 + 70), .ref (G.1 + 71), .ref (G.1 + 72), .ref (G.1 + 73), .ref (G.1 + 74), .ref (G.1 + 75), .ref (G.1 + 76), .int 0, .int 0])) := f34
  have pf35 : h31[70]? = some (.inl (0, 60, .inl (fun _ => 0))) := f35
  have pf36 : h31[71]? = some (.inl (0, 60, .inl (fun _ => 0))) := f36
  have pf37 : h31[72]? = some (.inl (0, 60, .inl (fun _ => 0))) := f37
  have pf38 : h31[73]? = some (.inl (0, 60, .inl (fun _ => 0))) := f38
  have pf39 : h31[74]? = some (.inl (0, 60, .inl (fun _ => 0))) := f39
  have pf40 : h31[75]? = some (.inl (0, 60, .inl (fun _ => 0))) := f40
  have pf41 : h31[76]? = some (.inl (0, 60, .inl (fun _ => 0))) := f41
  have j43 : ∀ k, k < 16 → xjF G h31 k := fun k hk => xjF_k (b := 61) (j30 k hk) (fun j j1 j2 => by rw [k42 j (by omega)]; rw [List.getElem?_append_left (by first | omega | (simp only [List.length_set]; omega))]; rw [List.getElem?_set_ne (by omega)]) (by omega)
  refine aw_putFQ fX8_38 dX8_init_83 [.ref (G.1 + 1), .ref (G.1 + 12), .ref (G.1 + 61), .ref (G.1 + 69), .null, .null, .null, .null, .null, .null] (lo_at k42 (by decide) (ga (gs (lo_at k29 (by decide) (ga (lo_at hk' (by decide) x0)))))) rfl rfl rfl rfl rfl (Nat.le_of_ble_eq_true rfl) rfl ?_
  refine aw_aload_n 0 dX8_init_86 rfl rfl ?_
  refine aw_newQ 77 nX8_41 dX8_init_87 [.null, .int 0, .int 0, .int 0, .int 0] (by decide) (by decide) (by decide) (by simp [lg33]) ?_
  refine aw_dup dX8_init_90 rfl ?_
  refine aw_eN [] [.ref (G.1 + 77), .ref (G.1 + 0)] lX8_43 vX2_init mX2_init dX8_init_91 (KX2_init (a := 77) (by simp [lg33]) (gp (by simp [lg33]))) rfl (Nat.le_of_ble_eq_true rfl) (by decide) (by decide) rfl (fun h44 q45 => ?_)
  obtain ⟨g46, f47, f48, k49⟩ := q45
  have lg46 : h44.length = 79 := g46
  have pf47 : h44[77]? = some (.inr (2, [.ref (G.1 + 78), .int 0, .int (-9), .int (-9), .int 0])) := f47
  have pf48 : h44[78]? = some (.inl (0, 60, .inl (fun _ => 0))) := f48
  have j50 : ∀ k, k < 16 → xjF G h44 k := fun k hk => xjF_k (b := 61) (j43 k hk) (fun j j1 j2 => by rw [k49 j (by omega)]; rw [List.getElem?_append_left (by first | omega | (simp only [List.length_set]; omega))]; rw [List.getElem?_set_ne (by omega)]) (by omega)
  refine aw_putFQ fX8_44 dX8_init_94 [.ref (G.1 + 1), .ref (G.1 + 12), .ref (G.1 + 61), .ref (G.1 + 69), .ref (G.1 + 77), .null, .null, .null, .null, .null] (lo_at k49 (by decide) (ga (gs (lo_at k42 (by decide) (ga (gs (lo_at k29 (by decide) (ga (lo_at hk' (by decide) x0))))))))) rfl rfl rfl rfl rfl (Nat.le_of_ble_eq_true rfl) rfl ?_
  refine aw_aload_n 0 dX8_init_97 rfl rfl ?_
  refine aw_newQ 79 nX8_48 dX8_init_98 [.null, .null, .null, .null, .int 0] (by decide) (by decide) (by decide) (by simp [lg46]) ?_
  refine aw_dup dX8_init_101 rfl ?_
  refine aw_eN [] [.ref (G.1 + 79), .ref (G.1 + 0)] lX8_50 vX6_init mX6_init dX8_init_102 (KX6_init (a := 79) (by simp [lg46]) (gp (by simp [lg46]))) rfl (Nat.le_of_ble_eq_true rfl) (by decide) (by decide) rfl (fun h51 q52 => ?_)
  obtain ⟨g53, f54, f55, f56, f57, f58, k59⟩ := q52
  have lg53 : h51.length = 84 := g53
  have pf54 : h51[79]? = some (.inr (6, [.ref (G.1 + 80), .ref (G.1 + 81), .ref (G.1 + 82), .ref (G.1 + 83), .int 0])) := f54
  have pf55 : h51[80]? = some (.inl (0, 40, .inl (fun _ => 0))) := f55
  have pf56 : h51[81]? = some (.inl (0, 40, .inl (fun _ => 0))) := f56
  have pf57 : h51[82]? = some (.inl (0, 40, .inl (fun _ => 0))) := f57
  have pf58 : h51[83]? = some (.inl (0, 40, .inl (fun _ => 0))) := f58
  have j60 : ∀ k, k < 16 → xjF G h51 k := fun k hk => xjF_k (b := 61) (j50 k hk) (fun j j1 j2 => by rw [k59 j (by omega)]; rw [List.getElem?_append_left (by first | omega | (simp only [List.length_set]; omega))]; rw [List.getElem?_set_ne (by omega)]) (by omega)
  refine aw_putFQ fX8_51 dX8_init_105 [.ref (G.1 + 1), .ref (G.1 + 12), .ref (G.1 + 61), .ref (G.1 + 69), .ref (G.1 + 77), .ref (G.1 + 79), .null, .null, .null, .null] (lo_at k59 (by decide) (ga (gs (lo_at k49 (by decide) (ga (gs (lo_at k42 (by decide) (ga (gs (lo_at k29 (by decide) (ga (lo_at hk' (by decide) x0)))))))))))) rfl rfl rfl rfl rfl (Nat.le_of_ble_eq_true rfl) rfl ?_
  refine aw_aload_n 0 dX8_init_108 rfl rfl ?_
  refine aw_newQ 84 nX8_55 dX8_init_109 [.null, .null, .int 0] (by decide) (by decide) (by decide) (by simp [lg53]) ?_
  refine aw_dup dX8_init_112 rfl ?_
  refine aw_eN [] [.ref (G.1 + 84), .ref (G.1 + 0)] lX8_57 vX0_init mX0_init dX8_init_113 (KX0_init (a := 84) (by simp [lg53]) (gp (by simp [lg53]))) rfl (Nat.le_of_ble_eq_true rfl) (by decide) (by decide) rfl (fun h61 q62 => ?_)
  obtain ⟨g63, f64, f65, f66, k67⟩ := q62
  have lg63 : h61.length = 87 := g63
  have pf64 : h61[84]? = some (.inr (0, [.ref (G.1 + 85), .ref (G.1 + 86), .int 0])) := f64
  have pf65 : h61[85]? = some (.inl (0, 10, .inl (fun _ => 0))) := f65
  have pf66 : h61[86]? = some (.inl (0, 6, .inl (fun _ => 0))) := f66
  have j68 : ∀ k, k < 16 → xjF G h61 k := fun k hk => xjF_k (b := 61) (j60 k hk) (fun j j1 j2 => by rw [k67 j (by omega)]; rw [List.getElem?_append_left (by first | omega | (simp only [List.length_set]; omega))]; rw [List.getElem?_set_ne (by omega)]) (by omega)
  refine aw_putFQ fX8_58 dX8_init_116 [.ref (G.1 + 1), .ref (G.1 + 12), .ref (G.1 + 61), .ref (G.1 + 69), .ref (G.1 + 77), .ref (G.1 + 79), .ref (G.1 + 84), .null, .null, .null] (lo_at k67 (by decide) (ga (gs (lo_at k59 (by decide) (ga (gs (lo_at k49 (by decide) (ga (gs (lo_at k42 (by decide) (ga (gs (lo_at k29 (by decide) (ga (lo_at hk' (by decide) x0))))))))))))))) rfl rfl rfl rfl rfl (Nat.le_of_ble_eq_true rfl) rfl ?_
  refine aw_aload_n 0 dX8_init_119 rfl rfl ?_
  refine aw_bipush (7) dX8_init_120 (by decide) ?_
  refine aw_newaQ (ki := 0) 87 7 (7, .inl (fun _ => 0)) ac_i dX8_init_122 rfl rfl (fun _ => rfl) (rfl) (by decide) (by decide) (by decide) (by decide) (by simp [lg63]) ?_
  refine aw_putFQ fX8_62 dX8_init_124 [.ref (G.1 + 1), .ref (G.1 + 12), .ref (G.1 + 61), .ref (G.1 + 69), .ref (G.1 + 77), .ref (G.1 + 79), .ref (G.1 + 84), .ref (G.1 + 87), .null, .null] (ga (gs (lo_at k67 (by decide) (ga (gs (lo_at k59 (by decide) (ga (gs (lo_at k49 (by decide) (ga (gs (lo_at k42 (by decide) (ga (gs (lo_at k29 (by decide) (ga (lo_at hk' (by decide) x0))))))))))))))))) rfl rfl rfl rfl rfl (Nat.le_of_ble_eq_true rfl) rfl ?_
  refine aw_vret rfl dX8_init_127 (by decide) (by decide) ⟨rfl, by simp [lg63], (gs (ga (gs (lo_at k67 (by decide) (ga (gs (lo_at k59 (by decide) (ga (gs (lo_at k49 (by decide) (ga (gs (lo_at k42 (by decide) (ga (gs (lo_at k29 (by decide) (ga (lo_at hk' (by decide) x0)))))))))))))))))), (gn (by decide) (ga (gn (by decide) (lo_at k67 (by decide) (ga (gn (by decide) (lo_at k59 (by decide) (ga (gn (by decide) (lo_at k49 (by decide) (ga (gn (by decide) (lo_at k42 (by decide) (ga (gn (by decide) (lo_at k29 (by decide) (ga (lo_at hk' (by decide) x1)))))))))))))))))), (gn (by decide) (ga (gn (by decide) (lo_at k67 (by decide) (ga (gn (by decide) (lo_at k59 (by decide) (ga (gn (by decide) (lo_at k49 (by decide) (ga (gn (by decide) (lo_at k42 (by decide) (ga (gn (by decide) (lo_at k29 (by decide) (ga (lo_at hk' (by decide) x2)))))))))))))))))), (gn (by decide) (ga (gn (by decide) (lo_at k67 (by decide) (ga (gn (by decide) (lo_at k59 (by decide) (ga (gn (by decide) (lo_at k49 (by decide) (ga (gn (by decide) (lo_at k42 (by decide) (ga (gn (by decide) (lo_at k29 (by decide) (ga (lo_at hk' (by decide) x3)))))))))))))))))), (gn (by decide) (ga (gn (by decide) (lo_at k67 (by decide) (ga (gn (by decide) (lo_at k59 (by decide) (ga (gn (by decide) (lo_at k49 (by decide) (ga (gn (by decide) (lo_at k42 (by decide) (ga (gn (by decide) (lo_at k29 (by decide) (ga (lo_at hk' (by decide) x4)))))))))))))))))), (gn (by decide) (ga (gn (by decide) (lo_at k67 (by decide) (ga (gn (by decide) (lo_at k59 (by decide) (ga (gn (by decide) (lo_at k49 (by decide) (ga (gn (by decide) (lo_at k42 (by decide) (ga (gn (by decide) (lo_at k29 (by decide) (ga (lo_at hk' (by decide) x5)))))))))))))))))), (gn (by decide) (ga (gn (by decide) (lo_at k67 (by decide) (ga (gn (by decide) (lo_at k59 (by decide) (ga (gn (by decide) (lo_at k49 (by decide) (ga (gn (by decide) (lo_at k42 (by decide) (ga (gn (by decide) (lo_at k29 (by decide) (ga (lo_at hk' (by decide) x6)))))))))))))))))), (gn (by decide) (ga (gn (by decide) (lo_at k67 (by decide) (ga (gn (by decide) (lo_at k59 (by decide) (ga (gn (by decide) (lo_at k49 (by decide) (ga (gn (by decide) (lo_at k42 (by decide) (ga (gn (by decide) (lo_at k29 (by decide) (ga (lo_at hk' (by decide) x7)))))))))))))))))), (gn (by decide) (ga (gn (by decide) (lo_at k67 (by decide) (ga (gn (by decide) (lo_at k59 (by decide) (ga (gn (by decide) (lo_at k49 (by decide) (ga (gn (by decide) (lo_at k42 (by decide) (ga (gn (by decide) (lo_at k29 (by decide) (ga (lo_at hk' (by decide) x8)))))))))))))))))), (gn (by decide) (ga (gn (by decide) (lo_at k67 (by decide) (ga (gn (by decide) (lo_at k59 (by decide) (ga (gn (by decide) (lo_at k49 (by decide) (ga (gn (by decide) (lo_at k42 (by decide) (ga (gn (by decide) (lo_at k29 (by decide) (ga (lo_at hk' (by decide) x9)))))))))))))))))), (gn (by decide) (ga (gn (by decide) (lo_at k67 (by decide) (ga (gn (by decide) (lo_at k59 (by decide) (ga (gn (by decide) (lo_at k49 (by decide) (ga (gn (by decide) (lo_at k42 (by decide) (ga (gn (by decide) (lo_at k29 (by decide) (ga (lo_at hk' (by decide) x10)))))))))))))))))), (gn (by decide) (ga (gn (by decide) (lo_at k67 (by decide) (ga (gn (by decide) (lo_at k59 (by decide) (ga (gn (by decide) (lo_at k49 (by decide) (ga (gn (by decide) (lo_at k42 (by decide) (ga (gn (by decide) (lo_at k29 (by decide) (ga (lo_at hk' (by decide) x11)))))))))))))))))), (gn (by decide) (ga (gn (by decide) (lo_at k67 (by decide) (ga (gn (by decide) (lo_at k59 (by decide) (ga (gn (by decide) (lo_at k49 (by decide) (ga (gn (by decide) (lo_at k42 (by decide) (ga (gn (by decide) (lo_at k29 (by decide) (ga (h12')))))))))))))))))), (gn (by decide) (ga (gn (by decide) (lo_at k67 (by decide) (ga (gn (by decide) (lo_at k59 (by decide) (ga (gn (by decide) (lo_at k49 (by decide) (ga (gn (by decide) (lo_at k42 (by decide) (ga (gn (by decide) (pf21)))))))))))))))), (gn (by decide) (ga (gn (by decide) (lo_at k67 (by decide) (ga (gn (by decide) (lo_at k59 (by decide) (ga (gn (by decide) (lo_at k49 (by decide) (ga (gn (by decide) (lo_at k42 (by decide) (ga (gn (by decide) (pf22)))))))))))))))), (gn (by decide) (ga (gn (by decide) (lo_at k67 (by decide) (ga (gn (by decide) (lo_at k59 (by decide) (ga (gn (by decide) (lo_at k49 (by decide) (ga (gn (by decide) (lo_at k42 (by decide) (ga (gn (by decide) (pf23)))))))))))))))), (gn (by decide) (ga (gn (by decide) (lo_at k67 (by decide) (ga (gn (by decide) (lo_at k59 (by decide) (ga (gn (by decide) (lo_at k49 (by decide) (ga (gn (by decide) (lo_at k42 (by decide) (ga (gn (by decide) (pf24)))))))))))))))), (gn (by decide) (ga (gn (by decide) (lo_at k67 (by decide) (ga (gn (by decide) (lo_at k59 (by decide) (ga (gn (by decide) (lo_at k49 (by decide) (ga (gn (by decide) (lo_at k42 (by decide) (ga (gn (by decide) (pf25)))))))))))))))), (gn (by decide) (ga (gn (by decide) (lo_at k67 (by decide) (ga (gn (by decide) (lo_at k59 (by decide) (ga (gn (by decide) (lo_at k49 (by decide) (ga (gn (by decide) (lo_at k42 (by decide) (ga (gn (by decide) (pf26)))))))))))))))), (gn (by decide) (ga (gn (by decide) (lo_at k67 (by decide) (ga (gn (by decide) (lo_at k59 (by decide) (ga (gn (by decide) (lo_at k49 (by decide) (ga (gn (by decide) (lo_at k42 (by decide) (ga (gn (by decide) (pf27)))))))))))))))), (gn (by decide) (ga (gn (by decide) (lo_at k67 (by decide) (ga (gn (by decide) (lo_at k59 (by decide) (ga (gn (by decide) (lo_at k49 (by decide) (ga (gn (by decide) (lo_at k42 (by decide) (ga (gn (by decide) (pf28)))))))))))))))), (gn (by decide) (ga (gn (by decide) (lo_at k67 (by decide) (ga (gn (by decide) (lo_at k59 (by decide) (ga (gn (by decide) (lo_at k49 (by decide) (ga (gn (by decide) (pf34))))))))))))), (gn (by decide) (ga (gn (by decide) (lo_at k67 (by decide) (ga (gn (by decide) (lo_at k59 (by decide) (ga (gn (by decide) (lo_at k49 (by decide) (ga (gn (by decide) (pf35))))))))))))), (gn (by decide) (ga (gn (by decide) (lo_at k67 (by decide) (ga (gn (by decide) (lo_at k59 (by decide) (ga (gn (by decide) (lo_at k49 (by decide) (ga (gn (by decide) (pf36))))))))))))), (gn (by decide) (ga (gn (by decide) (lo_at k67 (by decide) (ga (gn (by decide) (lo_at k59 (by decide) (ga (gn (by decide) (lo_at k49 (by decide) (ga (gn (by decide) (pf37))))))))))))), (gn (by decide) (ga (gn (by decide) (lo_at k67 (by decide) (ga (gn (by decide) (lo_at k59 (by decide) (ga (gn (by decide) (lo_at k49 (by decide) (ga (gn (by decide) (pf38))))))))))))), (gn (by decide) (ga (gn (by decide) (lo_at k67 (by decide) (ga (gn (by decide) (lo_at k59 (by decide) (ga (gn (by decide) (lo_at k49 (by decide) (ga (gn (by decide) (pf39))))))))))))), (gn (by decide) (ga (gn (by decide) (lo_at k67 (by decide) (ga (gn (by decide) (lo_at k59 (by decide) (ga (gn (by decide) (lo_at k49 (by decide) (ga (gn (by decide) (pf40))))))))))))), (gn (by decide) (ga (gn (by decide) (lo_at k67 (by decide) (ga (gn (by decide) (lo_at k59 (by decide) (ga (gn (by decide) (lo_at k49 (by decide) (ga (gn (by decide) (pf41))))))))))))), (gn (by decide) (ga (gn (by decide) (lo_at k67 (by decide) (ga (gn (by decide) (lo_at k59 (by decide) (ga (gn (by decide) (pf47)))))))))), (gn (by decide) (ga (gn (by decide) (lo_at k67 (by decide) (ga (gn (by decide) (lo_at k59 (by decide) (ga (gn (by decide) (pf48)))))))))), (gn (by decide) (ga (gn (by decide) (lo_at k67 (by decide) (ga (gn (by decide) (pf54))))))), (gn (by decide) (ga (gn (by decide) (lo_at k67 (by decide) (ga (gn (by decide) (pf55))))))), (gn (by decide) (ga (gn (by decide) (lo_at k67 (by decide) (ga (gn (by decide) (pf56))))))), (gn (by decide) (ga (gn (by decide) (lo_at k67 (by decide) (ga (gn (by decide) (pf57))))))), (gn (by decide) (ga (gn (by decide) (lo_at k67 (by decide) (ga (gn (by decide) (pf58))))))), (gn (by decide) (ga (gn (by decide) (pf64)))), (gn (by decide) (ga (gn (by decide) (pf65)))), (gn (by decide) (ga (gn (by decide) (pf66)))), (gn (by decide) (gp (by simp [lg63]))), ?_⟩
  exact fun k hk => xjF_k (b := 61) (j68 k hk) (fun j j1 j2 => by rw [List.getElem?_set_ne (by omega), List.getElem?_append_left (by first | omega | (simp only [List.length_set]; omega)), List.getElem?_set_ne (by omega)]) (by omega)
