def xjF (G : xG) (h : List va_E) (k : Nat) : Prop := h[13 + 3 * k]? = some (.inr (4, [.ref (G.1 + (14 + 3 * k)), .ref (G.1 + (15 + 3 * k)), .int 0, .int 0, .int 0])) ∧ h[14 + 3 * k]? = some (.inl (0, 10, .inl (fun _ => 0))) ∧ h[15 + 3 * k]? = some (.inl (2, 10, .inl (fun _ => 0)))
theorem xjF_k {G : xG} {h h2 : List va_E} {k b : Nat} (p : xjF G h k) (e : ∀ j, 13 ≤ j → j < b → h2[j]? = h[j]?) (hb : 16 + 3 * k ≤ b) : xjF G h2 k := by
  obtain ⟨p1, p2, p3⟩ := p
  exact ⟨by rw [e _ (by omega) (by omega)]; exact p1, by rw [e _ (by omega) (by omega)]; exact p2, by rw [e _ (by omega) (by omega)]; exact p3⟩
set_option maxHeartbeats 4000000 in
theorem X8_init_loop {l : Launch} {G : xG} {R : Room} {E : Array Value → State → Prop} {QF : List Frame → Array Value → State → State → Prop} (hR : 2 ≤ R.frames ∧ 60 ≤ R.locals ∧ 60 ≤ R.cells ∧ 2000 ≤ R.slots) {hX : List va_E} (c0 : hX[0]? = some (.inr (8, [.ref (G.1 + 1), .ref (G.1 + 12), .null, .null, .null, .null, .null, .null, .null, .null])))
    (K : ∀ h', h'.length = 61 → lo 12 hX h' → h'[12]? = some (.inl (3, 16, .inr (.inr (.inr (.inr (xjo G.1 16)))))) → (∀ k, k < 16 → xjF G h' k) → AW l G yX8_init cX8_init 2 none R E QF 60 724 64 [(0, .ref (G.1 + 0))] [] h') :
    ∀ (n i : Nat) (h : List va_E) (iv : Int32), i + n = 16 → iv = nI i → h.length = 13 + 3 * i → lo 12 hX h → h[12]? = some (.inl (3, 16, .inr (.inr (.inr (.inr (xjo G.1 i)))))) → (∀ k, k < i → xjF G h k) → AW l G yX8_init cX8_init 2 none R E QF (12 + 3 * i) (324 + 25 * i) 36 [(1, .int iv), (0, .ref (G.1 + 0))] [] h := by
  intro n
  induction n with
  | zero =>
    intro i h iv hi ei hl hk h12 hj
    have hi' : i = 16 := by omega
    subst hi'
    have f0 := lo_at hk (by decide) c0
    refine aw_iload_n 0 dX8_init_36 rfl rfl ?_
    refine aw_aload_n 1 dX8_init_37 rfl rfl ?_
    refine aw_get fX8_26 dX8_init_38 f0 rfl ?_
    refine aw_alen (16) dX8_init_41 h12 rfl rfl ?_
    refine aw_icmp_ge 64 dX8_init_42 (by decide) (fun c42 => ?_) (fun c42 => absurd (by simp only [i_le, (i_toNat (ei) (by omega)), (show (16 : Int32).toInt = 16 from rfl)]; omega) c42)
    refine aw_lv [(0, .ref (G.1 + 0))] [1] rfl ?_
    exact aw_widen (by decide) (by decide) (K _ (by simpa using hl) hk h12 hj)
  | succ n ih =>
    intro i h iv hi ei hl hk h12 hj
    have f0 := lo_at hk (by decide) c0
    refine aw_iload_n 0 dX8_init_36 rfl rfl ?_
    refine aw_aload_n 1 dX8_init_37 rfl rfl ?_
    refine aw_get fX8_26 dX8_init_38 f0 rfl ?_
    refine aw_alen (16) dX8_init_41 h12 rfl rfl ?_
    refine aw_icmp_ge 64 dX8_init_42 (by decide) (fun c42 => absurd c42 (by simp only [i_le, (i_toNat (ei) (by omega)), (show (16 : Int32).toInt = 16 from rfl)]; omega)) (fun c42 => ?_)
    refine aw_aload_n 1 dX8_init_45 rfl rfl ?_
    refine aw_get fX8_26 dX8_init_46 f0 rfl ?_
    refine aw_iload_n 0 dX8_init_49 rfl rfl ?_
    refine aw_newQ (13 + 3 * i) nX8_24 dX8_init_50 [.null, .null, .int 0, .int 0, .int 0] (by decide) (by omega) (by omega) (by simp [hl] <;> omega) ?_
    refine aw_dup dX8_init_53 rfl ?_
    refine aw_eN [] [.ref (G.1 + (13 + 3 * i)), .int iv, .ref (G.1 + 12)] lX8_30 vX4_init mX4_init dX8_init_54 (KX4_init (a := 13 + 3 * i) (by simp [hl]) (gp (by simp [hl] <;> omega))) rfl (Nat.le_of_ble_eq_true rfl) (by omega) (by omega) rfl (fun h2 qq => ?_)
    obtain ⟨ql, qa, q1, q2, qk⟩ := qq
    refine aw_aast i (ei) (by omega) (by decide) dX8_init_57 (lo_at qk (by omega) (ga (h12))) qa rfl rfl ?_
    obtain ⟨v2, ev2⟩ : ∃ q : Int32, q = iv + Int32.ofInt (1) := ⟨_, rfl⟩
    refine aw_iinc (j := 0) v2 [(1, .int v2), (0, .ref (G.1 + 0))] dX8_init_58 rfl ev2.symm (by decide) rfl ?_
    refine aw_goto 36 dX8_init_61 (by decide) ?_
    refine aw_widen (k1 := 12 + 3 * (i + 1)) (n1 := 324 + 25 * (i + 1)) (by omega) (by omega) ?_
    refine ih (i + 1) _ _ (by omega) (ev2.trans (nv_inc (ei))) (by simp [ql] <;> omega) (lo_set (lo_tr (lo_app (hk) (by simp [hl] <;> omega)) qk (by omega)) (by decide)) ?_ ?_
    · rw [← xjo_q G.1 i (i + 1) (13 + 3 * i) rfl rfl]; exact (gs (lo_at qk (by omega) (ga (h12))))
    · intro k hk2
      by_cases hki : k < i
      · exact xjF_k (b := 13 + 3 * i) (hj k hki) (fun j j1 j2 => by rw [List.getElem?_set_ne (by omega), qk j (by omega), List.getElem?_append_left (by omega)]) (by omega)
      · have hki2 : k = i := by omega
        subst hki2
        refine ⟨?_, ?_, ?_⟩
        · rw [List.getElem?_set_ne (by omega), qa, show 13 + 3 * k + 1 = 14 + 3 * k by omega, show 13 + 3 * k + 2 = 15 + 3 * k by omega]
        · rw [List.getElem?_set_ne (by omega), show 14 + 3 * k = 13 + 3 * k + 1 by omega, q1]
        · rw [List.getElem?_set_ne (by omega), show 15 + 3 * k = 13 + 3 * k + 2 by omega, q2]
