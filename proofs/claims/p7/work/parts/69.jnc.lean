set_option maxHeartbeats 4000000 in
theorem aX3_weighStates {l : Launch} {G : xG} {h : List va_E} {J u v ro co : Nat} {rc : Nat → Nat} {lk bs wy nw : Nat → Int32} {lx : Nat → Nat → Nat} (hJ : h[J]? = some (oB 3 (lJ G J (.ref (G.1 + u)) (.ref (G.1 + v)) (nI ro) (nI co)))) (hJ_1 : h[J + 1]? = some (aI 100 lk)) (hJ_2 : h[J + 2]? = some (aI 11 (nA rc))) (hJ_3 : h[J + 3]? = some (aI 11264 bs)) (hu : h[u]? = some (aI 1024 wy)) (hv : h[v]? = some (aI 1024 nw)) (qu : J + 4 ≤ u ∧ u ≤ J + 5) (qv : J + 4 ≤ v ∧ v ≤ J + 5) (quv : u ≠ v) (hro : ro ≤ 10) (hco : co ≤ 10) (hrc : ∀ j, j < 11 → rc j < 1024) (hL : jL lx ro co lk) (hR : jR lx ro co rc) (hlx3 : ∀ i k, lx i k ≤ 300) : CE l G yX3_weighStates cX3_weighStates 4 none 2 0 0 [.ref (G.1 + J)] h none (fun h1 => ∃ bs1 : Nat → Int32, h1[J]? = some (oB 3 (lJ G J (.ref (G.1 + u)) (.ref (G.1 + v)) (nI ro) (nI co))) ∧ h1[J + 1]? = some (aI 100 lk) ∧ h1[J + 2]? = some (aI 11 (nA rc)) ∧ h1[J + 3]? = some (aI 11264 bs1) ∧ h1[u]? = some (aI 1024 wy) ∧ h1[v]? = some (aI 1024 nw) ∧ rng J (J + 5) h h1 ∧ jB lx ro co rc 0 bs1) := by
  refine cm_ofQ rfl (Nat.le_of_ble_eq_true rfl) [(0, .ref (G.1 + J))] rfl (fun QF hQF => ?_)
  refine aw_aload_n 0 dX3_weighStates_0 rfl rfl ?_
  refine aw_get fX3_27 dX3_weighStates_1 hJ rfl ?_
  refine aw_istore_n [(1, .int (nI ro)), (0, .ref (G.1 + J))] dX3_weighStates_4 rfl (by decide) rfl ?_
  refine aw_lv [(1, .int (nI ro)), (0, .ref (G.1 + J))] [0, 1] rfl ?_
  suffices L81 : ∀ (mm : Nat) (x : Nat) (xv : Int32) (b1 : Nat → Int32) (h73 : List va_E), x < mm → ((x = 0 ∧ xv = -1) ∨ (∃ i, i ≤ ro ∧ xv = nI i ∧ x = i + 1)) → (jB lx ro co rc x b1) → h73[J]? = some (oB 3 (lJ G J (.ref (G.1 + u)) (.ref (G.1 + v)) (nI ro) (nI co))) → h73[J + 1]? = some (aI 100 lk) → h73[J + 2]? = some (aI 11 (nA rc)) → h73[J + 3]? = some (aI 11264 b1) → h73[u]? = some (aI 1024 wy) → h73[v]? = some (aI 1024 nw) → rng J (J + 5) h h73 → AW l G yX3_weighStates cX3_weighStates 4 none (xR 2 0 0) (fun _ _ => True) QF 0 0 5 [(1, .int xv), (0, .ref (G.1 + J))] [] h73 from L81 ((ro + 1) + 1) (ro + 1) (nI ro) bs _ (Nat.lt_succ_self _) (Or.inr ⟨ro, Nat.le_refl _, rfl, rfl⟩) (jB_t) hJ hJ_1 hJ_2 hJ_3 hu hv (rng_rf J (J + 5) h)
  intro mm
  induction mm with
  | zero =>
    intro x xv b1 h73 hmm hx hB f74 f75 f76 f77 f78 f79 k80
    exact absurd hmm (Nat.not_lt_zero _)
  | succ mm ih81 =>
    intro x xv b1 h73 hmm hx hB f74 f75 f76 f77 f78 f79 k80
    rcases hx with ⟨rfl, rfl⟩ | ⟨i, hi, rfl, rfl⟩
    · refine aw_iload_n 0 dX3_weighStates_5 rfl rfl ?_
      refine aw_if_lt 83 dX3_weighStates_6 (by decide) (fun c6 => ?_) (fun c6 => absurd (by decide) c6)
      subst hQF
      exact aw_vret rfl dX3_weighStates_83 (by decide) (by decide) ⟨rfl, _, f74, f75, f76, f77, f78, f79, k80, hB⟩
    · refine aw_iload_n 0 dX3_weighStates_5 rfl rfl ?_
      refine aw_if_lt 83 dX3_weighStates_6 (by decide) (fun c6 => absurd c6 (by simp only [i_lt, (nI_toInt (n := i) (by omega)), (show (0 : Int32).toInt = 0 from rfl)] <;> omega)) (fun c6 => ?_)
      refine aw_aload_n 1 dX3_weighStates_9 rfl rfl ?_
      refine aw_get fX3_15 dX3_weighStates_10 f74 rfl ?_
      refine aw_iload_n 0 dX3_weighStates_13 rfl rfl ?_
      refine aw_iald i (rfl) (by omega) (by decide) dX3_weighStates_14 f76 ?_
      refine aw_toe (nI (rc i)) (rfl) ?_
      have b82 := hrc i (by omega)
      refine aw_istore_n [(2, .int (nI (rc i))), (1, .int (nI i)), (0, .ref (G.1 + J))] dX3_weighStates_15 rfl (by decide) rfl ?_
      refine aw_iload_n 0 dX3_weighStates_16 rfl rfl ?_
      refine aw_istore_n [(3, .int (nI (rc i))), (2, .int (nI (rc i))), (1, .int (nI i)), (0, .ref (G.1 + J))] dX3_weighStates_17 rfl (by decide) rfl ?_
      refine aw_lv [(3, .int (nI (rc i))), (2, .int (nI (rc i))), (1, .int (nI i)), (0, .ref (G.1 + J))] [0, 1, 2, 3] rfl ?_
      suffices L91 : ∀ (mm : Nat) (t : Nat) (tv : Int32) (b2 : Nat → Int32) (h83 : List va_E), t < mm → ((t = 0 ∧ tv = -1) ∨ (∃ s, s < 1024 ∧ tv = nI s ∧ t = s + 1 ∧ s &&& rc i = s)) → (jI lx ro co rc i t b2) → (jB lx ro co rc (i + 1) b2) → h83[J]? = some (oB 3 (lJ G J (.ref (G.1 + u)) (.ref (G.1 + v)) (nI ro) (nI co))) → h83[J + 1]? = some (aI 100 lk) → h83[J + 2]? = some (aI 11 (nA rc)) → h83[J + 3]? = some (aI 11264 b2) → h83[u]? = some (aI 1024 wy) → h83[v]? = some (aI 1024 nw) → rng J (J + 5) h h83 → AW l G yX3_weighStates cX3_weighStates 4 none (xR 2 0 0) (fun _ _ => True) QF 0 0 18 [(3, .int tv), (2, .int (nI (rc i))), (1, .int (nI i)), (0, .ref (G.1 + J))] [] h83 from L91 ((rc i + 1) + 1) (rc i + 1) (nI (rc i)) b1 _ (Nat.lt_succ_self _) (Or.inr ⟨_, by omega, rfl, rfl, Nat.and_self _⟩) (jI_0) (hB) f74 f75 f76 f77 f78 f79 (k80)
      intro mm
      induction mm with
      | zero =>
        intro t tv b2 h83 hmm ht hI hB2 f84 f85 f86 f87 f88 f89 k90
        exact absurd hmm (Nat.not_lt_zero _)
      | succ mm ih91 =>
        intro t tv b2 h83 hmm ht hI hB2 f84 f85 f86 f87 f88 f89 k90
        rcases ht with ⟨rfl, rfl⟩ | ⟨s, bs_, rfl, rfl, hss⟩
        · refine aw_iload_n 0 dX3_weighStates_18 rfl rfl ?_
          refine aw_if_lt 77 dX3_weighStates_19 (by decide) (fun c19 => ?_) (fun c19 => absurd (by decide) c19)
          refine aw_lv [(1, .int (nI i)), (0, .ref (G.1 + J))] [2, 3] rfl ?_
          rcases Nat.eq_zero_or_pos i with rfl | hpos
          · refine aw_lv [(1, .int 0), (0, .ref (G.1 + J))] [0, 1] rfl ?_
            refine aw_iinc (j := 0) (-1) [(1, .int (-1)), (0, .ref (G.1 + J))] dX3_weighStates_77 rfl (by decide) (by decide) rfl ?_
            refine aw_goto 5 dX3_weighStates_80 (by decide) ?_
            refine aw_lv [(1, .int (-1)), (0, .ref (G.1 + J))] [0, 1] rfl ?_
            exact ih81 0 (-1) b2 _ (by omega) (Or.inl ⟨rfl, rfl⟩) (jI_z hI hB2) f84 f85 f86 f87 f88 f89 (k90)
          · refine aw_iinc (j := 0) (nI (i - 1)) [(1, .int (nI (i - 1))), (0, .ref (G.1 + J))] dX3_weighStates_77 rfl (nv_dm (rfl) (by omega)) (by decide) rfl ?_
            refine aw_goto 5 dX3_weighStates_80 (by decide) ?_
            refine aw_lv [(1, .int (nI (i - 1))), (0, .ref (G.1 + J))] [0, 1] rfl ?_
            exact ih81 ((i - 1) + 1) (nI (i - 1)) b2 _ (by omega) (Or.inr ⟨_, by omega, rfl, rfl⟩) (by rw [show (i - 1) + 1 = i by omega]; exact jI_z hI hB2) f84 f85 f86 f87 f88 f89 (k90)
        · refine aw_iload_n 0 dX3_weighStates_18 rfl rfl ?_
          refine aw_if_lt 77 dX3_weighStates_19 (by decide) (fun c19 => absurd c19 (by simp only [i_lt, (nI_toInt (n := s) (by omega)), (show (0 : Int32).toInt = 0 from rfl)] <;> omega)) (fun c19 => ?_)
          refine aw_iload_n 0 dX3_weighStates_22 rfl rfl ?_
          refine aw_dS [.int (nI s)] [] lX3_62 sJ6_bitCount_0f7a4 mJ6_bitCount_0f7a4 dX3_weighStates_23 (J6_bitCount_g (x := (nI s)) ) rfl (Nat.le_of_ble_eq_true rfl) (by decide) (by decide) rfl ?_
          refine aw_toe (nI (popN s)) (bc_pop (by omega)) ?_
          have bpn := popN_le s
          refine aw_iload_n 2 dX3_weighStates_26 rfl rfl ?_
          refine aw_icmp_gt 60 dX3_weighStates_27 (by decide) (fun c27 => ?_) (fun c27 => ?_)
          · have d27 := (nv_lt (a := i) (b := popN s) (rfl) (rfl) (by omega) (by omega)).mp c27
            refine aw_iload_n 0 dX3_weighStates_60 rfl rfl ?_
            refine aw_if_ne 68 dX3_weighStates_61 (by decide) (fun c61 => ?_) (fun c61 => ?_)
            · have d61 := mt (nv_eq (a := s) (b := 0) (rfl) (rfl) (by omega) (by omega)).mpr c61
              refine aw_iload_n 0 dX3_weighStates_68 rfl rfl ?_
              refine aw_iconst (1) dX3_weighStates_69 (by decide) ?_
              refine aw_isub dX3_weighStates_70 ?_
              refine aw_toe (nI (s - 1)) (nv_sub (rfl) (rfl) (by omega)) ?_
              refine aw_iload_n 1 dX3_weighStates_71 rfl rfl ?_
              refine aw_iand dX3_weighStates_72 ?_
              refine aw_toe (nI ((s - 1) &&& (rc i))) (nv_and (rfl) (rfl)) ?_
              refine aw_istore_n [(3, .int (nI ((s - 1) &&& (rc i)))), (2, .int (nI (rc i))), (1, .int (nI i)), (0, .ref (G.1 + J))] dX3_weighStates_73 rfl (by decide) rfl ?_
              refine aw_goto 18 dX3_weighStates_74 (by decide) ?_
              refine aw_lv [(3, .int (nI ((s - 1) &&& (rc i)))), (2, .int (nI (rc i))), (1, .int (nI i)), (0, .ref (G.1 + J))] [0, 1, 2, 3] rfl ?_
              have bq : (s - 1) &&& (rc i) ≤ (s - 1) := Nat.and_le_left
              exact ih91 (((s - 1) &&& (rc i)) + 1) (nI ((s - 1) &&& (rc i))) b2 _ (by omega) (Or.inr ⟨_, by omega, rfl, rfl, sub_in _ _⟩) (jI_n (hI) hss (fun h9 => absurd h9 (by omega)) (Or.inr ⟨by omega, rfl⟩)) (hB2) f84 f85 f86 f87 f88 f89 (k90)
            · have d61 := (nv_eq (a := s) (b := 0) (rfl) (rfl) (by omega) (by omega)).mp c61
              refine aw_iconst (-1) dX3_weighStates_64 (by decide) ?_
              refine aw_goto 73 dX3_weighStates_65 (by decide) ?_
              refine aw_istore_n [(3, .int (-1)), (2, .int (nI (rc i))), (1, .int (nI i)), (0, .ref (G.1 + J))] dX3_weighStates_73 rfl (by decide) rfl ?_
              refine aw_goto 18 dX3_weighStates_74 (by decide) ?_
              refine aw_lv [(3, .int (-1)), (2, .int (nI (rc i))), (1, .int (nI i)), (0, .ref (G.1 + J))] [0, 1, 2, 3] rfl ?_
              exact ih91 0 (-1) b2 _ (by omega) (Or.inl ⟨rfl, rfl⟩) (jI_n (hI) hss (fun h9 => absurd h9 (by omega)) (Or.inl ⟨by omega, rfl⟩)) (hB2) f84 f85 f86 f87 f88 f89 (k90)
          · have d27 := mt (nv_lt (a := i) (b := popN s) (rfl) (rfl) (by omega) (by omega)).mpr c27
            refine aw_aload_n 3 dX3_weighStates_30 rfl rfl ?_
            refine aw_get fX3_18 dX3_weighStates_31 f84 rfl ?_
            refine aw_iload_n 2 dX3_weighStates_34 rfl rfl ?_
            refine aw_sipush (1024) dX3_weighStates_35 (by decide) ?_
            refine aw_imul dX3_weighStates_38 ?_
            refine aw_toe (nI (i * 1024)) (nv_mul (rfl) (rfl)) ?_
            refine aw_iload_n 0 dX3_weighStates_39 rfl rfl ?_
            refine aw_iadd dX3_weighStates_40 ?_
            refine aw_toe (nI ((i * 1024) + s)) (nv_add (rfl) (rfl)) ?_
            refine aw_iload_n 2 dX3_weighStates_41 rfl rfl ?_
            refine aw_aload_n 3 dX3_weighStates_42 rfl rfl ?_
            refine aw_get fX3_27 dX3_weighStates_43 f84 rfl ?_
            refine aw_icmp_ne 53 dX3_weighStates_46 (by decide) (fun c46 => ?_) (fun c46 => ?_)
            · have d46 := mt (nv_eq (a := i) (b := ro) (rfl) (rfl) (by omega) (by omega)).mpr c46
              refine aw_aload_n 3 dX3_weighStates_53 rfl rfl ?_
              refine aw_iload_n 2 dX3_weighStates_54 rfl rfl ?_
              refine aw_iload_n 0 dX3_weighStates_55 rfl rfl ?_
              refine aw_dV [.int (nI i), .int (nI s)] [.int (nI ((i * 1024) + s)), .ref (G.1 + (J + 3))] lX3_68 vX3_weighState mX3_weighState dX3_weighStates_56 (aX3_weighState (J := J) (u := u) (v := v) (ro := ro) (co := co) (rc := rc) (lk := lk) (bs := b2) (wy := wy) (nw := nw) (i := i) (s := s) f84 f85 f86 f87 f88 f89 (by omega) (by omega) (by omega) (by omega) (by omega) hrc (by omega) (by omega)) f84 rfl rfl rfl (Nat.le_of_ble_eq_true rfl) (by decide) (by decide) rfl ?_
              refine aw_iast ((i * 1024) + s) (rfl) (by omega) (by decide) dX3_weighStates_59 f87 ?_
              refine aw_iload_n 0 dX3_weighStates_60 rfl rfl ?_
              refine aw_if_ne 68 dX3_weighStates_61 (by decide) (fun c61 => ?_) (fun c61 => ?_)
              · have d61 := mt (nv_eq (a := s) (b := 0) (rfl) (rfl) (by omega) (by omega)).mpr c61
                refine aw_iload_n 0 dX3_weighStates_68 rfl rfl ?_
                refine aw_iconst (1) dX3_weighStates_69 (by decide) ?_
                refine aw_isub dX3_weighStates_70 ?_
                refine aw_toe (nI (s - 1)) (nv_sub (rfl) (rfl) (by omega)) ?_
                refine aw_iload_n 1 dX3_weighStates_71 rfl rfl ?_
                refine aw_iand dX3_weighStates_72 ?_
                refine aw_toe (nI ((s - 1) &&& (rc i))) (nv_and (rfl) (rfl)) ?_
                refine aw_istore_n [(3, .int (nI ((s - 1) &&& (rc i)))), (2, .int (nI (rc i))), (1, .int (nI i)), (0, .ref (G.1 + J))] dX3_weighStates_73 rfl (by decide) rfl ?_
                refine aw_goto 18 dX3_weighStates_74 (by decide) ?_
                refine aw_lv [(3, .int (nI ((s - 1) &&& (rc i)))), (2, .int (nI (rc i))), (1, .int (nI i)), (0, .ref (G.1 + J))] [0, 1, 2, 3] rfl ?_
                have bq : (s - 1) &&& (rc i) ≤ (s - 1) := Nat.and_le_left
                exact ih91 (((s - 1) &&& (rc i)) + 1) (nI ((s - 1) &&& (rc i))) (upd b2 ((i * 1024) + s) (wjF lk b2 i s co)) _ (by omega) (Or.inr ⟨_, by omega, rfl, rfl, sub_in _ _⟩) (jI_n (jI_w hI) hss (fun h9 => by simp only [upd, if_pos]; exact wj_S hL hlx3 hR hB2 (by omega) (by omega) (by omega) bs_ hss h9) (Or.inr ⟨by omega, rfl⟩)) (jB_w bs_ hrc (by omega) hB2) (gn (by omega) (f84)) (gn (by omega) (f85)) (gn (by omega) (f86)) (gs f87) (gn (by omega) (f88)) (gn (by omega) (f89)) (rng_set (k90) (by omega) (by omega))
              · have d61 := (nv_eq (a := s) (b := 0) (rfl) (rfl) (by omega) (by omega)).mp c61
                refine aw_iconst (-1) dX3_weighStates_64 (by decide) ?_
                refine aw_goto 73 dX3_weighStates_65 (by decide) ?_
                refine aw_istore_n [(3, .int (-1)), (2, .int (nI (rc i))), (1, .int (nI i)), (0, .ref (G.1 + J))] dX3_weighStates_73 rfl (by decide) rfl ?_
                refine aw_goto 18 dX3_weighStates_74 (by decide) ?_
                refine aw_lv [(3, .int (-1)), (2, .int (nI (rc i))), (1, .int (nI i)), (0, .ref (G.1 + J))] [0, 1, 2, 3] rfl ?_
                exact ih91 0 (-1) (upd b2 ((i * 1024) + s) (wjF lk b2 i s co)) _ (by omega) (Or.inl ⟨rfl, rfl⟩) (jI_n (jI_w hI) hss (fun h9 => by simp only [upd, if_pos]; exact wj_S hL hlx3 hR hB2 (by omega) (by omega) (by omega) bs_ hss h9) (Or.inl ⟨by omega, rfl⟩)) (jB_w bs_ hrc (by omega) hB2) (gn (by omega) (f84)) (gn (by omega) (f85)) (gn (by omega) (f86)) (gs f87) (gn (by omega) (f88)) (gn (by omega) (f89)) (rng_set (k90) (by omega) (by omega))
            · have d46 := (nv_eq (a := i) (b := ro) (rfl) (rfl) (by omega) (by omega)).mp c46
              refine aw_iconst (0) dX3_weighStates_49 (by decide) ?_
              refine aw_goto 59 dX3_weighStates_50 (by decide) ?_
              refine aw_iast ((i * 1024) + s) (rfl) (by omega) (by decide) dX3_weighStates_59 f87 ?_
              refine aw_iload_n 0 dX3_weighStates_60 rfl rfl ?_
              refine aw_if_ne 68 dX3_weighStates_61 (by decide) (fun c61 => ?_) (fun c61 => ?_)
              · have d61 := mt (nv_eq (a := s) (b := 0) (rfl) (rfl) (by omega) (by omega)).mpr c61
                refine aw_iload_n 0 dX3_weighStates_68 rfl rfl ?_
                refine aw_iconst (1) dX3_weighStates_69 (by decide) ?_
                refine aw_isub dX3_weighStates_70 ?_
                refine aw_toe (nI (s - 1)) (nv_sub (rfl) (rfl) (by omega)) ?_
                refine aw_iload_n 1 dX3_weighStates_71 rfl rfl ?_
                refine aw_iand dX3_weighStates_72 ?_
                refine aw_toe (nI ((s - 1) &&& (rc i))) (nv_and (rfl) (rfl)) ?_
                refine aw_istore_n [(3, .int (nI ((s - 1) &&& (rc i)))), (2, .int (nI (rc i))), (1, .int (nI i)), (0, .ref (G.1 + J))] dX3_weighStates_73 rfl (by decide) rfl ?_
                refine aw_goto 18 dX3_weighStates_74 (by decide) ?_
                refine aw_lv [(3, .int (nI ((s - 1) &&& (rc i)))), (2, .int (nI (rc i))), (1, .int (nI i)), (0, .ref (G.1 + J))] [0, 1, 2, 3] rfl ?_
                have bq : (s - 1) &&& (rc i) ≤ (s - 1) := Nat.and_le_left
                exact ih91 (((s - 1) &&& (rc i)) + 1) (nI ((s - 1) &&& (rc i))) (upd b2 ((i * 1024) + s) 0) _ (by omega) (Or.inr ⟨_, by omega, rfl, rfl, sub_in _ _⟩) (jI_n (jI_w hI) hss (fun h9 => by simp only [upd, if_pos]; rw [show ro - i = 0 by omega]; rfl) (Or.inr ⟨by omega, rfl⟩)) (jB_w bs_ hrc (by omega) hB2) (gn (by omega) (f84)) (gn (by omega) (f85)) (gn (by omega) (f86)) (gs f87) (gn (by omega) (f88)) (gn (by omega) (f89)) (rng_set (k90) (by omega) (by omega))
              · have d61 := (nv_eq (a := s) (b := 0) (rfl) (rfl) (by omega) (by omega)).mp c61
                refine aw_iconst (-1) dX3_weighStates_64 (by decide) ?_
                refine aw_goto 73 dX3_weighStates_65 (by decide) ?_
                refine aw_istore_n [(3, .int (-1)), (2, .int (nI (rc i))), (1, .int (nI i)), (0, .ref (G.1 + J))] dX3_weighStates_73 rfl (by decide) rfl ?_
                refine aw_goto 18 dX3_weighStates_74 (by decide) ?_
                refine aw_lv [(3, .int (-1)), (2, .int (nI (rc i))), (1, .int (nI i)), (0, .ref (G.1 + J))] [0, 1, 2, 3] rfl ?_
                exact ih91 0 (-1) (upd b2 ((i * 1024) + s) 0) _ (by omega) (Or.inl ⟨rfl, rfl⟩) (jI_n (jI_w hI) hss (fun h9 => by simp only [upd, if_pos]; rw [show ro - i = 0 by omega]; rfl) (Or.inl ⟨by omega, rfl⟩)) (jB_w bs_ hrc (by omega) hB2) (gn (by omega) (f84)) (gn (by omega) (f85)) (gn (by omega) (f86)) (gs f87) (gn (by omega) (f88)) (gn (by omega) (f89)) (rng_set (k90) (by omega) (by omega))
