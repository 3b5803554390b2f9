set_option maxHeartbeats 4000000 in
theorem aX5_counts {l : Launch} {G : xG} {h : List va_E} {th ot dy so kn go od : Nat → Nat} {n : Nat} {wd : Int32} {r : Nat} {q t k : Nat} (hr : h[r]? = some (oB 5 (lR G r (nI n) wd))) (hr_1 : h[r + 1]? = some (aI 60 (nA th))) (hr_2 : h[r + 2]? = some (aI 60 (nA ot))) (hr_3 : h[r + 3]? = some (aI 60 (nA dy))) (hr_4 : h[r + 4]? = some (aI 60 (nA so))) (hr_5 : h[r + 5]? = some (aI 60 (nA kn))) (hr_6 : h[r + 6]? = some (aI 60 (nA go))) (hr_7 : h[r + 7]? = some (aI 60 (nA od))) (hn : n ≤ 60) (hod : srt dy od n) (bth : ∀ j, j < 60 → th j < 12) (bkn : ∀ j, j < 60 → kn j ≤ 80000) (bgo : ∀ j, j < 60 → go j ≤ 80001) (bq : q < 60) (bt : t < 12) (bk : k ≤ 80000) : CD l G yX5_counts cX5_counts 4 (some .boolean) 0 0 0 [.ref (G.1 + r), .int (nI q), .int (nI t), .int (nI k)] h (some (.int (if (th q = t ∧ kn q ≤ k ∧ k < go q) then 1 else 0))) h := by
  refine cm_ofQ rfl (Nat.le_of_ble_eq_true rfl) [(0, .ref (G.1 + r)), (1, .int (nI q)), (2, .int (nI t)), (3, .int (nI k))] rfl (fun QF hQF => ?_)
  refine aw_aload_n 0 dX5_counts_0 rfl rfl ?_
  refine aw_get fX5_9 dX5_counts_1 hr rfl ?_
  refine aw_iload_n 1 dX5_counts_4 rfl rfl ?_
  refine aw_iald q (rfl) (by omega) (by decide) dX5_counts_5 hr_1 ?_
  refine aw_toe (nI (th q)) (rfl) ?_
  have b1 := bth q (by omega)
  refine aw_iload_n 2 dX5_counts_6 rfl rfl ?_
  refine aw_icmp_ne 34 dX5_counts_7 (by decide) (fun c7 => ?_) (fun c7 => ?_)
  · have d7 := mt (nv_eq (a := th q) (b := t) (rfl) (rfl) (by omega) (by omega)).mpr c7
    refine aw_iconst (0) dX5_counts_34 (by decide) ?_
    subst hQF
    exact aw_zret rfl rfl dX5_counts_35 (by decide) (by decide) ⟨by rw [if_neg (by omega)], rfl⟩
  · have d7 := (nv_eq (a := th q) (b := t) (rfl) (rfl) (by omega) (by omega)).mp c7
    refine aw_aload_n 0 dX5_counts_10 rfl rfl ?_
    refine aw_get fX5_24 dX5_counts_11 hr rfl ?_
    refine aw_iload_n 1 dX5_counts_14 rfl rfl ?_
    refine aw_iald q (rfl) (by omega) (by decide) dX5_counts_15 hr_5 ?_
    refine aw_toe (nI (kn q)) (rfl) ?_
    have b2 := bkn q (by omega)
    refine aw_iload_n 3 dX5_counts_16 rfl rfl ?_
    refine aw_icmp_gt 34 dX5_counts_17 (by decide) (fun c17 => ?_) (fun c17 => ?_)
    · have d17 := (nv_lt (a := k) (b := kn q) (rfl) (rfl) (by omega) (by omega)).mp c17
      refine aw_iconst (0) dX5_counts_34 (by decide) ?_
      subst hQF
      exact aw_zret rfl rfl dX5_counts_35 (by decide) (by decide) ⟨by rw [if_neg (by omega)], rfl⟩
    · have d17 := mt (nv_lt (a := k) (b := kn q) (rfl) (rfl) (by omega) (by omega)).mpr c17
      refine aw_iload_n 3 dX5_counts_20 rfl rfl ?_
      refine aw_aload_n 0 dX5_counts_21 rfl rfl ?_
      refine aw_get fX5_27 dX5_counts_22 hr rfl ?_
      refine aw_iload_n 1 dX5_counts_25 rfl rfl ?_
      refine aw_iald q (rfl) (by omega) (by decide) dX5_counts_26 hr_6 ?_
      refine aw_toe (nI (go q)) (rfl) ?_
      have b3 := bgo q (by omega)
      refine aw_icmp_ge 34 dX5_counts_27 (by decide) (fun c27 => ?_) (fun c27 => ?_)
      · have d27 := (nv_le (a := go q) (b := k) (rfl) (rfl) (by omega) (by omega)).mp c27
        refine aw_iconst (0) dX5_counts_34 (by decide) ?_
        subst hQF
        exact aw_zret rfl rfl dX5_counts_35 (by decide) (by decide) ⟨by rw [if_neg (by omega)], rfl⟩
      · have d27 := mt (nv_le (a := go q) (b := k) (rfl) (rfl) (by omega) (by omega)).mpr c27
        refine aw_iconst (1) dX5_counts_30 (by decide) ?_
        refine aw_goto 35 dX5_counts_31 (by decide) ?_
        subst hQF
        exact aw_zret rfl rfl dX5_counts_35 (by decide) (by decide) ⟨by rw [if_pos (by omega)], rfl⟩
def qdF (th ot dy kn go od : Nat → Nat) (t k : Nat) : Nat → Nat × Int32 × Int32 × Int32
  | 0 => (0, -1, -1, 0)
  | a + 1 =>
    let q := od a
    let s := qdF th ot dy kn go od t k a
    if th q = t ∧ kn q ≤ k ∧ k < go q then
      (if nI (dy q) = s.2.1 then (if nI (ot q) = s.2.2.1 then s else if s.2.2.2 = 0 then (s.1 + 1, s.2.1, s.2.2.1, 1) else s) else (s.1, nI (dy q), nI (ot q), 0))
    else s
theorem qdF_le {th ot dy kn go od : Nat → Nat} {t k : Nat} : ∀ a, (qdF th ot dy kn go od t k a).1 ≤ a := by
  intro a
  induction a with
  | zero => exact Nat.le_refl _
  | succ a ih => simp only [qdF]; repeat' split
                 all_goals first | omega | (simp only []; omega)
set_option maxHeartbeats 4000000 in
theorem aX5_quarrelDays {l : Launch} {G : xG} {h : List va_E} {th ot dy so kn go od : Nat → Nat} {n : Nat} {wd : Int32} {r : Nat} {t k : Nat} (hr : h[r]? = some (oB 5 (lR G r (nI n) wd))) (hr_1 : h[r + 1]? = some (aI 60 (nA th))) (hr_2 : h[r + 2]? = some (aI 60 (nA ot))) (hr_3 : h[r + 3]? = some (aI 60 (nA dy))) (hr_4 : h[r + 4]? = some (aI 60 (nA so))) (hr_5 : h[r + 5]? = some (aI 60 (nA kn))) (hr_6 : h[r + 6]? = some (aI 60 (nA go))) (hr_7 : h[r + 7]? = some (aI 60 (nA od))) (hn : n ≤ 60) (hod : srt dy od n) (bth : ∀ j, j < 60 → th j < 12) (bkn : ∀ j, j < 60 → kn j ≤ 80000) (bgo : ∀ j, j < 60 → go j ≤ 80001) (bdy : ∀ j, j < 60 → dy j ≤ 80000) (bot : ∀ j, j < 60 → ot j < 8) (bt : t < 12) (bk : k ≤ 80000) : CD l G yX5_quarrelDays cX5_quarrelDays 9 (some .int) 1 0 0 [.ref (G.1 + r), .int (nI t), .int (nI k)] h (some (.int (nI (qdF th ot dy kn go od t k n).1))) h := by
  refine cm_ofQ rfl (Nat.le_of_ble_eq_true rfl) [(0, .ref (G.1 + r)), (1, .int (nI t)), (2, .int (nI k))] rfl (fun QF hQF => ?_)
  refine aw_iconst (0) dX5_quarrelDays_0 (by decide) ?_
  refine aw_istore_n [(3, .int 0), (0, .ref (G.1 + r)), (1, .int (nI t)), (2, .int (nI k))] dX5_quarrelDays_1 rfl (by decide) rfl ?_
  refine aw_iconst (-1) dX5_quarrelDays_2 (by decide) ?_
  refine aw_istore [(4, .int (-1)), (3, .int 0), (0, .ref (G.1 + r)), (1, .int (nI t)), (2, .int (nI k))] dX5_quarrelDays_3 (by decide) rfl ?_
  refine aw_iconst (-1) dX5_quarrelDays_5 (by decide) ?_
  refine aw_istore [(5, .int (-1)), (4, .int (-1)), (3, .int 0), (0, .ref (G.1 + r)), (1, .int (nI t)), (2, .int (nI k))] dX5_quarrelDays_6 (by decide) rfl ?_
  refine aw_iconst (0) dX5_quarrelDays_8 (by decide) ?_
  refine aw_istore [(6, .int 0), (5, .int (-1)), (4, .int (-1)), (3, .int 0), (0, .ref (G.1 + r)), (1, .int (nI t)), (2, .int (nI k))] dX5_quarrelDays_9 (by decide) rfl ?_
  refine aw_iconst (0) dX5_quarrelDays_11 (by decide) ?_
  refine aw_istore [(7, .int 0), (6, .int 0), (5, .int (-1)), (4, .int (-1)), (3, .int 0), (0, .ref (G.1 + r)), (1, .int (nI t)), (2, .int (nI k))] dX5_quarrelDays_12 (by decide) rfl ?_
  refine aw_lv [(7, .int 0), (6, .int 0), (5, .int (-1)), (4, .int (-1)), (3, .int 0), (2, .int (nI k)), (1, .int (nI t)), (0, .ref (G.1 + r))] [0, 1, 2, 3, 4, 7, 6, 5] rfl ?_
  suffices L4 : ∀ (mm : Nat) (i : Nat) (v3 : Nat) (v4 : Int32) (v5 : Int32) (v6 : Int32), n - i < mm → (i ≤ n) → ((v3, v4, v5, v6) = (qdF th ot dy kn go od t k i)) → AW l G yX5_quarrelDays cX5_quarrelDays 9 (some .int) (xR 1 0 0) (fun _ _ => True) QF 0 0 14 [(7, .int (nI i)), (6, .int v6), (5, .int v5), (4, .int v4), (3, .int (nI v3)), (2, .int (nI k)), (1, .int (nI t)), (0, .ref (G.1 + r))] [] h from L4 (n - 0 + 1) 0 0 (-1) (-1) 0 (Nat.lt_succ_self _) (Nat.zero_le _) (rfl)
  intro mm
  induction mm with
  | zero =>
    intro i v3 v4 v5 v6 hmm hi hq
    exact absurd hmm (Nat.not_lt_zero _)
  | succ mm ih4 =>
    intro i v3 v4 v5 v6 hmm hi hq
    have b3 : v3 ≤ i := by have q := qdF_le (th := th) (ot := ot) (dy := dy) (kn := kn) (go := go) (od := od) (t := t) (k := k) i; rw [← hq] at q; exact q
    refine aw_iload 0 dX5_quarrelDays_14 rfl ?_
    refine aw_aload_n 7 dX5_quarrelDays_16 rfl rfl ?_
    refine aw_get fX5_33 dX5_quarrelDays_17 hr rfl ?_
    refine aw_icmp_ge 108 dX5_quarrelDays_20 (by decide) (fun c20 => ?_) (fun c20 => ?_)
    · have d20 := (nv_le (a := n) (b := i) (rfl) (rfl) (by omega) (by omega)).mp c20
      refine aw_iload_n 4 dX5_quarrelDays_108 rfl rfl ?_
      subst hQF
      exact aw_iret rfl dX5_quarrelDays_109 (by decide) (by decide) ⟨by rw [show n = i by omega, ← hq], rfl⟩
    · have d20 := mt (nv_le (a := n) (b := i) (rfl) (rfl) (by omega) (by omega)).mpr c20
      refine aw_aload_n 7 dX5_quarrelDays_23 rfl rfl ?_
      refine aw_get fX5_30 dX5_quarrelDays_24 hr rfl ?_
      refine aw_iload 0 dX5_quarrelDays_27 rfl ?_
      refine aw_iald i (rfl) (by omega) (by decide) dX5_quarrelDays_29 hr_7 ?_
      refine aw_toe (nI (od i)) (rfl) ?_
      have b5 := hod.1 i (by omega)
      refine aw_istore [(8, .int (nI (od i))), (7, .int (nI i)), (6, .int v6), (5, .int v5), (4, .int v4), (3, .int (nI v3)), (2, .int (nI k)), (1, .int (nI t)), (0, .ref (G.1 + r))] dX5_quarrelDays_30 (by decide) rfl ?_
      refine aw_aload_n 8 dX5_quarrelDays_32 rfl rfl ?_
      refine aw_iload 0 dX5_quarrelDays_33 rfl ?_
      refine aw_iload_n 7 dX5_quarrelDays_35 rfl rfl ?_
      refine aw_iload_n 6 dX5_quarrelDays_36 rfl rfl ?_
      refine aw_dV [.int (nI (od i)), .int (nI t), .int (nI k)] [] lX5_41 vX5_counts mX5_counts dX5_quarrelDays_37 (aX5_counts (th := th) (ot := ot) (dy := dy) (so := so) (kn := kn) (go := go) (od := od) (n := n) (wd := wd) (r := r) (q := od i) (t := t) (k := k) hr hr_1 hr_2 hr_3 hr_4 hr_5 hr_6 hr_7 (by omega) hod bth bkn bgo (by omega) (by omega) (by omega)) hr rfl rfl rfl (Nat.le_of_ble_eq_true rfl) (by decide) (by decide) rfl ?_
      refine aw_if_eq 102 dX5_quarrelDays_40 (by decide) (fun c40 => ?_) (fun c40 => ?_)
      · have t40 := ite_0 c40
        refine aw_iinc (j := 1) (nI (i + 1)) [(7, .int (nI (i + 1))), (8, .int (nI (od i))), (6, .int v6), (5, .int v5), (4, .int v4), (3, .int (nI v3)), (2, .int (nI k)), (1, .int (nI t)), (0, .ref (G.1 + r))] dX5_quarrelDays_102 rfl (nv_inc (rfl)) (by decide) rfl ?_
        refine aw_goto 14 dX5_quarrelDays_105 (by decide) ?_
        refine aw_lv [(7, .int (nI (i + 1))), (6, .int v6), (5, .int v5), (4, .int v4), (3, .int (nI v3)), (2, .int (nI k)), (1, .int (nI t)), (0, .ref (G.1 + r))] [0, 2, 3, 4, 5, 6, 7, 8] rfl ?_
        exact ih4 (i + 1) v3 v4 v5 v6 (by omega) (by omega) (by simp only [qdF]; rw [← hq]; simp only [if_neg t40])
      · have t40 := ite_1 c40
        refine aw_aload_n 8 dX5_quarrelDays_43 rfl rfl ?_
        refine aw_get fX5_18 dX5_quarrelDays_44 hr rfl ?_
        refine aw_iload 0 dX5_quarrelDays_47 rfl ?_
        refine aw_iald (od i) (rfl) (by omega) (by decide) dX5_quarrelDays_49 hr_3 ?_
        refine aw_toe (nI (dy (od i))) (rfl) ?_
        refine aw_iload 4 dX5_quarrelDays_50 rfl ?_
        refine aw_icmp_eq 79 dX5_quarrelDays_52 (by decide) (fun c52 => ?_) (fun c52 => ?_)
        · refine aw_aload_n 8 dX5_quarrelDays_79 rfl rfl ?_
          refine aw_get fX5_15 dX5_quarrelDays_80 hr rfl ?_
          refine aw_iload 0 dX5_quarrelDays_83 rfl ?_
          refine aw_iald (od i) (rfl) (by omega) (by decide) dX5_quarrelDays_85 hr_2 ?_
          refine aw_toe (nI (ot (od i))) (rfl) ?_
          refine aw_iload 3 dX5_quarrelDays_86 rfl ?_
          refine aw_icmp_eq 102 dX5_quarrelDays_88 (by decide) (fun c88 => ?_) (fun c88 => ?_)
          · refine aw_iinc (j := 1) (nI (i + 1)) [(7, .int (nI (i + 1))), (8, .int (nI (od i))), (6, .int v6), (5, .int v5), (4, .int v4), (3, .int (nI v3)), (2, .int (nI k)), (1, .int (nI t)), (0, .ref (G.1 + r))] dX5_quarrelDays_102 rfl (nv_inc (rfl)) (by decide) rfl ?_
            refine aw_goto 14 dX5_quarrelDays_105 (by decide) ?_
            refine aw_lv [(7, .int (nI (i + 1))), (6, .int v6), (5, .int v5), (4, .int v4), (3, .int (nI v3)), (2, .int (nI k)), (1, .int (nI t)), (0, .ref (G.1 + r))] [0, 2, 3, 4, 5, 6, 7, 8] rfl ?_
            exact ih4 (i + 1) v3 v4 v5 v6 (by omega) (by omega) (by simp only [qdF]; rw [← hq]; simp only [if_pos t40, if_pos c52, if_pos c88])
          · refine aw_iload 2 dX5_quarrelDays_91 rfl ?_
            refine aw_if_ne 102 dX5_quarrelDays_93 (by decide) (fun c93 => ?_) (fun c93 => ?_)
            · refine aw_iinc (j := 1) (nI (i + 1)) [(7, .int (nI (i + 1))), (8, .int (nI (od i))), (6, .int v6), (5, .int v5), (4, .int v4), (3, .int (nI v3)), (2, .int (nI k)), (1, .int (nI t)), (0, .ref (G.1 + r))] dX5_quarrelDays_102 rfl (nv_inc (rfl)) (by decide) rfl ?_
              refine aw_goto 14 dX5_quarrelDays_105 (by decide) ?_
              refine aw_lv [(7, .int (nI (i + 1))), (6, .int v6), (5, .int v5), (4, .int v4), (3, .int (nI v3)), (2, .int (nI k)), (1, .int (nI t)), (0, .ref (G.1 + r))] [0, 2, 3, 4, 5, 6, 7, 8] rfl ?_
              exact ih4 (i + 1) v3 v4 v5 v6 (by omega) (by omega) (by simp only [qdF]; rw [← hq]; simp only [if_pos t40, if_pos c52, if_neg c88, if_neg c93])
            · refine aw_iconst (1) dX5_quarrelDays_96 (by decide) ?_
              refine aw_istore [(6, .int 1), (8, .int (nI (od i))), (7, .int (nI i)), (5, .int v5), (4, .int v4), (3, .int (nI v3)), (2, .int (nI k)), (1, .int (nI t)), (0, .ref (G.1 + r))] dX5_quarrelDays_97 (by decide) rfl ?_
              refine aw_iinc (j := 5) (nI (v3 + 1)) [(3, .int (nI (v3 + 1))), (6, .int 1), (8, .int (nI (od i))), (7, .int (nI i)), (5, .int v5), (4, .int v4), (2, .int (nI k)), (1, .int (nI t)), (0, .ref (G.1 + r))] dX5_quarrelDays_99 rfl (nv_inc (rfl)) (by decide) rfl ?_
              refine aw_iinc (j := 3) (nI (i + 1)) [(7, .int (nI (i + 1))), (3, .int (nI (v3 + 1))), (6, .int 1), (8, .int (nI (od i))), (5, .int v5), (4, .int v4), (2, .int (nI k)), (1, .int (nI t)), (0, .ref (G.1 + r))] dX5_quarrelDays_102 rfl (nv_inc (rfl)) (by decide) rfl ?_
              refine aw_goto 14 dX5_quarrelDays_105 (by decide) ?_
              refine aw_lv [(7, .int (nI (i + 1))), (6, .int 1), (5, .int v5), (4, .int v4), (3, .int (nI (v3 + 1))), (2, .int (nI k)), (1, .int (nI t)), (0, .ref (G.1 + r))] [0, 2, 4, 5, 1, 6, 7, 8] rfl ?_
              exact ih4 (i + 1) (v3 + 1) v4 v5 1 (by omega) (by omega) (by simp only [qdF]; rw [← hq]; simp only [if_pos t40, if_pos c52, if_neg c88, if_pos c93])
        · refine aw_aload_n 8 dX5_quarrelDays_55 rfl rfl ?_
          refine aw_get fX5_18 dX5_quarrelDays_56 hr rfl ?_
          refine aw_iload 0 dX5_quarrelDays_59 rfl ?_
          refine aw_iald (od i) (rfl) (by omega) (by decide) dX5_quarrelDays_61 hr_3 ?_
          refine aw_toe (nI (dy (od i))) (rfl) ?_
          refine aw_istore [(4, .int (nI (dy (od i)))), (8, .int (nI (od i))), (7, .int (nI i)), (6, .int v6), (5, .int v5), (3, .int (nI v3)), (2, .int (nI k)), (1, .int (nI t)), (0, .ref (G.1 + r))] dX5_quarrelDays_62 (by decide) rfl ?_
          refine aw_aload_n 8 dX5_quarrelDays_64 rfl rfl ?_
          refine aw_get fX5_15 dX5_quarrelDays_65 hr rfl ?_
          refine aw_iload 1 dX5_quarrelDays_68 rfl ?_
          refine aw_iald (od i) (rfl) (by omega) (by decide) dX5_quarrelDays_70 hr_2 ?_
          refine aw_toe (nI (ot (od i))) (rfl) ?_
          refine aw_istore [(5, .int (nI (ot (od i)))), (4, .int (nI (dy (od i)))), (8, .int (nI (od i))), (7, .int (nI i)), (6, .int v6), (3, .int (nI v3)), (2, .int (nI k)), (1, .int (nI t)), (0, .ref (G.1 + r))] dX5_quarrelDays_71 (by decide) rfl ?_
          refine aw_iconst (0) dX5_quarrelDays_73 (by decide) ?_
          refine aw_istore [(6, .int 0), (5, .int (nI (ot (od i)))), (4, .int (nI (dy (od i)))), (8, .int (nI (od i))), (7, .int (nI i)), (3, .int (nI v3)), (2, .int (nI k)), (1, .int (nI t)), (0, .ref (G.1 + r))] dX5_quarrelDays_74 (by decide) rfl ?_
          refine aw_goto 102 dX5_quarrelDays_76 (by decide) ?_
          refine aw_iinc (j := 4) (nI (i + 1)) [(7, .int (nI (i + 1))), (6, .int 0), (5, .int (nI (ot (od i)))), (4, .int (nI (dy (od i)))), (8, .int (nI (od i))), (3, .int (nI v3)), (2, .int (nI k)), (1, .int (nI t)), (0, .ref (G.1 + r))] dX5_quarrelDays_102 rfl (nv_inc (rfl)) (by decide) rfl ?_
          refine aw_goto 14 dX5_quarrelDays_105 (by decide) ?_
          refine aw_lv [(7, .int (nI (i + 1))), (6, .int 0), (5, .int (nI (ot (od i)))), (4, .int (nI (dy (od i)))), (3, .int (nI v3)), (2, .int (nI k)), (1, .int (nI t)), (0, .ref (G.1 + r))] [0, 1, 2, 3, 5, 6, 7, 8] rfl ?_
          exact ih4 (i + 1) v3 (nI (dy (od i))) (nI (ot (od i))) 0 (by omega) (by omega) (by simp only [qdF]; rw [← hq]; simp only [if_pos t40, if_neg c52])
