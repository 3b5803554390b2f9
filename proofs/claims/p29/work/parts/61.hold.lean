/-- an array's first places hold a stack -/
def stk (LE : Nat → Int32) : List Int32 → Prop
  | [] => True
  | x :: s => LE s.length = x ∧ stk LE s
theorem stk_up {LE : Nat → Int32} {v : Int32} : ∀ (s : List Int32) (n : Nat), s.length ≤ n → stk LE s → stk (upd LE n v) s
  | [], _, _, _ => trivial
  | x :: s, n, hn, h => ⟨by have q : s.length ≠ n := by simp at hn; omega
                            simp only [upd, if_neg q]; exact h.1, stk_up s n (by simp at hn; omega) h.2⟩
abbrev hsT : Type := List Int32 × Int32 × Int32 × Int32
def foF (s : Nat) (p : Int32) (T : hsT) : hsT :=
  if s = 3 then (T.2.1 :: T.1, p, T.2.2.1, T.2.2.2)
  else if s = 4 then (match T.1 with
    | [] => T
    | x :: t => (t, x, T.2.2.1, T.2.2.2))
  else ([], p, if s = 2 then -9 else p, if s = 2 then 1 else 0)
theorem foF_len (s : Nat) (p : Int32) (T : hsT) : (foF s p T).1.length ≤ T.1.length + 1 := by
  unfold foF
  split
  · simp
  · split
    · cases e : T.1 with
      | nil => simp [e]
      | cons x t => simp; omega
    · simp
def rpF (th ot dy so kn go od : Nat → Nat) (t d k : Nat) : Nat → hsT
  | 0 => ([], -9, -9, 0)
  | a + 1 => if dy (od a) ≤ d ∧ th (od a) = t ∧ kn (od a) ≤ k ∧ k < go (od a) then foF (so (od a)) (nI (ot (od a))) (rpF th ot dy so kn go od t d k a) else rpF th ot dy so kn go od t d k a
theorem rpF_s {th ot dy so kn go od : Nat → Nat} {t d k a : Nat} : rpF th ot dy so kn go od t d k (a + 1) = if dy (od a) ≤ d ∧ th (od a) = t ∧ kn (od a) ≤ k ∧ k < go (od a) then foF (so (od a)) (nI (ot (od a))) (rpF th ot dy so kn go od t d k a) else rpF th ot dy so kn go od t d k a := rfl
theorem rpF_len {th ot dy so kn go od : Nat → Nat} {t d k : Nat} : ∀ a, (rpF th ot dy so kn go od t d k a).1.length ≤ a := by
  intro a
  induction a with
  | zero => exact Nat.le_refl _
  | succ a ih =>
    rw [rpF_s]
    split
    · have q := foF_len (so (od a)) (nI (ot (od a))) (rpF th ot dy so kn go od t d k a)
      omega
    · omega
def hsF (LC : Nat → Nat) (HO : Nat → Int32) (now : Int32) : Nat → Nat → Nat
  | 0, _ => 0
  | f + 1, last => if LC last = 0 then 0 else if HO (LC last - 1) = now then hsF LC HO now f (LC last - 1) else LC last
set_option maxHeartbeats 4000000 in
theorem aX2_follow {l : Launch} {G : xG} {h : List va_E} {T : hsT} {LE : Nat → Int32} {s : Nat} {p : Int32} (h77 : h[77]? = some (oB 2 (lH G (nI T.1.length) T.2.1 T.2.2.1 T.2.2.2))) (h78 : h[78]? = some (aI 60 LE)) (hs : stk LE T.1) (hl : T.1.length < 60) (bs : s < 5) : CE l G yX2_follow cX2_follow 3 none 0 0 0 [.ref (G.1 + 77), .int (nI s), .int p] h none (fun h1 => ∃ LE1 : Nat → Int32, h1[77]? = some (oB 2 (lH G (nI ((foF s p T).1.length)) ((foF s p T).2.1) ((foF s p T).2.2.1) ((foF s p T).2.2.2))) ∧ h1[78]? = some (aI 60 LE1) ∧ rng 77 78 h h1 ∧ stk LE1 (foF s p T).1) := by
  refine cm_ofQ rfl (Nat.le_of_ble_eq_true rfl) [(0, .ref (G.1 + 77)), (1, .int (nI s)), (2, .int p)] rfl (fun QF hQF => ?_)
  refine aw_iload_n 1 dX2_follow_0 rfl rfl ?_
  refine aw_iconst (3) dX2_follow_1 (by decide) ?_
  refine aw_icmp_ne 36 dX2_follow_2 (by decide) (fun c2 => ?_) (fun c2 => ?_)
  · have d2 := mt (nv_eq (a := s) (b := 3) (rfl) (rfl) (by omega) (by omega)).mpr c2
    refine aw_iload_n 1 dX2_follow_36 rfl rfl ?_
    refine aw_iconst (4) dX2_follow_37 (by decide) ?_
    refine aw_icmp_ne 74 dX2_follow_38 (by decide) (fun c38 => ?_) (fun c38 => ?_)
    · have d38 := mt (nv_eq (a := s) (b := 4) (rfl) (rfl) (by omega) (by omega)).mpr c38
      refine aw_aload_n 0 dX2_follow_74 rfl rfl ?_
      refine aw_iconst (0) dX2_follow_75 (by decide) ?_
      refine aw_putQ fX2_15 dX2_follow_76 (lH G 0 T.2.1 T.2.2.1 T.2.2.2) h77 rfl rfl rfl (Nat.le_of_ble_eq_true rfl) rfl ?_
      refine aw_aload_n 0 dX2_follow_79 rfl rfl ?_
      refine aw_iload_n 2 dX2_follow_80 rfl rfl ?_
      refine aw_putQ fX2_19 dX2_follow_81 (lH G 0 p T.2.2.1 T.2.2.2) (gs h77) rfl rfl rfl (Nat.le_of_ble_eq_true rfl) rfl ?_
      refine aw_aload_n 0 dX2_follow_84 rfl rfl ?_
      refine aw_iload_n 1 dX2_follow_85 rfl rfl ?_
      refine aw_iconst (2) dX2_follow_86 (by decide) ?_
      refine aw_icmp_ne 94 dX2_follow_87 (by decide) (fun c87 => ?_) (fun c87 => ?_)
      · have d87 := mt (nv_eq (a := s) (b := 2) (rfl) (rfl) (by omega) (by omega)).mpr c87
        refine aw_iconst (0) dX2_follow_94 (by decide) ?_
        refine aw_putQ fX2_25 dX2_follow_95 (lH G 0 p T.2.2.1 0) (gs (gs h77)) rfl rfl rfl (Nat.le_of_ble_eq_true rfl) rfl ?_
        refine aw_aload_n 0 dX2_follow_98 rfl rfl ?_
        refine aw_aload_n 0 dX2_follow_99 rfl rfl ?_
        refine aw_get fX2_25 dX2_follow_100 (gs (gs (gs h77))) rfl ?_
        refine aw_if_eq 111 dX2_follow_103 (by decide) (fun c103 => ?_) (fun c103 => absurd (by decide) c103)
        refine aw_iload_n 2 dX2_follow_111 rfl rfl ?_
        refine aw_putQ fX2_22 dX2_follow_112 (lH G 0 p p 0) (gs (gs (gs h77))) rfl rfl rfl (Nat.le_of_ble_eq_true rfl) rfl ?_
        subst hQF
        have eF : foF s p T = ([], p, p, 0) := by unfold foF; rw [if_neg (by omega), if_neg (by omega)]; rw [if_neg (by omega), if_neg (by omega)]
        exact aw_vret rfl dX2_follow_115 (by decide) (by decide) ⟨rfl, _, by rw [eF]; exact (gs (gs (gs (gs h77)))), (gn (by decide) (gn (by decide) (gn (by decide) (gn (by decide) (h78))))), rng_set (rng_set (rng_set (rng_set (rng_rf 77 78 h) (by decide) (by decide)) (by decide) (by decide)) (by decide) (by decide)) (by decide) (by decide), by rw [eF]; exact trivial⟩
      · have d87 := (nv_eq (a := s) (b := 2) (rfl) (rfl) (by omega) (by omega)).mp c87
        refine aw_iconst (1) dX2_follow_90 (by decide) ?_
        refine aw_goto 95 dX2_follow_91 (by decide) ?_
        refine aw_putQ fX2_25 dX2_follow_95 (lH G 0 p T.2.2.1 1) (gs (gs h77)) rfl rfl rfl (Nat.le_of_ble_eq_true rfl) rfl ?_
        refine aw_aload_n 0 dX2_follow_98 rfl rfl ?_
        refine aw_aload_n 0 dX2_follow_99 rfl rfl ?_
        refine aw_get fX2_25 dX2_follow_100 (gs (gs (gs h77))) rfl ?_
        refine aw_if_eq 111 dX2_follow_103 (by decide) (fun c103 => absurd c103 (by decide)) (fun c103 => ?_)
        refine aw_bipush (-9) dX2_follow_106 (by decide) ?_
        refine aw_goto 112 dX2_follow_108 (by decide) ?_
        refine aw_putQ fX2_22 dX2_follow_112 (lH G 0 p (-9) 1) (gs (gs (gs h77))) rfl rfl rfl (Nat.le_of_ble_eq_true rfl) rfl ?_
        subst hQF
        have eF : foF s p T = ([], p, (-9), 1) := by unfold foF; rw [if_neg (by omega), if_neg (by omega)]; rw [if_pos (by omega), if_pos (by omega)]
        exact aw_vret rfl dX2_follow_115 (by decide) (by decide) ⟨rfl, _, by rw [eF]; exact (gs (gs (gs (gs h77)))), (gn (by decide) (gn (by decide) (gn (by decide) (gn (by decide) (h78))))), rng_set (rng_set (rng_set (rng_set (rng_rf 77 78 h) (by decide) (by decide)) (by decide) (by decide)) (by decide) (by decide)) (by decide) (by decide), by rw [eF]; exact trivial⟩
    · have d38 := (nv_eq (a := s) (b := 4) (rfl) (rfl) (by omega) (by omega)).mp c38
      refine aw_aload_n 0 dX2_follow_41 rfl rfl ?_
      refine aw_get fX2_15 dX2_follow_42 h77 rfl ?_
      refine aw_if_le 115 dX2_follow_45 (by decide) (fun c45 => ?_) (fun c45 => ?_)
      · have d45 := (nv_le (a := T.1.length) (b := 0) (rfl) (rfl) (by omega) (by omega)).mp c45
        subst hQF
        have e0 : T.1 = [] := List.eq_nil_of_length_eq_zero (by omega)
        have eF : foF s p T = T := by unfold foF; rw [if_neg (by omega), if_pos (by omega), e0]
        exact aw_vret rfl dX2_follow_115 (by decide) (by decide) ⟨rfl, _, by rw [eF]; exact h77, h78, rng_rf 77 78 h, by rw [eF]; exact hs⟩
      · have d45 := mt (nv_le (a := T.1.length) (b := 0) (rfl) (rfl) (by omega) (by omega)).mpr c45
        obtain ⟨x0, t0, eT⟩ : ∃ x t, T.1 = x :: t := by cases e : T.1 with | nil => (rw [e] at d45; exact absurd d45 (by simp)) | cons x t => exact ⟨x, t, rfl⟩
        have hs2 : stk LE (x0 :: t0) := eT ▸ hs
        have hs2x : LE (T.1.length - 1) = x0 := by rw [eT]; exact hs2.1
        refine aw_aload_n 0 dX2_follow_48 rfl rfl ?_
        refine aw_dup dX2_follow_49 rfl ?_
        refine aw_get fX2_15 dX2_follow_50 h77 rfl ?_
        refine aw_iconst (1) dX2_follow_53 (by decide) ?_
        refine aw_isub dX2_follow_54 ?_
        refine aw_toe (nI (T.1.length - 1)) (nv_sub (rfl) (rfl) (by omega)) ?_
        refine aw_putQ fX2_15 dX2_follow_55 (lH G (nI (T.1.length - 1)) T.2.1 T.2.2.1 T.2.2.2) h77 rfl rfl rfl (Nat.le_of_ble_eq_true rfl) rfl ?_
        refine aw_aload_n 0 dX2_follow_58 rfl rfl ?_
        refine aw_aload_n 0 dX2_follow_59 rfl rfl ?_
        refine aw_get fX2_9 dX2_follow_60 (gs h77) rfl ?_
        refine aw_aload_n 0 dX2_follow_63 rfl rfl ?_
        refine aw_get fX2_15 dX2_follow_64 (gs h77) rfl ?_
        refine aw_iald (T.1.length - 1) (rfl) (by omega) (by decide) dX2_follow_67 (gn (by decide) (h78)) ?_
        refine aw_putQ fX2_19 dX2_follow_68 (lH G (nI (T.1.length - 1)) (LE (T.1.length - 1)) T.2.2.1 T.2.2.2) (gs h77) rfl rfl rfl (Nat.le_of_ble_eq_true rfl) rfl ?_
        refine aw_goto 115 dX2_follow_71 (by decide) ?_
        subst hQF
        have eF : foF s p T = (t0, x0, T.2.2.1, T.2.2.2) := by unfold foF; rw [if_neg (by omega), if_pos (by omega), eT]
        have eL : t0.length = T.1.length - 1 := by rw [eT]; simp
        exact aw_vret rfl dX2_follow_115 (by decide) (by decide) ⟨rfl, _, by rw [eF]; dsimp only; rw [eL, ← hs2x]; exact (gs (gs h77)), (gn (by decide) (gn (by decide) (h78))), rng_set (rng_set (rng_rf 77 78 h) (by decide) (by decide)) (by decide) (by decide), by rw [eF]; exact hs2.2⟩
  · have d2 := (nv_eq (a := s) (b := 3) (rfl) (rfl) (by omega) (by omega)).mp c2
    refine aw_aload_n 0 dX2_follow_5 rfl rfl ?_
    refine aw_get fX2_9 dX2_follow_6 h77 rfl ?_
    refine aw_aload_n 0 dX2_follow_9 rfl rfl ?_
    refine aw_get fX2_15 dX2_follow_10 h77 rfl ?_
    refine aw_aload_n 0 dX2_follow_13 rfl rfl ?_
    refine aw_get fX2_19 dX2_follow_14 h77 rfl ?_
    refine aw_iast T.1.length (rfl) (by omega) (by decide) dX2_follow_17 h78 ?_
    refine aw_aload_n 0 dX2_follow_18 rfl rfl ?_
    refine aw_dup dX2_follow_19 rfl ?_
    refine aw_get fX2_15 dX2_follow_20 (gn (by decide) (h77)) rfl ?_
    refine aw_iconst (1) dX2_follow_23 (by decide) ?_
    refine aw_iadd dX2_follow_24 ?_
    refine aw_toe (nI (T.1.length + 1)) (nv_add (rfl) (rfl)) ?_
    refine aw_putQ fX2_15 dX2_follow_25 (lH G (nI (T.1.length + 1)) T.2.1 T.2.2.1 T.2.2.2) (gn (by decide) (h77)) rfl rfl rfl (Nat.le_of_ble_eq_true rfl) rfl ?_
    refine aw_aload_n 0 dX2_follow_28 rfl rfl ?_
    refine aw_iload_n 2 dX2_follow_29 rfl rfl ?_
    refine aw_putQ fX2_19 dX2_follow_30 (lH G (nI (T.1.length + 1)) p T.2.2.1 T.2.2.2) (gs (gn (by decide) (h77))) rfl rfl rfl (Nat.le_of_ble_eq_true rfl) rfl ?_
    refine aw_goto 115 dX2_follow_33 (by decide) ?_
    subst hQF
    have eF : foF s p T = (T.2.1 :: T.1, p, T.2.2.1, T.2.2.2) := by unfold foF; rw [if_pos (by omega)]
    exact aw_vret rfl dX2_follow_115 (by decide) (by decide) ⟨rfl, _, by rw [eF]; exact (gs (gs (gn (by decide) (h77)))), (gn (by decide) (gn (by decide) (gs h78))), rng_set (rng_set (rng_set (rng_rf 77 78 h) (by decide) (by decide)) (by decide) (by decide)) (by decide) (by decide), by rw [eF]; exact ⟨by simp [upd], stk_up _ _ (Nat.le_refl _) hs⟩⟩
set_option maxHeartbeats 4000000 in
theorem aX2_replay {l : Launch} {G : xG} {h : List va_E} {th ot dy so kn go od : Nat → Nat} {n : Nat} {wd : Int32} {l0 o0 w0 z0 : Int32} {LE0 : Nat → Int32} {t d k : Nat} (h77 : h[77]? = some (oB 2 (lH G l0 o0 w0 z0))) (h78 : h[78]? = some (aI 60 LE0)) (h69 : h[69]? = some (oB 5 (lR G 69 (nI n) wd))) (h70 : h[70]? = some (aI 60 (nA th))) (h71 : h[71]? = some (aI 60 (nA ot))) (h72 : h[72]? = some (aI 60 (nA dy))) (h73 : h[73]? = some (aI 60 (nA so))) (h74 : h[74]? = some (aI 60 (nA kn))) (h75 : h[75]? = some (aI 60 (nA go))) (h76 : h[76]? = some (aI 60 (nA od))) (hn : n ≤ 60) (hod : srt dy od n) (bth : ∀ j, j < 60 → th j < 12) (bkn : ∀ j, j < 60 → kn j ≤ 80000) (bgo : ∀ j, j < 60 → go j ≤ 80001) (bdy : ∀ j, j < 60 → dy j ≤ 80000) (bso : ∀ j, j < 60 → so j < 5) (bt : t < 12) (bd : d ≤ 80000) (bk : k ≤ 80000) : CE l G yX2_replay cX2_replay 7 none 1 0 0 [.ref (G.1 + 77), .ref (G.1 + 69), .int (nI t), .int (nI d), .int (nI k)] h none (fun h1 => ∃ LE1 : Nat → Int32, h1[77]? = some (oB 2 (lH G (nI ((rpF th ot dy so kn go od t d k n).1.length)) ((rpF th ot dy so kn go od t d k n).2.1) ((rpF th ot dy so kn go od t d k n).2.2.1) ((rpF th ot dy so kn go od t d k n).2.2.2))) ∧ h1[78]? = some (aI 60 LE1) ∧ rng 77 78 h h1) := by
  refine cm_ofQ rfl (Nat.le_of_ble_eq_true rfl) [(0, .ref (G.1 + 77)), (1, .ref (G.1 + 69)), (2, .int (nI t)), (3, .int (nI d)), (4, .int (nI k))] rfl (fun QF hQF => ?_)
  refine aw_aload_n 0 dX2_replay_0 rfl rfl ?_
  refine aw_iconst (0) dX2_replay_1 (by decide) ?_
  refine aw_putQ fX2_15 dX2_replay_2 (lH G 0 o0 w0 z0) h77 rfl rfl rfl (Nat.le_of_ble_eq_true rfl) rfl ?_
  refine aw_aload_n 0 dX2_replay_5 rfl rfl ?_
  refine aw_bipush (-9) dX2_replay_6 (by decide) ?_
  refine aw_putQ fX2_19 dX2_replay_8 (lH G 0 (-9) w0 z0) (gs h77) rfl rfl rfl (Nat.le_of_ble_eq_true rfl) rfl ?_
  refine aw_aload_n 0 dX2_replay_11 rfl rfl ?_
  refine aw_bipush (-9) dX2_replay_12 (by decide) ?_
  refine aw_putQ fX2_22 dX2_replay_14 (lH G 0 (-9) (-9) z0) (gs (gs h77)) rfl rfl rfl (Nat.le_of_ble_eq_true rfl) rfl ?_
  refine aw_aload_n 0 dX2_replay_17 rfl rfl ?_
  refine aw_iconst (0) dX2_replay_18 (by decide) ?_
  refine aw_putQ fX2_25 dX2_replay_19 (lH G 0 (-9) (-9) 0) (gs (gs (gs h77))) rfl rfl rfl (Nat.le_of_ble_eq_true rfl) rfl ?_
  refine aw_iconst (0) dX2_replay_22 (by decide) ?_
  refine aw_istore [(5, .int 0), (0, .ref (G.1 + 77)), (1, .ref (G.1 + 69)), (2, .int (nI t)), (3, .int (nI d)), (4, .int (nI k))] dX2_replay_23 (by decide) rfl ?_
  refine aw_lv [(5, .int 0), (4, .int (nI k)), (3, .int (nI d)), (2, .int (nI t)), (1, .ref (G.1 + 69)), (0, .ref (G.1 + 77))] [0, 5, 4, 3, 2, 1] rfl ?_
  suffices L18 : ∀ (mm : Nat) (i : Nat) (T : hsT) (LE : Nat → Int32) (h6 : List va_E), n - i < mm → (i ≤ n) → (T = (rpF th ot dy so kn go od t d k i)) → (stk LE T.1) → h6[77]? = some (oB 2 (lH G (nI T.1.length) T.2.1 T.2.2.1 T.2.2.2)) → h6[78]? = some (aI 60 LE) → h6[69]? = some (oB 5 (lR G 69 (nI n) wd)) → h6[70]? = some (aI 60 (nA th)) → h6[71]? = some (aI 60 (nA ot)) → h6[72]? = some (aI 60 (nA dy)) → h6[73]? = some (aI 60 (nA so)) → h6[74]? = some (aI 60 (nA kn)) → h6[75]? = some (aI 60 (nA go)) → h6[76]? = some (aI 60 (nA od)) → rng 77 78 h h6 → AW l G yX2_replay cX2_replay 7 none (xR 1 0 0) (fun _ _ => True) QF 0 0 25 [(5, .int (nI i)), (4, .int (nI k)), (3, .int (nI d)), (2, .int (nI t)), (1, .ref (G.1 + 69)), (0, .ref (G.1 + 77))] [] h6 from L18 (n - 0 + 1) 0 ([], -9, -9, 0) LE0 _ (Nat.lt_succ_self _) (Nat.zero_le _) (rfl) (trivial) (gs (gs (gs (gs h77)))) (gn (by decide) (gn (by decide) (gn (by decide) (gn (by decide) (h78))))) (gn (by decide) (gn (by decide) (gn (by decide) (gn (by decide) (h69))))) (gn (by decide) (gn (by decide) (gn (by decide) (gn (by decide) (h70))))) (gn (by decide) (gn (by decide) (gn (by decide) (gn (by decide) (h71))))) (gn (by decide) (gn (by decide) (gn (by decide) (gn (by decide) (h72))))) (gn (by decide) (gn (by decide) (gn (by decide) (gn (by decide) (h73))))) (gn (by decide) (gn (by decide) (gn (by decide) (gn (by decide) (h74))))) (gn (by decide) (gn (by decide) (gn (by decide) (gn (by decide) (h75))))) (gn (by decide) (gn (by decide) (gn (by decide) (gn (by decide) (h76))))) (rng_set (rng_set (rng_set (rng_set (rng_rf 77 78 h) (by decide) (by decide)) (by decide) (by decide)) (by decide) (by decide)) (by decide) (by decide))
  intro mm
  induction mm with
  | zero =>
    intro i T LE h6 hmm hi hT hs f7 f8 f9 f10 f11 f12 f13 f14 f15 f16 k17
    exact absurd hmm (Nat.not_lt_zero _)
  | succ mm ih18 =>
    intro i T LE h6 hmm hi hT hs f7 f8 f9 f10 f11 f12 f13 f14 f15 f16 k17
    have b9 : T.1.length ≤ i := by rw [hT]; exact rpF_len i
    refine aw_iload 0 dX2_replay_25 rfl ?_
    refine aw_aload_n 4 dX2_replay_27 rfl rfl ?_
    refine aw_get fX2_29 dX2_replay_28 f9 rfl ?_
    refine aw_icmp_ge 90 dX2_replay_31 (by decide) (fun c31 => ?_) (fun c31 => ?_)
    · have d31 := (nv_le (a := n) (b := i) (rfl) (rfl) (by omega) (by omega)).mp c31
      subst hQF
      exact aw_vret rfl dX2_replay_90 (by decide) (by decide) ⟨rfl, _, by rw [show n = i by omega, ← hT]; exact f7, f8, k17⟩
    · have d31 := mt (nv_le (a := n) (b := i) (rfl) (rfl) (by omega) (by omega)).mpr c31
      refine aw_aload_n 4 dX2_replay_34 rfl rfl ?_
      refine aw_get fX2_34 dX2_replay_35 f9 rfl ?_
      refine aw_iload 0 dX2_replay_38 rfl ?_
      refine aw_iald i (rfl) (by omega) (by decide) dX2_replay_40 f16 ?_
      refine aw_toe (nI (od i)) (rfl) ?_
      have b19 := hod.1 i (by omega)
      refine aw_istore [(6, .int (nI (od i))), (5, .int (nI i)), (4, .int (nI k)), (3, .int (nI d)), (2, .int (nI t)), (1, .ref (G.1 + 69)), (0, .ref (G.1 + 77))] dX2_replay_41 (by decide) rfl ?_
      refine aw_aload_n 5 dX2_replay_43 rfl rfl ?_
      refine aw_get fX2_37 dX2_replay_44 f9 rfl ?_
      refine aw_iload 0 dX2_replay_47 rfl ?_
      refine aw_iald (od i) (rfl) (by omega) (by decide) dX2_replay_49 f12 ?_
      refine aw_toe (nI (dy (od i))) (rfl) ?_
      have b20 := bdy (od i) (by omega)
      refine aw_iload_n 3 dX2_replay_50 rfl rfl ?_
      refine aw_icmp_gt 84 dX2_replay_51 (by decide) (fun c51 => ?_) (fun c51 => ?_)
      · have d51 := (nv_lt (a := d) (b := dy (od i)) (rfl) (rfl) (by omega) (by omega)).mp c51
        refine aw_iinc (j := 1) (nI (i + 1)) [(5, .int (nI (i + 1))), (6, .int (nI (od i))), (4, .int (nI k)), (3, .int (nI d)), (2, .int (nI t)), (1, .ref (G.1 + 69)), (0, .ref (G.1 + 77))] dX2_replay_84 rfl (nv_inc (rfl)) (by decide) rfl ?_
        refine aw_goto 25 dX2_replay_87 (by decide) ?_
        refine aw_lv [(5, .int (nI (i + 1))), (4, .int (nI k)), (3, .int (nI d)), (2, .int (nI t)), (1, .ref (G.1 + 69)), (0, .ref (G.1 + 77))] [0, 2, 3, 4, 5, 6] rfl ?_
        exact ih18 (i + 1) T LE _ (by omega) (by omega) (by rw [rpF_s, if_neg (fun q => by omega)]; exact hT) (hs) f7 f8 f9 f10 f11 f12 f13 f14 f15 f16 (k17)
      · have d51 := mt (nv_lt (a := d) (b := dy (od i)) (rfl) (rfl) (by omega) (by omega)).mpr c51
        refine aw_aload_n 5 dX2_replay_54 rfl rfl ?_
        refine aw_iload 0 dX2_replay_55 rfl ?_
        refine aw_iload_n 4 dX2_replay_57 rfl rfl ?_
        refine aw_iload 2 dX2_replay_58 rfl ?_
        refine aw_dV [.int (nI (od i)), .int (nI t), .int (nI k)] [] lX2_40 vX5_counts mX5_counts dX2_replay_60 (aX5_counts (th := th) (ot := ot) (dy := dy) (so := so) (kn := kn) (go := go) (od := od) (n := n) (wd := wd) (r := 69) (q := od i) (t := t) (k := k) f9 f10 f11 f12 f13 f14 f15 f16 (by omega) hod bth bkn bgo (by omega) (by omega) (by omega)) f9 rfl rfl rfl (Nat.le_of_ble_eq_true rfl) (by decide) (by decide) rfl ?_
        refine aw_if_eq 84 dX2_replay_63 (by decide) (fun c63 => ?_) (fun c63 => ?_)
        · have t63 := ite_0 c63
          refine aw_iinc (j := 1) (nI (i + 1)) [(5, .int (nI (i + 1))), (6, .int (nI (od i))), (4, .int (nI k)), (3, .int (nI d)), (2, .int (nI t)), (1, .ref (G.1 + 69)), (0, .ref (G.1 + 77))] dX2_replay_84 rfl (nv_inc (rfl)) (by decide) rfl ?_
          refine aw_goto 25 dX2_replay_87 (by decide) ?_
          refine aw_lv [(5, .int (nI (i + 1))), (4, .int (nI k)), (3, .int (nI d)), (2, .int (nI t)), (1, .ref (G.1 + 69)), (0, .ref (G.1 + 77))] [0, 2, 3, 4, 5, 6] rfl ?_
          exact ih18 (i + 1) T LE _ (by omega) (by omega) (by rw [rpF_s, if_neg (fun q => t63 q.2)]; exact hT) (hs) f7 f8 f9 f10 f11 f12 f13 f14 f15 f16 (k17)
        · have t63 := ite_1 c63
          refine aw_aload_n 6 dX2_replay_66 rfl rfl ?_
          refine aw_aload_n 5 dX2_replay_67 rfl rfl ?_
          refine aw_get fX2_44 dX2_replay_68 f9 rfl ?_
          refine aw_iload 0 dX2_replay_71 rfl ?_
          refine aw_iald (od i) (rfl) (by omega) (by decide) dX2_replay_73 f13 ?_
          refine aw_toe (nI (so (od i))) (rfl) ?_
          have b21 := bso (od i) (by omega)
          refine aw_aload_n 5 dX2_replay_74 rfl rfl ?_
          refine aw_get fX2_47 dX2_replay_75 f9 rfl ?_
          refine aw_iload 0 dX2_replay_78 rfl ?_
          refine aw_iald (od i) (rfl) (by omega) (by decide) dX2_replay_80 f11 ?_
          refine aw_toe (nI (ot (od i))) (rfl) ?_
          refine aw_eW [.int (nI (so (od i))), .int (nI (ot (od i)))] [] lX2_50 vX2_follow mX2_follow dX2_replay_81 (aX2_follow (LE := LE) (s := so (od i)) (p := (nI (ot (od i)))) f7 f8 (by omega) (by omega) (by omega)) f7 rfl rfl rfl (Nat.le_of_ble_eq_true rfl) (by decide) (by decide) rfl (fun h24 q23 => ?_)
          obtain ⟨LE122, f25, f26, k27, p28⟩ := q23
          have f29 := rng_at k27 (by decide) f9
          have f30 := rng_at k27 (by decide) f10
          have f31 := rng_at k27 (by decide) f11
          have f32 := rng_at k27 (by decide) f12
          have f33 := rng_at k27 (by decide) f13
          have f34 := rng_at k27 (by decide) f14
          have f35 := rng_at k27 (by decide) f15
          have f36 := rng_at k27 (by decide) f16
          refine aw_iinc (j := 1) (nI (i + 1)) [(5, .int (nI (i + 1))), (6, .int (nI (od i))), (4, .int (nI k)), (3, .int (nI d)), (2, .int (nI t)), (1, .ref (G.1 + 69)), (0, .ref (G.1 + 77))] dX2_replay_84 rfl (nv_inc (rfl)) (by decide) rfl ?_
          refine aw_goto 25 dX2_replay_87 (by decide) ?_
          refine aw_lv [(5, .int (nI (i + 1))), (4, .int (nI k)), (3, .int (nI d)), (2, .int (nI t)), (1, .ref (G.1 + 69)), (0, .ref (G.1 + 77))] [0, 2, 3, 4, 5, 6] rfl ?_
          exact ih18 (i + 1) (foF (so (od i)) (nI (ot (od i))) T) LE122 _ (by omega) (by omega) (by rw [rpF_s, if_pos ⟨by omega, t63⟩, ← hT]) (p28) f25 f26 f29 f30 f31 f32 f33 f34 f35 f36 (rng_tr (k17) (rng_w k27 (by decide) (by decide)))
theorem aX5_lastChange {l : Launch} {G : xG} {h : List va_E} {th ot dy so kn go od : Nat → Nat} {n : Nat} {wd : Int32} {r : Nat} {t k : Nat} (hr : h[r]? = some (oB 5 (lR G r (nI n) wd))) (hr_1 : h[r + 1]? = some (aI 60 (nA th))) (hr_2 : h[r + 2]? = some (aI 60 (nA ot))) (hr_3 : h[r + 3]? = some (aI 60 (nA dy))) (hr_4 : h[r + 4]? = some (aI 60 (nA so))) (hr_5 : h[r + 5]? = some (aI 60 (nA kn))) (hr_6 : h[r + 6]? = some (aI 60 (nA go))) (hr_7 : h[r + 7]? = some (aI 60 (nA od))) (hn : n ≤ 60) (hod : srt dy od n) (bth : ∀ j, j < 60 → th j < 12) (bkn : ∀ j, j < 60 → kn j ≤ 80000) (bgo : ∀ j, j < 60 → go j ≤ 80001) (bt : t < 12) (bk : k ≤ 80000) : CD l G yX5_lastChange cX5_lastChange 5 (some .int) 1 0 0 [.ref (G.1 + r), .int (nI t), .int (nI k)] h (some (.int (nI (lcF th kn go t k n)))) h :=
  gX5_lastChange ⟨hr, hr_1, hr_2, hr_3, hr_4, hr_5, hr_6, hr_7⟩ hn hod bth bkn bgo rfl bt rfl bk
theorem hsS {LC : Nat → Nat} {HO : Nat → Int32} {now : Int32} {i la : Nat} (h : i < 121) : hsF LC HO now (121 - i) la = if LC la = 0 then 0 else if HO (LC la - 1) = now then hsF LC HO now (121 - (i + 1)) (LC la - 1) else LC la := by
  rw [show 121 - i = (121 - (i + 1)) + 1 by omega]; rfl
set_option maxHeartbeats 4000000 in
theorem aX2_heldSince {l : Launch} {G : xG} {h : List va_E} {th ot dy so kn go od : Nat → Nat} {n : Nat} {wd : Int32} {l0 o0 w0 z0 : Int32} {LE0 : Nat → Int32} {t d k : Nat} (h77 : h[77]? = some (oB 2 (lH G l0 o0 w0 z0))) (h78 : h[78]? = some (aI 60 LE0)) (h69 : h[69]? = some (oB 5 (lR G 69 (nI n) wd))) (h70 : h[70]? = some (aI 60 (nA th))) (h71 : h[71]? = some (aI 60 (nA ot))) (h72 : h[72]? = some (aI 60 (nA dy))) (h73 : h[73]? = some (aI 60 (nA so))) (h74 : h[74]? = some (aI 60 (nA kn))) (h75 : h[75]? = some (aI 60 (nA go))) (h76 : h[76]? = some (aI 60 (nA od))) (hn : n ≤ 60) (hod : srt dy od n) (bth : ∀ j, j < 60 → th j < 12) (bkn : ∀ j, j < 60 → kn j ≤ 80000) (bgo : ∀ j, j < 60 → go j ≤ 80001) (bdy : ∀ j, j < 60 → dy j ≤ 80000) (bso : ∀ j, j < 60 → so j < 5) (bt : t < 12) (bd : d ≤ 80000) (bk : k ≤ 80000) : CE l G yX2_heldSince cX2_heldSince 9 (some .int) 2 0 0 [.ref (G.1 + 77), .ref (G.1 + 69), .int (nI t), .int (nI d), .int (nI k)] h (some (.int (nI (hsF (fun x => lcF th kn go t x n) (fun x => (rpF th ot dy so kn go od t d x n).2.1) ((rpF th ot dy so kn go od t d k n).2.1) 121 k)))) (fun h1 => ∃ l1 : Int32, ∃ o1 : Int32, ∃ w1 : Int32, ∃ z1 : Int32, ∃ LE1 : Nat → Int32, h1[77]? = some (oB 2 (lH G l1 o1 w1 z1)) ∧ h1[78]? = some (aI 60 LE1) ∧ rng 77 78 h h1) := by
  refine cm_ofQ rfl (Nat.le_of_ble_eq_true rfl) [(0, .ref (G.1 + 77)), (1, .ref (G.1 + 69)), (2, .int (nI t)), (3, .int (nI d)), (4, .int (nI k))] rfl (fun QF hQF => ?_)
  refine aw_aload_n 0 dX2_heldSince_0 rfl rfl ?_
  refine aw_aload_n 1 dX2_heldSince_1 rfl rfl ?_
  refine aw_iload_n 2 dX2_heldSince_2 rfl rfl ?_
  refine aw_iload_n 3 dX2_heldSince_3 rfl rfl ?_
  refine aw_iload 4 dX2_heldSince_4 rfl ?_
  refine aw_eW [.ref (G.1 + 69), .int (nI t), .int (nI d), .int (nI k)] [] lX2_54 vX2_replay mX2_replay dX2_heldSince_6 (aX2_replay (th := th) (ot := ot) (dy := dy) (so := so) (kn := kn) (go := go) (od := od) (n := n) (wd := wd) (l0 := l0) (o0 := o0) (w0 := w0) (z0 := z0) (LE0 := LE0) (t := t) (d := d) (k := k) h77 h78 h69 h70 h71 h72 h73 h74 h75 h76 (by omega) hod bth bkn bgo bdy bso (by omega) (by omega) (by omega)) h77 rfl rfl rfl (Nat.le_of_ble_eq_true rfl) (by decide) (by decide) rfl (fun h39 q38 => ?_)
  obtain ⟨LE137, f40, f41, k42⟩ := q38
  have f43 := rng_at k42 (by decide) h69
  have f44 := rng_at k42 (by decide) h70
  have f45 := rng_at k42 (by decide) h71
  have f46 := rng_at k42 (by decide) h72
  have f47 := rng_at k42 (by decide) h73
  have f48 := rng_at k42 (by decide) h74
  have f49 := rng_at k42 (by decide) h75
  have f50 := rng_at k42 (by decide) h76
  refine aw_aload_n 0 dX2_heldSince_9 rfl rfl ?_
  refine aw_get fX2_19 dX2_heldSince_10 f40 rfl ?_
  refine aw_istore [(5, .int ((rpF th ot dy so kn go od t d k n).2.1)), (0, .ref (G.1 + 77)), (1, .ref (G.1 + 69)), (2, .int (nI t)), (3, .int (nI d)), (4, .int (nI k))] dX2_heldSince_13 (by decide) rfl ?_
  refine aw_iload 5 dX2_heldSince_15 rfl ?_
  refine aw_istore [(6, .int (nI k)), (5, .int ((rpF th ot dy so kn go od t d k n).2.1)), (0, .ref (G.1 + 77)), (1, .ref (G.1 + 69)), (2, .int (nI t)), (3, .int (nI d)), (4, .int (nI k))] dX2_heldSince_17 (by decide) rfl ?_
  refine aw_iconst (0) dX2_heldSince_19 (by decide) ?_
  refine aw_istore [(7, .int 0), (6, .int (nI k)), (5, .int ((rpF th ot dy so kn go od t d k n).2.1)), (0, .ref (G.1 + 77)), (1, .ref (G.1 + 69)), (2, .int (nI t)), (3, .int (nI d)), (4, .int (nI k))] dX2_heldSince_20 (by decide) rfl ?_
  refine aw_lv [(7, .int 0), (6, .int (nI k)), (5, .int ((rpF th ot dy so kn go od t d k n).2.1)), (4, .int (nI k)), (3, .int (nI d)), (2, .int (nI t)), (1, .ref (G.1 + 69)), (0, .ref (G.1 + 77))] [0, 1, 2, 7, 6, 5, 4, 3] rfl ?_
  suffices L63 : ∀ (mm : Nat) (i : Nat) (la : Nat) (l1 : Int32) (o1 : Int32) (w1 : Int32) (z1 : Int32) (LE : Nat → Int32) (h51 : List va_E), 121 - i < mm → (i ≤ 121) → (la ≤ 80000) → (hsF (fun x => lcF th kn go t x n) (fun x => (rpF th ot dy so kn go od t d x n).2.1) (rpF th ot dy so kn go od t d k n).2.1 121 k = hsF (fun x => lcF th kn go t x n) (fun x => (rpF th ot dy so kn go od t d x n).2.1) (rpF th ot dy so kn go od t d k n).2.1 (121 - i) la) → h51[77]? = some (oB 2 (lH G l1 o1 w1 z1)) → h51[78]? = some (aI 60 LE) → h51[69]? = some (oB 5 (lR G 69 (nI n) wd)) → h51[70]? = some (aI 60 (nA th)) → h51[71]? = some (aI 60 (nA ot)) → h51[72]? = some (aI 60 (nA dy)) → h51[73]? = some (aI 60 (nA so)) → h51[74]? = some (aI 60 (nA kn)) → h51[75]? = some (aI 60 (nA go)) → h51[76]? = some (aI 60 (nA od)) → rng 77 78 h h51 → AW l G yX2_heldSince cX2_heldSince 9 (some .int) (xR 2 0 0) (fun _ _ => True) QF 0 0 22 [(7, .int (nI i)), (6, .int (nI la)), (5, .int ((rpF th ot dy so kn go od t d k n).2.1)), (4, .int (nI k)), (3, .int (nI d)), (2, .int (nI t)), (1, .ref (G.1 + 69)), (0, .ref (G.1 + 77))] [] h51 from L63 (121 - 0 + 1) 0 k (nI ((rpF th ot dy so kn go od t d k n).1.length)) ((rpF th ot dy so kn go od t d k n).2.1) ((rpF th ot dy so kn go od t d k n).2.2.1) ((rpF th ot dy so kn go od t d k n).2.2.2) LE137 _ (Nat.lt_succ_self _) (Nat.zero_le _) (bk) (rfl) f40 f41 f43 f44 f45 f46 f47 f48 f49 f50 (rng_tr (rng_rf 77 78 h) (rng_w k42 (by decide) (by decide)))
  intro mm
  induction mm with
  | zero =>
    intro i la l1 o1 w1 z1 LE h51 hmm hi hla hAn f52 f53 f54 f55 f56 f57 f58 f59 f60 f61 k62
    exact absurd hmm (Nat.not_lt_zero _)
  | succ mm ih63 =>
    intro i la l1 o1 w1 z1 LE h51 hmm hi hla hAn f52 f53 f54 f55 f56 f57 f58 f59 f60 f61 k62
    have b9 := lcF_le (th := th) (kn := kn) (go := go) (t := t) (k := la) n
    refine aw_iload 0 dX2_heldSince_22 rfl ?_
    refine aw_bipush (120) dX2_heldSince_24 (by decide) ?_
    refine aw_icmp_gt 80 dX2_heldSince_26 (by decide) (fun c26 => ?_) (fun c26 => ?_)
    · have d26 := (nv_lt (a := 120) (b := i) (rfl) (rfl) (by omega) (by omega)).mp c26
      refine aw_iconst (0) dX2_heldSince_80 (by decide) ?_
      subst hQF
      exact aw_iret rfl dX2_heldSince_81 (by decide) (by decide) ⟨by rw [hAn, show 121 - i = 0 by omega]; rfl, _, _, _, _, _, f52, f53, k62⟩
    · have d26 := mt (nv_lt (a := 120) (b := i) (rfl) (rfl) (by omega) (by omega)).mpr c26
      refine aw_aload_n 6 dX2_heldSince_29 rfl rfl ?_
      refine aw_iload_n 5 dX2_heldSince_30 rfl rfl ?_
      refine aw_iload 1 dX2_heldSince_31 rfl ?_
      refine aw_dV [.int (nI t), .int (nI la)] [] lX2_58 vX5_lastChange mX5_lastChange dX2_heldSince_33 (aX5_lastChange (th := th) (ot := ot) (dy := dy) (so := so) (kn := kn) (go := go) (od := od) (n := n) (wd := wd) (r := 69) (t := t) (k := la) f54 f55 f56 f57 f58 f59 f60 f61 (by omega) hod bth bkn bgo (by omega) (by omega)) f54 rfl rfl rfl (Nat.le_of_ble_eq_true rfl) (by decide) (by decide) rfl ?_
      refine aw_istore [(8, .int (nI (lcF th kn go t la n))), (7, .int (nI i)), (6, .int (nI la)), (5, .int ((rpF th ot dy so kn go od t d k n).2.1)), (4, .int (nI k)), (3, .int (nI d)), (2, .int (nI t)), (1, .ref (G.1 + 69)), (0, .ref (G.1 + 77))] dX2_heldSince_36 (by decide) rfl ?_
      refine aw_iload 0 dX2_heldSince_38 rfl ?_
      refine aw_if_ne 45 dX2_heldSince_40 (by decide) (fun c40 => ?_) (fun c40 => ?_)
      · have d40 := mt (nv_eq (a := lcF th kn go t la n) (b := 0) (rfl) (rfl) (by omega) (by omega)).mpr c40
        refine aw_aload_n 8 dX2_heldSince_45 rfl rfl ?_
        refine aw_aload_n 7 dX2_heldSince_46 rfl rfl ?_
        refine aw_iload_n 6 dX2_heldSince_47 rfl rfl ?_
        refine aw_iload_n 5 dX2_heldSince_48 rfl rfl ?_
        refine aw_iload 0 dX2_heldSince_49 rfl ?_
        refine aw_iconst (1) dX2_heldSince_51 (by decide) ?_
        refine aw_isub dX2_heldSince_52 ?_
        refine aw_toe (nI ((lcF th kn go t la n) - 1)) (nv_sub (rfl) (rfl) (by omega)) ?_
        refine aw_eW [.ref (G.1 + 69), .int (nI t), .int (nI d), .int (nI ((lcF th kn go t la n) - 1))] [] lX2_54 vX2_replay mX2_replay dX2_heldSince_53 (aX2_replay (th := th) (ot := ot) (dy := dy) (so := so) (kn := kn) (go := go) (od := od) (n := n) (wd := wd) (l0 := l1) (o0 := o1) (w0 := w1) (z0 := z1) (LE0 := LE) (t := t) (d := d) (k := (lcF th kn go t la n) - 1) f52 f53 f54 f55 f56 f57 f58 f59 f60 f61 (by omega) hod bth bkn bgo bdy bso (by omega) (by omega) (by omega)) f52 rfl rfl rfl (Nat.le_of_ble_eq_true rfl) (by decide) (by decide) rfl (fun h66 q65 => ?_)
        obtain ⟨LE164, f67, f68, k69⟩ := q65
        have f70 := rng_at k69 (by decide) f54
        have f71 := rng_at k69 (by decide) f55
        have f72 := rng_at k69 (by decide) f56
        have f73 := rng_at k69 (by decide) f57
        have f74 := rng_at k69 (by decide) f58
        have f75 := rng_at k69 (by decide) f59
        have f76 := rng_at k69 (by decide) f60
        have f77 := rng_at k69 (by decide) f61
        refine aw_aload_n 8 dX2_heldSince_56 rfl rfl ?_
        refine aw_get fX2_19 dX2_heldSince_57 f67 rfl ?_
        refine aw_iload 3 dX2_heldSince_60 rfl ?_
        refine aw_icmp_eq 68 dX2_heldSince_62 (by decide) (fun c62 => ?_) (fun c62 => ?_)
        · refine aw_iload 0 dX2_heldSince_68 rfl ?_
          refine aw_iconst (1) dX2_heldSince_70 (by decide) ?_
          refine aw_isub dX2_heldSince_71 ?_
          refine aw_toe (nI ((lcF th kn go t la n) - 1)) (nv_sub (rfl) (rfl) (by omega)) ?_
          refine aw_istore [(6, .int (nI ((lcF th kn go t la n) - 1))), (8, .int (nI (lcF th kn go t la n))), (7, .int (nI i)), (5, .int ((rpF th ot dy so kn go od t d k n).2.1)), (4, .int (nI k)), (3, .int (nI d)), (2, .int (nI t)), (1, .ref (G.1 + 69)), (0, .ref (G.1 + 77))] dX2_heldSince_72 (by decide) rfl ?_
          refine aw_iinc (j := 2) (nI (i + 1)) [(7, .int (nI (i + 1))), (6, .int (nI ((lcF th kn go t la n) - 1))), (8, .int (nI (lcF th kn go t la n))), (5, .int ((rpF th ot dy so kn go od t d k n).2.1)), (4, .int (nI k)), (3, .int (nI d)), (2, .int (nI t)), (1, .ref (G.1 + 69)), (0, .ref (G.1 + 77))] dX2_heldSince_74 rfl (nv_inc (rfl)) (by decide) rfl ?_
          refine aw_goto 22 dX2_heldSince_77 (by decide) ?_
          refine aw_lv [(7, .int (nI (i + 1))), (6, .int (nI ((lcF th kn go t la n) - 1))), (5, .int ((rpF th ot dy so kn go od t d k n).2.1)), (4, .int (nI k)), (3, .int (nI d)), (2, .int (nI t)), (1, .ref (G.1 + 69)), (0, .ref (G.1 + 77))] [0, 1, 3, 4, 5, 6, 7, 8] rfl ?_
          exact ih63 (i + 1) (lcF th kn go t la n - 1) (nI ((rpF th ot dy so kn go od t d ((lcF th kn go t la n) - 1) n).1.length)) ((rpF th ot dy so kn go od t d ((lcF th kn go t la n) - 1) n).2.1) ((rpF th ot dy so kn go od t d ((lcF th kn go t la n) - 1) n).2.2.1) ((rpF th ot dy so kn go od t d ((lcF th kn go t la n) - 1) n).2.2.2) LE164 _ (by omega) (by omega) (by omega) (hAn.trans (by rw [hsS (by omega), if_neg d40, if_pos c62])) f67 f68 f70 f71 f72 f73 f74 f75 f76 f77 (rng_tr (k62) (rng_w k69 (by decide) (by decide)))
        · refine aw_iload 0 dX2_heldSince_65 rfl ?_
          subst hQF
          exact aw_iret rfl dX2_heldSince_67 (by decide) (by decide) ⟨by rw [hAn, hsS (by omega), if_neg d40, if_neg c62], _, _, _, _, _, f67, f68, rng_tr (k62) (rng_w k69 (by decide) (by decide))⟩
      · have d40 := (nv_eq (a := lcF th kn go t la n) (b := 0) (rfl) (rfl) (by omega) (by omega)).mp c40
        refine aw_iconst (0) dX2_heldSince_43 (by decide) ?_
        subst hQF
        exact aw_iret rfl dX2_heldSince_44 (by decide) (by decide) ⟨by rw [hAn, hsS (by omega), if_pos d40]; rfl, _, _, _, _, _, f52, f53, k62⟩
set_option maxHeartbeats 4000000 in
theorem aX6_addSaying {l : Launch} {G : xG} {h : List va_E} {so x y tr : Nat → Nat} {n s0 x0 y0 v0 : Nat} (h79 : h[79]? = some (oB 6 (lS G (nI n)))) (h80 : h[80]? = some (aI 40 (nA so))) (h81 : h[81]? = some (aI 40 (nA x))) (h82 : h[82]? = some (aI 40 (nA y))) (h83 : h[83]? = some (aI 40 (nA tr))) (hn : n < 40) : CE l G yX6_addSaying cX6_addSaying 6 (some .int) 0 0 0 [.ref (G.1 + 79), .int (nI s0), .int (nI x0), .int (nI y0), .int (nI v0)] h (some (.int (nI n))) (fun h1 => h1[79]? = some (oB 6 (lS G (nI (n + 1)))) ∧ h1[80]? = some (aI 40 (nA (un so n s0))) ∧ h1[81]? = some (aI 40 (nA (un x n x0))) ∧ h1[82]? = some (aI 40 (nA (un y n y0))) ∧ h1[83]? = some (aI 40 (nA (un tr n v0))) ∧ rng 79 83 h h1) := by
  refine cm_ofQ rfl (Nat.le_of_ble_eq_true rfl) [(0, .ref (G.1 + 79)), (1, .int (nI s0)), (2, .int (nI x0)), (3, .int (nI y0)), (4, .int (nI v0))] rfl (fun QF hQF => ?_)
  refine aw_aload_n 0 dX6_addSaying_0 rfl rfl ?_
  refine aw_get fX6_24 dX6_addSaying_1 h79 rfl ?_
  refine aw_istore [(5, .int (nI n)), (0, .ref (G.1 + 79)), (1, .int (nI s0)), (2, .int (nI x0)), (3, .int (nI y0)), (4, .int (nI v0))] dX6_addSaying_4 (by decide) rfl ?_
  refine aw_aload_n 1 dX6_addSaying_6 rfl rfl ?_
  refine aw_get fX6_9 dX6_addSaying_7 h79 rfl ?_
  refine aw_iload 0 dX6_addSaying_10 rfl ?_
  refine aw_iload_n 2 dX6_addSaying_12 rfl rfl ?_
  refine aw_iast n (rfl) (by omega) (by decide) dX6_addSaying_13 h80 ?_
  rw [nA_u (f := so) (i := n) (x := (nI s0)) (v := s0) (rfl)]
  refine aw_aload_n 1 dX6_addSaying_14 rfl rfl ?_
  refine aw_get fX6_15 dX6_addSaying_15 (gn (by decide) (h79)) rfl ?_
  refine aw_iload 0 dX6_addSaying_18 rfl ?_
  refine aw_iload_n 3 dX6_addSaying_20 rfl rfl ?_
  refine aw_iast n (rfl) (by omega) (by decide) dX6_addSaying_21 (gn (by decide) (h81)) ?_
  rw [nA_u (f := x) (i := n) (x := (nI x0)) (v := x0) (rfl)]
  refine aw_aload_n 1 dX6_addSaying_22 rfl rfl ?_
  refine aw_get fX6_18 dX6_addSaying_23 (gn (by decide) (gn (by decide) (h79))) rfl ?_
  refine aw_iload 0 dX6_addSaying_26 rfl ?_
  refine aw_iload_n 4 dX6_addSaying_28 rfl rfl ?_
  refine aw_iast n (rfl) (by omega) (by decide) dX6_addSaying_29 (gn (by decide) (gn (by decide) (h82))) ?_
  rw [nA_u (f := y) (i := n) (x := (nI y0)) (v := y0) (rfl)]
  refine aw_aload_n 1 dX6_addSaying_30 rfl rfl ?_
  refine aw_get fX6_21 dX6_addSaying_31 (gn (by decide) (gn (by decide) (gn (by decide) (h79)))) rfl ?_
  refine aw_iload 0 dX6_addSaying_34 rfl ?_
  refine aw_iload 5 dX6_addSaying_36 rfl ?_
  refine aw_iast n (rfl) (by omega) (by decide) dX6_addSaying_38 (gn (by decide) (gn (by decide) (gn (by decide) (h83)))) ?_
  rw [nA_u (f := tr) (i := n) (x := (nI v0)) (v := v0) (rfl)]
  refine aw_aload_n 1 dX6_addSaying_39 rfl rfl ?_
  refine aw_iload 0 dX6_addSaying_40 rfl ?_
  refine aw_iconst (1) dX6_addSaying_42 (by decide) ?_
  refine aw_iadd dX6_addSaying_43 ?_
  refine aw_toe (nI (n + 1)) (nv_add (rfl) (rfl)) ?_
  refine aw_putQ fX6_24 dX6_addSaying_44 (lS G (nI (n + 1))) (gn (by decide) (gn (by decide) (gn (by decide) (gn (by decide) (h79))))) rfl rfl rfl (Nat.le_of_ble_eq_true rfl) rfl ?_
  refine aw_iload 0 dX6_addSaying_47 rfl ?_
  subst hQF
  exact aw_iret rfl dX6_addSaying_49 (by decide) (by decide) ⟨rfl, (gs (gn (by decide) (gn (by decide) (gn (by decide) (gn (by decide) (h79)))))), (gn (by decide) (gn (by decide) (gn (by decide) (gn (by decide) (gs h80))))), (gn (by decide) (gn (by decide) (gn (by decide) (gs (gn (by decide) (h81)))))), (gn (by decide) (gn (by decide) (gs (gn (by decide) (gn (by decide) (h82)))))), (gn (by decide) (gs (gn (by decide) (gn (by decide) (gn (by decide) (h83)))))), rng_set (rng_set (rng_set (rng_set (rng_set (rng_rf 79 83 h) (by decide) (by decide)) (by decide) (by decide)) (by decide) (by decide)) (by decide) (by decide)) (by decide) (by decide)⟩
set_option maxHeartbeats 4000000 in
theorem aX0_tellKind {l : Launch} {G : xG} {h : List va_E} {kd fo : Nat → Nat} {cn : Int32} {p v : Nat} (h84 : h[84]? = some (oB 0 (lB G cn))) (h85 : h[85]? = some (aI 10 (nA kd))) (h86 : h[86]? = some (aI 6 (nA fo))) (bp : p < 10) : CE l G yX0_tellKind cX0_tellKind 4 (some .int) 0 0 0 [.ref (G.1 + 84), .int (nI p), .int (nI v)] h (some (.int (nI (kd p)))) (fun h1 => h1[84]? = some (oB 0 (lB G cn)) ∧ h1[85]? = some (aI 10 (nA (un kd p v))) ∧ h1[86]? = some (aI 6 (nA fo)) ∧ rng 84 86 h h1) := by
  refine cm_ofQ rfl (Nat.le_of_ble_eq_true rfl) [(0, .ref (G.1 + 84)), (1, .int (nI p)), (2, .int (nI v))] rfl (fun QF hQF => ?_)
  refine aw_aload_n 0 dX0_tellKind_0 rfl rfl ?_
  refine aw_get fX0_9 dX0_tellKind_1 h84 rfl ?_
  refine aw_iload_n 1 dX0_tellKind_4 rfl rfl ?_
  refine aw_iald p (rfl) (by omega) (by decide) dX0_tellKind_5 h85 ?_
  refine aw_toe (nI (kd p)) (rfl) ?_
  refine aw_istore_n [(3, .int (nI (kd p))), (0, .ref (G.1 + 84)), (1, .int (nI p)), (2, .int (nI v))] dX0_tellKind_6 rfl (by decide) rfl ?_
  refine aw_aload_n 1 dX0_tellKind_7 rfl rfl ?_
  refine aw_get fX0_9 dX0_tellKind_8 h84 rfl ?_
  refine aw_iload_n 2 dX0_tellKind_11 rfl rfl ?_
  refine aw_iload_n 3 dX0_tellKind_12 rfl rfl ?_
  refine aw_iast p (rfl) (by omega) (by decide) dX0_tellKind_13 h85 ?_
  rw [nA_u (f := kd) (i := p) (x := (nI v)) (v := v) (rfl)]
  refine aw_iload_n 0 dX0_tellKind_14 rfl rfl ?_
  subst hQF
  exact aw_iret rfl dX0_tellKind_15 (by decide) (by decide) ⟨rfl, (gn (by decide) (h84)), (gs h85), (gn (by decide) (h86)), rng_set (rng_rf 84 86 h) (by decide) (by decide)⟩
set_option maxHeartbeats 4000000 in
theorem aX0_tellClash_s0 {l : Launch} {G : xG} {h : List va_E} {kd fo : Nat → Nat} {cn : Int32} {a b : Nat} (h84 : h[84]? = some (oB 0 (lB G cn))) (h85 : h[85]? = some (aI 10 (nA kd))) (h86 : h[86]? = some (aI 6 (nA fo))) (bkd : ∀ j, j < 10 → kd j < 6) (bfo : ∀ j, j < 6 → fo j < 64) (ba : a < 6) (bb : b < 6) (hw : (fo a).testBit b = false) : CD l G yX0_tellClash cX0_tellClash 5 (some .boolean) 0 0 0 [.ref (G.1 + 84), .int (nI a), .int (nI b), .int 0] h (some (.int 0)) h := by
  refine cm_ofQ rfl (Nat.le_of_ble_eq_true rfl) [(0, .ref (G.1 + 84)), (1, .int (nI a)), (2, .int (nI b)), (3, .int 0)] rfl (fun QF hQF => ?_)
  refine aw_aload_n 0 dX0_tellClash_0 rfl rfl ?_
  refine aw_get fX0_15 dX0_tellClash_1 h84 rfl ?_
  refine aw_iload_n 1 dX0_tellClash_4 rfl rfl ?_
  refine aw_iald a (rfl) (by omega) (by decide) dX0_tellClash_5 h86 ?_
  refine aw_toe (nI (fo a)) (rfl) ?_
  have b1 := bfo a (by omega)
  refine aw_iload_n 2 dX0_tellClash_6 rfl rfl ?_
  refine aw_ishr dX0_tellClash_7 ?_
  refine aw_iconst (1) dX0_tellClash_8 (by decide) ?_
  refine aw_iand dX0_tellClash_9 ?_
  refine aw_toe (if (fo a).testBit b = true then 1 else 0) (nv_bit (rfl) (rfl) (by omega) (by omega)) ?_
  refine aw_if_eq 17 dX0_tellClash_10 (by decide) (fun c10 => ?_) (fun c10 => absurd (by rw [hw]; decide) c10)
  refine aw_iconst (0) dX0_tellClash_17 (by decide) ?_
  refine aw_istore [(4, .int 0), (0, .ref (G.1 + 84)), (1, .int (nI a)), (2, .int (nI b)), (3, .int 0)] dX0_tellClash_18 (by decide) rfl ?_
  refine aw_iload 0 dX0_tellClash_20 rfl ?_
  refine aw_iload_n 4 dX0_tellClash_22 rfl rfl ?_
  refine aw_icmp_ne 28 dX0_tellClash_23 (by decide) (fun c23 => absurd (by decide) c23) (fun c23 => ?_)
  refine aw_iconst (0) dX0_tellClash_26 (by decide) ?_
  subst hQF
  exact aw_zret rfl rfl dX0_tellClash_27 (by decide) (by decide) ⟨rfl, rfl⟩
set_option maxHeartbeats 4000000 in
theorem aX0_tellClash_c0 {l : Launch} {G : xG} {h : List va_E} {kd fo : Nat → Nat} {cn : Int32} {a b : Nat} (h84 : h[84]? = some (oB 0 (lB G cn))) (h85 : h[85]? = some (aI 10 (nA kd))) (h86 : h[86]? = some (aI 6 (nA fo))) (bkd : ∀ j, j < 10 → kd j < 6) (bfo : ∀ j, j < 6 → fo j < 64) (ba : a < 6) (bb : b < 6) (hw : (fo a).testBit b = true) : CE l G yX0_tellClash cX0_tellClash 5 (some .boolean) 0 0 0 [.ref (G.1 + 84), .int (nI a), .int (nI b), .int 0] h (some (.int 1)) (fun h1 => h1[84]? = some (oB 0 (lB G (cn + (-1)))) ∧ h1[85]? = some (aI 10 (nA kd)) ∧ h1[86]? = some (aI 6 (nA (un (un fo a (fo a ^^^ 2 ^ b)) b (un fo a (fo a ^^^ 2 ^ b) b ^^^ 2 ^ a)))) ∧ rng 84 86 h h1) := by
  refine cm_ofQ rfl (Nat.le_of_ble_eq_true rfl) [(0, .ref (G.1 + 84)), (1, .int (nI a)), (2, .int (nI b)), (3, .int 0)] rfl (fun QF hQF => ?_)
  refine aw_aload_n 0 dX0_tellClash_0 rfl rfl ?_
  refine aw_get fX0_15 dX0_tellClash_1 h84 rfl ?_
  refine aw_iload_n 1 dX0_tellClash_4 rfl rfl ?_
  refine aw_iald a (rfl) (by omega) (by decide) dX0_tellClash_5 h86 ?_
  refine aw_toe (nI (fo a)) (rfl) ?_
  have b2 := bfo a (by omega)
  refine aw_iload_n 2 dX0_tellClash_6 rfl rfl ?_
  refine aw_ishr dX0_tellClash_7 ?_
  refine aw_iconst (1) dX0_tellClash_8 (by decide) ?_
  refine aw_iand dX0_tellClash_9 ?_
  refine aw_toe (if (fo a).testBit b = true then 1 else 0) (nv_bit (rfl) (rfl) (by omega) (by omega)) ?_
  refine aw_if_eq 17 dX0_tellClash_10 (by decide) (fun c10 => absurd c10 (by rw [hw]; decide)) (fun c10 => ?_)
  refine aw_iconst (1) dX0_tellClash_13 (by decide) ?_
  refine aw_goto 18 dX0_tellClash_14 (by decide) ?_
  refine aw_istore [(4, .int 1), (0, .ref (G.1 + 84)), (1, .int (nI a)), (2, .int (nI b)), (3, .int 0)] dX0_tellClash_18 (by decide) rfl ?_
  refine aw_iload 0 dX0_tellClash_20 rfl ?_
  refine aw_iload_n 4 dX0_tellClash_22 rfl rfl ?_
  refine aw_icmp_ne 28 dX0_tellClash_23 (by decide) (fun c23 => ?_) (fun c23 => absurd c23 (by decide))
  refine aw_aload_n 1 dX0_tellClash_28 rfl rfl ?_
  refine aw_get fX0_15 dX0_tellClash_29 h84 rfl ?_
  refine aw_iload_n 2 dX0_tellClash_32 rfl rfl ?_
  refine aw_dup2 dX0_tellClash_33 rfl rfl ?_
  refine aw_iald a (rfl) (by omega) (by decide) dX0_tellClash_34 h86 ?_
  refine aw_toe (nI (fo a)) (rfl) ?_
  have b3 := bfo a (by omega)
  refine aw_iconst (1) dX0_tellClash_35 (by decide) ?_
  refine aw_iload_n 3 dX0_tellClash_36 rfl rfl ?_
  refine aw_ishl dX0_tellClash_37 ?_
  refine aw_toe (nI (2 ^ b)) (nv_shl1 (rfl) (by omega)) ?_
  refine aw_ixor dX0_tellClash_38 ?_
  refine aw_toe (nI ((fo a) ^^^ (2 ^ b))) (nv_xor (rfl) (rfl)) ?_
  refine aw_iast a (rfl) (by omega) (by decide) dX0_tellClash_39 h86 ?_
  rw [nA_u (f := fo) (i := a) (x := (nI ((fo a) ^^^ (2 ^ b)))) (v := (fo a) ^^^ (2 ^ b)) (rfl)]
  refine aw_aload_n 1 dX0_tellClash_40 rfl rfl ?_
  refine aw_get fX0_15 dX0_tellClash_41 (gn (by decide) (h84)) rfl ?_
  refine aw_iload_n 3 dX0_tellClash_44 rfl rfl ?_
  refine aw_dup2 dX0_tellClash_45 rfl rfl ?_
  refine aw_iald b (rfl) (by omega) (by decide) dX0_tellClash_46 (gs h86) ?_
  refine aw_toe (nI ((un fo a ((fo a) ^^^ (2 ^ b))) b)) (rfl) ?_
  refine aw_iconst (1) dX0_tellClash_47 (by decide) ?_
  refine aw_iload_n 2 dX0_tellClash_48 rfl rfl ?_
  refine aw_ishl dX0_tellClash_49 ?_
  refine aw_toe (nI (2 ^ a)) (nv_shl1 (rfl) (by omega)) ?_
  refine aw_ixor dX0_tellClash_50 ?_
  refine aw_toe (nI (((un fo a ((fo a) ^^^ (2 ^ b))) b) ^^^ (2 ^ a))) (nv_xor (rfl) (rfl)) ?_
  refine aw_iast b (rfl) (by omega) (by decide) dX0_tellClash_51 (gs h86) ?_
  rw [nA_u (f := (un fo a ((fo a) ^^^ (2 ^ b)))) (i := b) (x := (nI (((un fo a ((fo a) ^^^ (2 ^ b))) b) ^^^ (2 ^ a)))) (v := ((un fo a ((fo a) ^^^ (2 ^ b))) b) ^^^ (2 ^ a)) (rfl)]
  refine aw_aload_n 1 dX0_tellClash_52 rfl rfl ?_
  refine aw_dup dX0_tellClash_53 rfl ?_
  refine aw_get fX0_18 dX0_tellClash_54 (gn (by decide) (gn (by decide) (h84))) rfl ?_
  refine aw_iload_n 4 dX0_tellClash_57 rfl rfl ?_
  refine aw_if_eq 65 dX0_tellClash_58 (by decide) (fun c58 => ?_) (fun c58 => absurd (by decide) c58)
  refine aw_iconst (-1) dX0_tellClash_65 (by decide) ?_
  refine aw_iadd dX0_tellClash_66 ?_
  refine aw_putQ fX0_18 dX0_tellClash_67 (lB G (cn + (-1))) (gn (by decide) (gn (by decide) (h84))) rfl rfl rfl (Nat.le_of_ble_eq_true rfl) rfl ?_
  refine aw_iconst (1) dX0_tellClash_70 (by decide) ?_
  subst hQF
  exact aw_zret rfl rfl dX0_tellClash_71 (by decide) (by decide) ⟨rfl, (gs (gn (by decide) (gn (by decide) (h84)))), (gn (by decide) (gn (by decide) (gn (by decide) (h85)))), (gn (by decide) (gs (gs h86))), rng_set (rng_set (rng_set (rng_rf 84 86 h) (by decide) (by decide)) (by decide) (by decide)) (by decide) (by decide)⟩
set_option maxHeartbeats 4000000 in
theorem aX0_tellClash_s1 {l : Launch} {G : xG} {h : List va_E} {kd fo : Nat → Nat} {cn : Int32} {a b : Nat} (h84 : h[84]? = some (oB 0 (lB G cn))) (h85 : h[85]? = some (aI 10 (nA kd))) (h86 : h[86]? = some (aI 6 (nA fo))) (bkd : ∀ j, j < 10 → kd j < 6) (bfo : ∀ j, j < 6 → fo j < 64) (ba : a < 6) (bb : b < 6) (hw : (fo a).testBit b = true) : CD l G yX0_tellClash cX0_tellClash 5 (some .boolean) 0 0 0 [.ref (G.1 + 84), .int (nI a), .int (nI b), .int 1] h (some (.int 0)) h := by
  refine cm_ofQ rfl (Nat.le_of_ble_eq_true rfl) [(0, .ref (G.1 + 84)), (1, .int (nI a)), (2, .int (nI b)), (3, .int 1)] rfl (fun QF hQF => ?_)
  refine aw_aload_n 0 dX0_tellClash_0 rfl rfl ?_
  refine aw_get fX0_15 dX0_tellClash_1 h84 rfl ?_
  refine aw_iload_n 1 dX0_tellClash_4 rfl rfl ?_
  refine aw_iald a (rfl) (by omega) (by decide) dX0_tellClash_5 h86 ?_
  refine aw_toe (nI (fo a)) (rfl) ?_
  have b4 := bfo a (by omega)
  refine aw_iload_n 2 dX0_tellClash_6 rfl rfl ?_
  refine aw_ishr dX0_tellClash_7 ?_
  refine aw_iconst (1) dX0_tellClash_8 (by decide) ?_
  refine aw_iand dX0_tellClash_9 ?_
  refine aw_toe (if (fo a).testBit b = true then 1 else 0) (nv_bit (rfl) (rfl) (by omega) (by omega)) ?_
  refine aw_if_eq 17 dX0_tellClash_10 (by decide) (fun c10 => absurd c10 (by rw [hw]; decide)) (fun c10 => ?_)
  refine aw_iconst (1) dX0_tellClash_13 (by decide) ?_
  refine aw_goto 18 dX0_tellClash_14 (by decide) ?_
  refine aw_istore [(4, .int 1), (0, .ref (G.1 + 84)), (1, .int (nI a)), (2, .int (nI b)), (3, .int 1)] dX0_tellClash_18 (by decide) rfl ?_
  refine aw_iload 0 dX0_tellClash_20 rfl ?_
  refine aw_iload_n 4 dX0_tellClash_22 rfl rfl ?_
  refine aw_icmp_ne 28 dX0_tellClash_23 (by decide) (fun c23 => absurd (by decide) c23) (fun c23 => ?_)
  refine aw_iconst (0) dX0_tellClash_26 (by decide) ?_
  subst hQF
  exact aw_zret rfl rfl dX0_tellClash_27 (by decide) (by decide) ⟨rfl, rfl⟩
set_option maxHeartbeats 4000000 in
theorem aX0_tellClash_c1 {l : Launch} {G : xG} {h : List va_E} {kd fo : Nat → Nat} {cn : Int32} {a b : Nat} (h84 : h[84]? = some (oB 0 (lB G cn))) (h85 : h[85]? = some (aI 10 (nA kd))) (h86 : h[86]? = some (aI 6 (nA fo))) (bkd : ∀ j, j < 10 → kd j < 6) (bfo : ∀ j, j < 6 → fo j < 64) (ba : a < 6) (bb : b < 6) (hw : (fo a).testBit b = false) : CE l G yX0_tellClash cX0_tellClash 5 (some .boolean) 0 0 0 [.ref (G.1 + 84), .int (nI a), .int (nI b), .int 1] h (some (.int 1)) (fun h1 => h1[84]? = some (oB 0 (lB G (cn + 1))) ∧ h1[85]? = some (aI 10 (nA kd)) ∧ h1[86]? = some (aI 6 (nA (un (un fo a (fo a ^^^ 2 ^ b)) b (un fo a (fo a ^^^ 2 ^ b) b ^^^ 2 ^ a)))) ∧ rng 84 86 h h1) := by
  refine cm_ofQ rfl (Nat.le_of_ble_eq_true rfl) [(0, .ref (G.1 + 84)), (1, .int (nI a)), (2, .int (nI b)), (3, .int 1)] rfl (fun QF hQF => ?_)
  refine aw_aload_n 0 dX0_tellClash_0 rfl rfl ?_
  refine aw_get fX0_15 dX0_tellClash_1 h84 rfl ?_
  refine aw_iload_n 1 dX0_tellClash_4 rfl rfl ?_
  refine aw_iald a (rfl) (by omega) (by decide) dX0_tellClash_5 h86 ?_
  refine aw_toe (nI (fo a)) (rfl) ?_
  have b5 := bfo a (by omega)
  refine aw_iload_n 2 dX0_tellClash_6 rfl rfl ?_
  refine aw_ishr dX0_tellClash_7 ?_
  refine aw_iconst (1) dX0_tellClash_8 (by decide) ?_
  refine aw_iand dX0_tellClash_9 ?_
  refine aw_toe (if (fo a).testBit b = true then 1 else 0) (nv_bit (rfl) (rfl) (by omega) (by omega)) ?_
  refine aw_if_eq 17 dX0_tellClash_10 (by decide) (fun c10 => ?_) (fun c10 => absurd (by rw [hw]; decide) c10)
  refine aw_iconst (0) dX0_tellClash_17 (by decide) ?_
  refine aw_istore [(4, .int 0), (0, .ref (G.1 + 84)), (1, .int (nI a)), (2, .int (nI b)), (3, .int 1)] dX0_tellClash_18 (by decide) rfl ?_
  refine aw_iload 0 dX0_tellClash_20 rfl ?_
  refine aw_iload_n 4 dX0_tellClash_22 rfl rfl ?_
  refine aw_icmp_ne 28 dX0_tellClash_23 (by decide) (fun c23 => ?_) (fun c23 => absurd c23 (by decide))
  refine aw_aload_n 1 dX0_tellClash_28 rfl rfl ?_
  refine aw_get fX0_15 dX0_tellClash_29 h84 rfl ?_
  refine aw_iload_n 2 dX0_tellClash_32 rfl rfl ?_
  refine aw_dup2 dX0_tellClash_33 rfl rfl ?_
  refine aw_iald a (rfl) (by omega) (by decide) dX0_tellClash_34 h86 ?_
  refine aw_toe (nI (fo a)) (rfl) ?_
  have b6 := bfo a (by omega)
  refine aw_iconst (1) dX0_tellClash_35 (by decide) ?_
  refine aw_iload_n 3 dX0_tellClash_36 rfl rfl ?_
  refine aw_ishl dX0_tellClash_37 ?_
  refine aw_toe (nI (2 ^ b)) (nv_shl1 (rfl) (by omega)) ?_
  refine aw_ixor dX0_tellClash_38 ?_
  refine aw_toe (nI ((fo a) ^^^ (2 ^ b))) (nv_xor (rfl) (rfl)) ?_
  refine aw_iast a (rfl) (by omega) (by decide) dX0_tellClash_39 h86 ?_
  rw [nA_u (f := fo) (i := a) (x := (nI ((fo a) ^^^ (2 ^ b)))) (v := (fo a) ^^^ (2 ^ b)) (rfl)]
  refine aw_aload_n 1 dX0_tellClash_40 rfl rfl ?_
  refine aw_get fX0_15 dX0_tellClash_41 (gn (by decide) (h84)) rfl ?_
  refine aw_iload_n 3 dX0_tellClash_44 rfl rfl ?_
  refine aw_dup2 dX0_tellClash_45 rfl rfl ?_
  refine aw_iald b (rfl) (by omega) (by decide) dX0_tellClash_46 (gs h86) ?_
  refine aw_toe (nI ((un fo a ((fo a) ^^^ (2 ^ b))) b)) (rfl) ?_
  refine aw_iconst (1) dX0_tellClash_47 (by decide) ?_
  refine aw_iload_n 2 dX0_tellClash_48 rfl rfl ?_
  refine aw_ishl dX0_tellClash_49 ?_
  refine aw_toe (nI (2 ^ a)) (nv_shl1 (rfl) (by omega)) ?_
  refine aw_ixor dX0_tellClash_50 ?_
  refine aw_toe (nI (((un fo a ((fo a) ^^^ (2 ^ b))) b) ^^^ (2 ^ a))) (nv_xor (rfl) (rfl)) ?_
  refine aw_iast b (rfl) (by omega) (by decide) dX0_tellClash_51 (gs h86) ?_
  rw [nA_u (f := (un fo a ((fo a) ^^^ (2 ^ b)))) (i := b) (x := (nI (((un fo a ((fo a) ^^^ (2 ^ b))) b) ^^^ (2 ^ a)))) (v := ((un fo a ((fo a) ^^^ (2 ^ b))) b) ^^^ (2 ^ a)) (rfl)]
  refine aw_aload_n 1 dX0_tellClash_52 rfl rfl ?_
  refine aw_dup dX0_tellClash_53 rfl ?_
  refine aw_get fX0_18 dX0_tellClash_54 (gn (by decide) (gn (by decide) (h84))) rfl ?_
  refine aw_iload_n 4 dX0_tellClash_57 rfl rfl ?_
  refine aw_if_eq 65 dX0_tellClash_58 (by decide) (fun c58 => absurd c58 (by decide)) (fun c58 => ?_)
  refine aw_iconst (1) dX0_tellClash_61 (by decide) ?_
  refine aw_goto 66 dX0_tellClash_62 (by decide) ?_
  refine aw_iadd dX0_tellClash_66 ?_
  refine aw_putQ fX0_18 dX0_tellClash_67 (lB G (cn + 1)) (gn (by decide) (gn (by decide) (h84))) rfl rfl rfl (Nat.le_of_ble_eq_true rfl) rfl ?_
  refine aw_iconst (1) dX0_tellClash_70 (by decide) ?_
  subst hQF
  exact aw_zret rfl rfl dX0_tellClash_71 (by decide) (by decide) ⟨rfl, (gs (gn (by decide) (gn (by decide) (h84)))), (gn (by decide) (gn (by decide) (gn (by decide) (h85)))), (gn (by decide) (gs (gs h86))), rng_set (rng_set (rng_set (rng_rf 84 86 h) (by decide) (by decide)) (by decide) (by decide)) (by decide) (by decide)⟩
def fkF (kd fo : Nat → Nat) (b : Nat) : Nat → Nat × Nat
  | 0 => (0, 0)
  | a + 1 => if b.testBit a = true then ((fkF kd fo b a).1 ||| 2 ^ kd a, (fkF kd fo b a).2 ||| fo (kd a)) else fkF kd fo b a
theorem pow6 : ∀ a, a < 6 → 2 ^ a < 64 := by decide
theorem fkF_lt {kd fo : Nat → Nat} {b : Nat} (bkd : ∀ j, j < 10 → kd j < 6) (bfo : ∀ j, j < 6 → fo j < 64) : ∀ a, a ≤ 10 → (fkF kd fo b a).1 < 64 ∧ (fkF kd fo b a).2 < 64 := by
  intro a
  induction a with
  | zero => intro _; exact ⟨by simp [fkF], by simp [fkF]⟩
  | succ a ih =>
    intro ha
    have q := ih (by omega)
    simp only [fkF]
    split
    · exact ⟨Nat.or_lt_two_pow (n := 6) q.1 (pow6 _ (bkd a (by omega))), Nat.or_lt_two_pow (n := 6) q.2 (bfo _ (bkd a (by omega)))⟩
    · exact q
/-- is the beast b a fake, as the class reckons -/
def isfk (kd fo : Nat → Nat) (b : Nat) : Prop := (fkF kd fo b 10).1 &&& (fkF kd fo b 10).2 ≠ 0
noncomputable def lwF (kd fo : Nat → Nat) (b : Nat) : Nat → Nat
  | 0 => b
  | s + 1 => if s &&& b = s ∧ popN s < popN (lwF kd fo b s) ∧ (fkF kd fo (b &&& (1023 ^^^ s)) 10).1 &&& (fkF kd fo (b &&& (1023 ^^^ s)) 10).2 = 0 then s else lwF kd fo b s
theorem lwF_lt {kd fo : Nat → Nat} {b : Nat} (hb : b < 1024) : ∀ s, s ≤ 1024 → lwF kd fo b s < 1024 := by
  intro s
  induction s with
  | zero => intro _; exact hb
  | succ s ih =>
    intro h
    simp only [lwF]
    split
    · omega
    · exact ih (by omega)
theorem nv_andn {b s : Nat} (hb : b < 1024) : nI b &&& (nI s ^^^ (-1)) = nI (b &&& (1023 ^^^ s)) := by
  apply Int32.toBitVec_inj.mp
  show BitVec.ofNat 32 b &&& (BitVec.ofNat 32 s ^^^ (-1 : Int32).toBitVec) = BitVec.ofNat 32 (b &&& (1023 ^^^ s))
  apply BitVec.eq_of_getLsbD_eq
  intro i hi
  rw [show (-1 : Int32).toBitVec = BitVec.allOnes 32 from by decide]
  simp only [BitVec.getLsbD_and, BitVec.getLsbD_xor, BitVec.getLsbD_ofNat, BitVec.getLsbD_allOnes, Nat.testBit_and, Nat.testBit_xor, hi, decide_true, Bool.true_and]
  by_cases q : i < 10
  · rw [show (1023 : Nat).testBit i = true from by rw [show (1023 : Nat) = 2 ^ 10 - 1 from rfl, Nat.testBit_two_pow_sub_one]; simpa using q]
    cases b.testBit i <;> cases s.testBit i <;> rfl
  · have e : b.testBit i = false := Nat.testBit_lt_two_pow (Nat.lt_of_lt_of_le hb (by rw [show 1024 = 2 ^ 10 from rfl]; exact Nat.pow_le_pow_right (by decide) (by omega)))
    rw [e]; rfl
set_option maxHeartbeats 4000000 in
theorem aX0_isFake {l : Launch} {G : xG} {h : List va_E} {kd fo : Nat → Nat} {cn : Int32} {b : Nat} (h84 : h[84]? = some (oB 0 (lB G cn))) (h85 : h[85]? = some (aI 10 (nA kd))) (h86 : h[86]? = some (aI 6 (nA fo))) (bkd : ∀ j, j < 10 → kd j < 6) (bfo : ∀ j, j < 6 → fo j < 64) (bb : b < 1024) : CD l G yX0_isFake cX0_isFake 5 (some .boolean) 0 0 0 [.ref (G.1 + 84), .int (nI b)] h (some (.int (if (fkF kd fo b 10).1 &&& (fkF kd fo b 10).2 ≠ 0 then 1 else 0))) h := by
  refine cm_ofQ rfl (Nat.le_of_ble_eq_true rfl) [(0, .ref (G.1 + 84)), (1, .int (nI b))] rfl (fun QF hQF => ?_)
  refine aw_iconst (0) dX0_isFake_0 (by decide) ?_
  refine aw_istore_n [(2, .int 0), (0, .ref (G.1 + 84)), (1, .int (nI b))] dX0_isFake_1 rfl (by decide) rfl ?_
  refine aw_iconst (0) dX0_isFake_2 (by decide) ?_
  refine aw_istore_n [(3, .int 0), (2, .int 0), (0, .ref (G.1 + 84)), (1, .int (nI b))] dX0_isFake_3 rfl (by decide) rfl ?_
  refine aw_iconst (0) dX0_isFake_4 (by decide) ?_
  refine aw_istore [(4, .int 0), (3, .int 0), (2, .int 0), (0, .ref (G.1 + 84)), (1, .int (nI b))] dX0_isFake_5 (by decide) rfl ?_
  refine aw_lv [(4, .int 0), (3, .int 0), (2, .int 0), (1, .int (nI b)), (0, .ref (G.1 + 84))] [0, 1, 2, 4, 3] rfl ?_
  suffices L7 : ∀ (mm : Nat) (i : Nat) (hv : Nat) (kv : Nat), 10 - i < mm → (i ≤ 10) → ((kv, hv) = (fkF kd fo b i)) → AW l G yX0_isFake cX0_isFake 5 (some .boolean) (xR 0 0 0) (fun _ _ => True) QF 0 0 7 [(4, .int (nI i)), (3, .int (nI hv)), (2, .int (nI kv)), (1, .int (nI b)), (0, .ref (G.1 + 84))] [] h from L7 (10 - 0 + 1) 0 0 0 (Nat.lt_succ_self _) (Nat.zero_le _) (rfl)
  intro mm
  induction mm with
  | zero =>
    intro i hv kv hmm hi hk
    exact absurd hmm (Nat.not_lt_zero _)
  | succ mm ih7 =>
    intro i hv kv hmm hi hk
    have b9 := fkF_lt (b := b) bkd bfo i hi
    rw [← hk] at b9
    have b8 := b9.1
    have b7 := b9.2
    dsimp only at b7 b8
    refine aw_iload 0 dX0_isFake_7 rfl ?_
    refine aw_bipush (10) dX0_isFake_9 (by decide) ?_
    refine aw_icmp_ge 56 dX0_isFake_11 (by decide) (fun c11 => ?_) (fun c11 => ?_)
    · have d11 := (nv_le (a := 10) (b := i) (rfl) (rfl) (by omega) (by omega)).mp c11
      refine aw_iload_n 2 dX0_isFake_56 rfl rfl ?_
      refine aw_iload_n 1 dX0_isFake_57 rfl rfl ?_
      refine aw_iand dX0_isFake_58 ?_
      refine aw_toe (nI (kv &&& hv)) (nv_and (rfl) (rfl)) ?_
      have e10 : i = 10 := by omega
      subst e10
      have b6 : kv &&& hv < 64 := Nat.lt_of_le_of_lt Nat.and_le_left b8
      refine aw_if_eq 66 dX0_isFake_59 (by decide) (fun c59 => ?_) (fun c59 => ?_)
      · have d59 := (nv_eq (a := kv &&& hv) (b := 0) (rfl) (rfl) (by omega) (by omega)).mp c59
        refine aw_iconst (0) dX0_isFake_66 (by decide) ?_
        subst hQF
        exact aw_zret rfl rfl dX0_isFake_67 (by decide) (by decide) ⟨by rw [← hk]; dsimp only; rw [if_neg (by omega)], rfl⟩
      · have d59 := mt (nv_eq (a := kv &&& hv) (b := 0) (rfl) (rfl) (by omega) (by omega)).mpr c59
        refine aw_iconst (1) dX0_isFake_62 (by decide) ?_
        refine aw_goto 67 dX0_isFake_63 (by decide) ?_
        subst hQF
        exact aw_zret rfl rfl dX0_isFake_67 (by decide) (by decide) ⟨by rw [← hk]; dsimp only; rw [if_pos (by omega)], rfl⟩
    · have d11 := mt (nv_le (a := 10) (b := i) (rfl) (rfl) (by omega) (by omega)).mpr c11
      refine aw_iload_n 3 dX0_isFake_14 rfl rfl ?_
      refine aw_iload 0 dX0_isFake_15 rfl ?_
      refine aw_ishr dX0_isFake_17 ?_
      refine aw_iconst (1) dX0_isFake_18 (by decide) ?_
      refine aw_iand dX0_isFake_19 ?_
      refine aw_toe (if b.testBit i = true then 1 else 0) (nv_bit (rfl) (rfl) (by omega) (by omega)) ?_
      refine aw_if_eq 50 dX0_isFake_20 (by decide) (fun c20 => ?_) (fun c20 => ?_)
      · have t20 := ite_0 c20
        refine aw_iinc (j := 0) (nI (i + 1)) [(4, .int (nI (i + 1))), (3, .int (nI hv)), (2, .int (nI kv)), (1, .int (nI b)), (0, .ref (G.1 + 84))] dX0_isFake_50 rfl (nv_inc (rfl)) (by decide) rfl ?_
        refine aw_goto 7 dX0_isFake_53 (by decide) ?_
        refine aw_lv [(4, .int (nI (i + 1))), (3, .int (nI hv)), (2, .int (nI kv)), (1, .int (nI b)), (0, .ref (G.1 + 84))] [0, 1, 2, 3, 4] rfl ?_
        exact ih7 (i + 1) hv kv (by omega) (by omega) (by simp only [fkF]; rw [if_neg t20]; exact hk)
      · have t20 := ite_1 c20
        refine aw_iload_n 2 dX0_isFake_23 rfl rfl ?_
        refine aw_iconst (1) dX0_isFake_24 (by decide) ?_
        refine aw_aload_n 4 dX0_isFake_25 rfl rfl ?_
        refine aw_get fX0_9 dX0_isFake_26 h84 rfl ?_
        refine aw_iload 0 dX0_isFake_29 rfl ?_
        refine aw_iald i (rfl) (by omega) (by decide) dX0_isFake_31 h85 ?_
        refine aw_toe (nI (kd i)) (rfl) ?_
        have b8 := bkd i (by omega)
        refine aw_ishl dX0_isFake_32 ?_
        refine aw_toe (nI (2 ^ (kd i))) (nv_shl1 (rfl) (by omega)) ?_
        refine aw_ior dX0_isFake_33 ?_
        refine aw_toe (nI (kv ||| (2 ^ (kd i)))) (nv_or (rfl) (rfl)) ?_
        refine aw_istore_n [(2, .int (nI (kv ||| (2 ^ (kd i))))), (4, .int (nI i)), (3, .int (nI hv)), (1, .int (nI b)), (0, .ref (G.1 + 84))] dX0_isFake_34 rfl (by decide) rfl ?_
        refine aw_iload_n 2 dX0_isFake_35 rfl rfl ?_
        refine aw_aload_n 4 dX0_isFake_36 rfl rfl ?_
        refine aw_get fX0_15 dX0_isFake_37 h84 rfl ?_
        refine aw_aload_n 4 dX0_isFake_40 rfl rfl ?_
        refine aw_get fX0_9 dX0_isFake_41 h84 rfl ?_
        refine aw_iload 1 dX0_isFake_44 rfl ?_
        refine aw_iald i (rfl) (by omega) (by decide) dX0_isFake_46 h85 ?_
        refine aw_toe (nI (kd i)) (rfl) ?_
        have b9 := bkd i (by omega)
        refine aw_iald (kd i) (rfl) (by omega) (by decide) dX0_isFake_47 h86 ?_
        refine aw_toe (nI (fo (kd i))) (rfl) ?_
        have b10 := bfo (kd i) (by omega)
        refine aw_ior dX0_isFake_48 ?_
        refine aw_toe (nI (hv ||| (fo (kd i)))) (nv_or (rfl) (rfl)) ?_
        refine aw_istore_n [(3, .int (nI (hv ||| (fo (kd i))))), (2, .int (nI (kv ||| (2 ^ (kd i))))), (4, .int (nI i)), (1, .int (nI b)), (0, .ref (G.1 + 84))] dX0_isFake_49 rfl (by decide) rfl ?_
        refine aw_iinc (j := 2) (nI (i + 1)) [(4, .int (nI (i + 1))), (3, .int (nI (hv ||| (fo (kd i))))), (2, .int (nI (kv ||| (2 ^ (kd i))))), (1, .int (nI b)), (0, .ref (G.1 + 84))] dX0_isFake_50 rfl (nv_inc (rfl)) (by decide) rfl ?_
        refine aw_goto 7 dX0_isFake_53 (by decide) ?_
        refine aw_lv [(4, .int (nI (i + 1))), (3, .int (nI (hv ||| (fo (kd i))))), (2, .int (nI (kv ||| (2 ^ (kd i))))), (1, .int (nI b)), (0, .ref (G.1 + 84))] [0, 1, 2, 3, 4] rfl ?_
        exact ih7 (i + 1) (hv ||| fo (kd i)) (kv ||| 2 ^ kd i) (by omega) (by omega) (by simp only [fkF]; rw [if_pos t20, ← hk])
set_option maxHeartbeats 4000000 in
theorem aX0_least {l : Launch} {G : xG} {h : List va_E} {kd fo : Nat → Nat} {cn : Int32} {b : Nat} (h84 : h[84]? = some (oB 0 (lB G cn))) (h85 : h[85]? = some (aI 10 (nA kd))) (h86 : h[86]? = some (aI 6 (nA fo))) (bkd : ∀ j, j < 10 → kd j < 6) (bfo : ∀ j, j < 6 → fo j < 64) (bb : b < 1024) : CD l G yX0_leastWithout cX0_leastWithout 5 (some .int) 1 0 0 [.ref (G.1 + 84), .int (nI b)] h (some (.int (nI (lwF kd fo b b)))) h := by
  refine cm_ofQ rfl (Nat.le_of_ble_eq_true rfl) [(0, .ref (G.1 + 84)), (1, .int (nI b))] rfl (fun QF hQF => ?_)
  refine aw_iload_n 1 dX0_leastWithout_0 rfl rfl ?_
  refine aw_istore_n [(2, .int (nI b)), (0, .ref (G.1 + 84)), (1, .int (nI b))] dX0_leastWithout_1 rfl (by decide) rfl ?_
  refine aw_iconst (0) dX0_leastWithout_2 (by decide) ?_
  refine aw_istore_n [(3, .int 0), (2, .int (nI b)), (0, .ref (G.1 + 84)), (1, .int (nI b))] dX0_leastWithout_3 rfl (by decide) rfl ?_
  refine aw_lv [(3, .int 0), (2, .int (nI b)), (1, .int (nI b)), (0, .ref (G.1 + 84))] [0, 1, 3, 2] rfl ?_
  suffices L11 : ∀ (mm : Nat) (i : Nat) (lv : Nat), b - i < mm → (i ≤ b) → (lv = (lwF kd fo b i)) → AW l G yX0_leastWithout cX0_leastWithout 5 (some .int) (xR 1 0 0) (fun _ _ => True) QF 0 0 4 [(3, .int (nI i)), (2, .int (nI lv)), (1, .int (nI b)), (0, .ref (G.1 + 84))] [] h from L11 (b - 0 + 1) 0 b (Nat.lt_succ_self _) (Nat.zero_le _) (rfl)
  intro mm
  induction mm with
  | zero =>
    intro i lv hmm hi hl
    exact absurd hmm (Nat.not_lt_zero _)
  | succ mm ih11 =>
    intro i lv hmm hi hl
    have b9 : lv < 1024 := by rw [hl]; exact lwF_lt bb i (by omega)
    have b8 := popN_le i
    have b7 := popN_le lv
    have b6 : i &&& b ≤ b := Nat.and_le_right
    have b5 : b &&& (1023 ^^^ i) ≤ b := Nat.and_le_left
    refine aw_iload_n 0 dX0_leastWithout_4 rfl rfl ?_
    refine aw_iload_n 2 dX0_leastWithout_5 rfl rfl ?_
    refine aw_icmp_ge 59 dX0_leastWithout_6 (by decide) (fun c6 => ?_) (fun c6 => ?_)
    · have d6 := (nv_le (a := b) (b := i) (rfl) (rfl) (by omega) (by omega)).mp c6
      refine aw_iload_n 1 dX0_leastWithout_59 rfl rfl ?_
      subst hQF
      exact aw_iret rfl dX0_leastWithout_60 (by decide) (by decide) ⟨by rw [hl, show i = b by omega], rfl⟩
    · have d6 := mt (nv_le (a := b) (b := i) (rfl) (rfl) (by omega) (by omega)).mpr c6
      refine aw_iload_n 0 dX0_leastWithout_9 rfl rfl ?_
      refine aw_iload_n 2 dX0_leastWithout_10 rfl rfl ?_
      refine aw_iand dX0_leastWithout_11 ?_
      refine aw_toe (nI (i &&& b)) (nv_and (rfl) (rfl)) ?_
      refine aw_iload_n 0 dX0_leastWithout_12 rfl rfl ?_
      refine aw_icmp_ne 20 dX0_leastWithout_13 (by decide) (fun c13 => ?_) (fun c13 => ?_)
      · have d13 := mt (nv_eq (a := i &&& b) (b := i) (rfl) (rfl) (by omega) (by omega)).mpr c13
        refine aw_iconst (0) dX0_leastWithout_20 (by decide) ?_
        refine aw_istore [(4, .int 0), (3, .int (nI i)), (2, .int (nI lv)), (1, .int (nI b)), (0, .ref (G.1 + 84))] dX0_leastWithout_21 (by decide) rfl ?_
        refine aw_iload 0 dX0_leastWithout_23 rfl ?_
        refine aw_if_eq 53 dX0_leastWithout_25 (by decide) (fun c25 => ?_) (fun c25 => absurd (by decide) c25)
        refine aw_iinc (j := 1) (nI (i + 1)) [(3, .int (nI (i + 1))), (4, .int 0), (2, .int (nI lv)), (1, .int (nI b)), (0, .ref (G.1 + 84))] dX0_leastWithout_53 rfl (nv_inc (rfl)) (by decide) rfl ?_
        refine aw_goto 4 dX0_leastWithout_56 (by decide) ?_
        refine aw_lv [(3, .int (nI (i + 1))), (2, .int (nI lv)), (1, .int (nI b)), (0, .ref (G.1 + 84))] [0, 2, 3, 4] rfl ?_
        exact ih11 (i + 1) lv (by omega) (by omega) (by simp only [lwF]; rw [← hl, if_neg (fun q => d13 q.1)])
      · have d13 := (nv_eq (a := i &&& b) (b := i) (rfl) (rfl) (by omega) (by omega)).mp c13
        refine aw_iconst (1) dX0_leastWithout_16 (by decide) ?_
        refine aw_goto 21 dX0_leastWithout_17 (by decide) ?_
        refine aw_istore [(4, .int 1), (3, .int (nI i)), (2, .int (nI lv)), (1, .int (nI b)), (0, .ref (G.1 + 84))] dX0_leastWithout_21 (by decide) rfl ?_
        refine aw_iload 0 dX0_leastWithout_23 rfl ?_
        refine aw_if_eq 53 dX0_leastWithout_25 (by decide) (fun c25 => absurd c25 (by decide)) (fun c25 => ?_)
        refine aw_iload_n 1 dX0_leastWithout_28 rfl rfl ?_
        refine aw_dS [.int (nI i)] [] lX0_22 sJ6_bitCount_0f7a4 mJ6_bitCount_0f7a4 dX0_leastWithout_29 (J6_bitCount_g (x := (nI i)) ) rfl (Nat.le_of_ble_eq_true rfl) (by decide) (by decide) rfl ?_
        refine aw_toe (nI (popN i)) (bc_pop (by omega)) ?_
        refine aw_iload_n 2 dX0_leastWithout_32 rfl rfl ?_
        refine aw_dS [.int (nI lv)] [.int (nI (popN i))] lX0_22 sJ6_bitCount_0f7a4 mJ6_bitCount_0f7a4 dX0_leastWithout_33 (J6_bitCount_g (x := (nI lv)) ) rfl (Nat.le_of_ble_eq_true rfl) (by decide) (by decide) rfl ?_
        refine aw_toe (nI (popN lv)) (bc_pop (by omega)) ?_
        refine aw_icmp_ge 53 dX0_leastWithout_36 (by decide) (fun c36 => ?_) (fun c36 => ?_)
        · have d36 := (nv_le (a := popN lv) (b := popN i) (rfl) (rfl) (by omega) (by omega)).mp c36
          refine aw_iinc (j := 1) (nI (i + 1)) [(3, .int (nI (i + 1))), (4, .int 1), (2, .int (nI lv)), (1, .int (nI b)), (0, .ref (G.1 + 84))] dX0_leastWithout_53 rfl (nv_inc (rfl)) (by decide) rfl ?_
          refine aw_goto 4 dX0_leastWithout_56 (by decide) ?_
          refine aw_lv [(3, .int (nI (i + 1))), (2, .int (nI lv)), (1, .int (nI b)), (0, .ref (G.1 + 84))] [0, 2, 3, 4] rfl ?_
          exact ih11 (i + 1) lv (by omega) (by omega) (by simp only [lwF]; rw [← hl, if_neg (fun q => by omega)])
        · have d36 := mt (nv_le (a := popN lv) (b := popN i) (rfl) (rfl) (by omega) (by omega)).mpr c36
          refine aw_aload_n 4 dX0_leastWithout_39 rfl rfl ?_
          refine aw_iload_n 3 dX0_leastWithout_40 rfl rfl ?_
          refine aw_iload_n 1 dX0_leastWithout_41 rfl rfl ?_
          refine aw_iconst (-1) dX0_leastWithout_42 (by decide) ?_
          refine aw_ixor dX0_leastWithout_43 ?_
          refine aw_iand dX0_leastWithout_44 ?_
          refine aw_toe (nI (b &&& (1023 ^^^ i))) (nv_andn bb) ?_
          refine aw_dV [.int (nI (b &&& (1023 ^^^ i)))] [] lX0_28 vX0_isFake mX0_isFake dX0_leastWithout_45 (aX0_isFake (kd := kd) (fo := fo) (cn := cn) (b := b &&& (1023 ^^^ i)) h84 h85 h86 bkd bfo (by omega)) h84 rfl rfl rfl (Nat.le_of_ble_eq_true rfl) (by decide) (by decide) rfl ?_
          refine aw_if_ne 53 dX0_leastWithout_48 (by decide) (fun c48 => ?_) (fun c48 => ?_)
          · have t48 := ite_1 c48
            refine aw_iinc (j := 1) (nI (i + 1)) [(3, .int (nI (i + 1))), (4, .int 1), (2, .int (nI lv)), (1, .int (nI b)), (0, .ref (G.1 + 84))] dX0_leastWithout_53 rfl (nv_inc (rfl)) (by decide) rfl ?_
            refine aw_goto 4 dX0_leastWithout_56 (by decide) ?_
            refine aw_lv [(3, .int (nI (i + 1))), (2, .int (nI lv)), (1, .int (nI b)), (0, .ref (G.1 + 84))] [0, 2, 3, 4] rfl ?_
            exact ih11 (i + 1) lv (by omega) (by omega) (by simp only [lwF]; rw [← hl, if_neg (fun q => t48 q.2.2)])
          · have t48 := ite_0 c48
            refine aw_iload_n 1 dX0_leastWithout_51 rfl rfl ?_
            refine aw_istore_n [(2, .int (nI i)), (4, .int 1), (3, .int (nI i)), (1, .int (nI b)), (0, .ref (G.1 + 84))] dX0_leastWithout_52 rfl (by decide) rfl ?_
            refine aw_iinc (j := 2) (nI (i + 1)) [(3, .int (nI (i + 1))), (2, .int (nI i)), (4, .int 1), (1, .int (nI b)), (0, .ref (G.1 + 84))] dX0_leastWithout_53 rfl (nv_inc (rfl)) (by decide) rfl ?_
            refine aw_goto 4 dX0_leastWithout_56 (by decide) ?_
            refine aw_lv [(3, .int (nI (i + 1))), (2, .int (nI i)), (1, .int (nI b)), (0, .ref (G.1 + 84))] [0, 1, 3, 4] rfl ?_
            exact ih11 (i + 1) i (by omega) (by omega) (by simp only [lwF]; rw [← hl, if_pos ⟨by omega, by omega, Classical.byContradiction t48⟩])
set_option maxHeartbeats 4000000 in
theorem aX1_tellYear {l : Launch} {G : xG} {h : List va_E} {m se ye fi : Nat → Nat} {W Sn Z Ro Co : Nat → Int32} {Ba : Nat → Int64} {nb sp fa ve : Nat} {c y : Nat} (h1 : h[1]? = some (oB 1 (lC G (nI nb) (nI sp) (nI fa) (nI ve)))) (h2 : h[2]? = some (aI 20 (nA m))) (h3 : h[3]? = some (aI 20 (nA se))) (h4 : h[4]? = some (aI 4 (nA ye))) (h5 : h[5]? = some (aI 4 (nA fi))) (h6 : h[6]? = some (aI 40 W)) (h7 : h[7]? = some (aI 40 Sn)) (h8 : h[8]? = some (aI 40 Z)) (h9 : h[9]? = some (aI 40 Ro)) (h10 : h[10]? = some (aI 40 Co)) (h11 : h[11]? = some (aL 40 Ba)) (bc : c < 4) : CE l G yX1_tellYear cX1_tellYear 4 (some .int) 0 0 0 [.ref (G.1 + 1), .int (nI c), .int (nI y)] h (some (.int (nI (ye c)))) (fun h1 => h1[1]? = some (oB 1 (lC G (nI nb) (nI sp) (nI fa) (nI (ve + 1)))) ∧ h1[2]? = some (aI 20 (nA m)) ∧ h1[3]? = some (aI 20 (nA se)) ∧ h1[4]? = some (aI 4 (nA (un ye c y))) ∧ h1[5]? = some (aI 4 (nA fi)) ∧ h1[6]? = some (aI 40 W) ∧ h1[7]? = some (aI 40 Sn) ∧ h1[8]? = some (aI 40 Z) ∧ h1[9]? = some (aI 40 Ro) ∧ h1[10]? = some (aI 40 Co) ∧ h1[11]? = some (aL 40 Ba) ∧ rng 1 11 h h1) := by
  refine cm_ofQ rfl (Nat.le_of_ble_eq_true rfl) [(0, .ref (G.1 + 1)), (1, .int (nI c)), (2, .int (nI y))] rfl (fun QF hQF => ?_)
  refine aw_aload_n 0 dX1_tellYear_0 rfl rfl ?_
  refine aw_get fX1_18 dX1_tellYear_1 h1 rfl ?_
  refine aw_iload_n 1 dX1_tellYear_4 rfl rfl ?_
  refine aw_iald c (rfl) (by omega) (by decide) dX1_tellYear_5 h4 ?_
  refine aw_toe (nI (ye c)) (rfl) ?_
  refine aw_istore_n [(3, .int (nI (ye c))), (0, .ref (G.1 + 1)), (1, .int (nI c)), (2, .int (nI y))] dX1_tellYear_6 rfl (by decide) rfl ?_
  refine aw_aload_n 1 dX1_tellYear_7 rfl rfl ?_
  refine aw_get fX1_18 dX1_tellYear_8 h1 rfl ?_
  refine aw_iload_n 2 dX1_tellYear_11 rfl rfl ?_
  refine aw_iload_n 3 dX1_tellYear_12 rfl rfl ?_
  refine aw_iast c (rfl) (by omega) (by decide) dX1_tellYear_13 h4 ?_
  rw [nA_u (f := ye) (i := c) (x := (nI y)) (v := y) (rfl)]
  refine aw_aload_n 1 dX1_tellYear_14 rfl rfl ?_
  refine aw_dup dX1_tellYear_15 rfl ?_
  refine aw_get fX1_53 dX1_tellYear_16 (gn (by decide) (h1)) rfl ?_
  refine aw_iconst (1) dX1_tellYear_19 (by decide) ?_
  refine aw_iadd dX1_tellYear_20 ?_
  refine aw_toe (nI (ve + 1)) (nv_add (rfl) (rfl)) ?_
  refine aw_putQ fX1_53 dX1_tellYear_21 (lC G (nI nb) (nI sp) (nI fa) (nI (ve + 1))) (gn (by decide) (h1)) rfl rfl rfl (Nat.le_of_ble_eq_true rfl) rfl ?_
  refine aw_iload_n 0 dX1_tellYear_24 rfl rfl ?_
  subst hQF
  exact aw_iret rfl dX1_tellYear_25 (by decide) (by decide) ⟨rfl, (gs (gn (by decide) (h1))), (gn (by decide) (gn (by decide) (h2))), (gn (by decide) (gn (by decide) (h3))), (gn (by decide) (gs h4)), (gn (by decide) (gn (by decide) (h5))), (gn (by decide) (gn (by decide) (h6))), (gn (by decide) (gn (by decide) (h7))), (gn (by decide) (gn (by decide) (h8))), (gn (by decide) (gn (by decide) (h9))), (gn (by decide) (gn (by decide) (h10))), (gn (by decide) (gn (by decide) (h11))), rng_set (rng_set (rng_rf 1 11 h) (by decide) (by decide)) (by decide) (by decide)⟩
set_option maxHeartbeats 4000000 in
theorem aX1_tellSpare {l : Launch} {G : xG} {h : List va_E} {m se ye fi : Nat → Nat} {W Sn Z Ro Co : Nat → Int32} {Ba : Nat → Int64} {nb sp fa ve : Nat} {v : Nat} (h1 : h[1]? = some (oB 1 (lC G (nI nb) (nI sp) (nI fa) (nI ve)))) (h2 : h[2]? = some (aI 20 (nA m))) (h3 : h[3]? = some (aI 20 (nA se))) (h4 : h[4]? = some (aI 4 (nA ye))) (h5 : h[5]? = some (aI 4 (nA fi))) (h6 : h[6]? = some (aI 40 W)) (h7 : h[7]? = some (aI 40 Sn)) (h8 : h[8]? = some (aI 40 Z)) (h9 : h[9]? = some (aI 40 Ro)) (h10 : h[10]? = some (aI 40 Co)) (h11 : h[11]? = some (aL 40 Ba))  : CE l G yX1_tellSpare cX1_tellSpare 3 (some .int) 0 0 0 [.ref (G.1 + 1), .int (nI v)] h (some (.int (nI sp))) (fun h1 => h1[1]? = some (oB 1 (lC G (nI nb) (nI v) (nI fa) (nI (ve + 1)))) ∧ h1[2]? = some (aI 20 (nA m)) ∧ h1[3]? = some (aI 20 (nA se)) ∧ h1[4]? = some (aI 4 (nA ye)) ∧ h1[5]? = some (aI 4 (nA fi)) ∧ h1[6]? = some (aI 40 W) ∧ h1[7]? = some (aI 40 Sn) ∧ h1[8]? = some (aI 40 Z) ∧ h1[9]? = some (aI 40 Ro) ∧ h1[10]? = some (aI 40 Co) ∧ h1[11]? = some (aL 40 Ba) ∧ rng 1 11 h h1) := by
  refine cm_ofQ rfl (Nat.le_of_ble_eq_true rfl) [(0, .ref (G.1 + 1)), (1, .int (nI v))] rfl (fun QF hQF => ?_)
  refine aw_aload_n 0 dX1_tellSpare_0 rfl rfl ?_
  refine aw_get fX1_47 dX1_tellSpare_1 h1 rfl ?_
  refine aw_istore_n [(2, .int (nI sp)), (0, .ref (G.1 + 1)), (1, .int (nI v))] dX1_tellSpare_4 rfl (by decide) rfl ?_
  refine aw_aload_n 1 dX1_tellSpare_5 rfl rfl ?_
  refine aw_iload_n 2 dX1_tellSpare_6 rfl rfl ?_
  refine aw_putQ fX1_47 dX1_tellSpare_7 (lC G (nI nb) (nI v) (nI fa) (nI ve)) h1 rfl rfl rfl (Nat.le_of_ble_eq_true rfl) rfl ?_
  refine aw_aload_n 1 dX1_tellSpare_10 rfl rfl ?_
  refine aw_dup dX1_tellSpare_11 rfl ?_
  refine aw_get fX1_53 dX1_tellSpare_12 (gs h1) rfl ?_
  refine aw_iconst (1) dX1_tellSpare_15 (by decide) ?_
  refine aw_iadd dX1_tellSpare_16 ?_
  refine aw_toe (nI (ve + 1)) (nv_add (rfl) (rfl)) ?_
  refine aw_putQ fX1_53 dX1_tellSpare_17 (lC G (nI nb) (nI v) (nI fa) (nI (ve + 1))) (gs h1) rfl rfl rfl (Nat.le_of_ble_eq_true rfl) rfl ?_
  refine aw_iload_n 0 dX1_tellSpare_20 rfl rfl ?_
  subst hQF
  exact aw_iret rfl dX1_tellSpare_21 (by decide) (by decide) ⟨rfl, (gs (gs h1)), (gn (by decide) (gn (by decide) (h2))), (gn (by decide) (gn (by decide) (h3))), (gn (by decide) (gn (by decide) (h4))), (gn (by decide) (gn (by decide) (h5))), (gn (by decide) (gn (by decide) (h6))), (gn (by decide) (gn (by decide) (h7))), (gn (by decide) (gn (by decide) (h8))), (gn (by decide) (gn (by decide) (h9))), (gn (by decide) (gn (by decide) (h10))), (gn (by decide) (gn (by decide) (h11))), rng_set (rng_set (rng_rf 1 11 h) (by decide) (by decide)) (by decide) (by decide)⟩
set_option maxHeartbeats 4000000 in
theorem aX1_tellFade {l : Launch} {G : xG} {h : List va_E} {m se ye fi : Nat → Nat} {W Sn Z Ro Co : Nat → Int32} {Ba : Nat → Int64} {nb sp fa ve : Nat} {v : Nat} (h1 : h[1]? = some (oB 1 (lC G (nI nb) (nI sp) (nI fa) (nI ve)))) (h2 : h[2]? = some (aI 20 (nA m))) (h3 : h[3]? = some (aI 20 (nA se))) (h4 : h[4]? = some (aI 4 (nA ye))) (h5 : h[5]? = some (aI 4 (nA fi))) (h6 : h[6]? = some (aI 40 W)) (h7 : h[7]? = some (aI 40 Sn)) (h8 : h[8]? = some (aI 40 Z)) (h9 : h[9]? = some (aI 40 Ro)) (h10 : h[10]? = some (aI 40 Co)) (h11 : h[11]? = some (aL 40 Ba))  : CE l G yX1_tellFade cX1_tellFade 3 (some .int) 0 0 0 [.ref (G.1 + 1), .int (nI v)] h (some (.int (nI fa))) (fun h1 => h1[1]? = some (oB 1 (lC G (nI nb) (nI sp) (nI v) (nI (ve + 1)))) ∧ h1[2]? = some (aI 20 (nA m)) ∧ h1[3]? = some (aI 20 (nA se)) ∧ h1[4]? = some (aI 4 (nA ye)) ∧ h1[5]? = some (aI 4 (nA fi)) ∧ h1[6]? = some (aI 40 W) ∧ h1[7]? = some (aI 40 Sn) ∧ h1[8]? = some (aI 40 Z) ∧ h1[9]? = some (aI 40 Ro) ∧ h1[10]? = some (aI 40 Co) ∧ h1[11]? = some (aL 40 Ba) ∧ rng 1 11 h h1) := by
  refine cm_ofQ rfl (Nat.le_of_ble_eq_true rfl) [(0, .ref (G.1 + 1)), (1, .int (nI v))] rfl (fun QF hQF => ?_)
  refine aw_aload_n 0 dX1_tellFade_0 rfl rfl ?_
  refine aw_get fX1_50 dX1_tellFade_1 h1 rfl ?_
  refine aw_istore_n [(2, .int (nI fa)), (0, .ref (G.1 + 1)), (1, .int (nI v))] dX1_tellFade_4 rfl (by decide) rfl ?_
  refine aw_aload_n 1 dX1_tellFade_5 rfl rfl ?_
  refine aw_iload_n 2 dX1_tellFade_6 rfl rfl ?_
  refine aw_putQ fX1_50 dX1_tellFade_7 (lC G (nI nb) (nI sp) (nI v) (nI ve)) h1 rfl rfl rfl (Nat.le_of_ble_eq_true rfl) rfl ?_
  refine aw_aload_n 1 dX1_tellFade_10 rfl rfl ?_
  refine aw_dup dX1_tellFade_11 rfl ?_
  refine aw_get fX1_53 dX1_tellFade_12 (gs h1) rfl ?_
  refine aw_iconst (1) dX1_tellFade_15 (by decide) ?_
  refine aw_iadd dX1_tellFade_16 ?_
  refine aw_toe (nI (ve + 1)) (nv_add (rfl) (rfl)) ?_
  refine aw_putQ fX1_53 dX1_tellFade_17 (lC G (nI nb) (nI sp) (nI v) (nI (ve + 1))) (gs h1) rfl rfl rfl (Nat.le_of_ble_eq_true rfl) rfl ?_
  refine aw_iload_n 0 dX1_tellFade_20 rfl rfl ?_
  subst hQF
  exact aw_iret rfl dX1_tellFade_21 (by decide) (by decide) ⟨rfl, (gs (gs h1)), (gn (by decide) (gn (by decide) (h2))), (gn (by decide) (gn (by decide) (h3))), (gn (by decide) (gn (by decide) (h4))), (gn (by decide) (gn (by decide) (h5))), (gn (by decide) (gn (by decide) (h6))), (gn (by decide) (gn (by decide) (h7))), (gn (by decide) (gn (by decide) (h8))), (gn (by decide) (gn (by decide) (h9))), (gn (by decide) (gn (by decide) (h10))), (gn (by decide) (gn (by decide) (h11))), rng_set (rng_set (rng_rf 1 11 h) (by decide) (by decide)) (by decide) (by decide)⟩
set_option maxHeartbeats 4000000 in
theorem aX1_addEntry {l : Launch} {G : xG} {h : List va_E} {m se ye fi : Nat → Nat} {W Sn Z Ro Co : Nat → Int32} {Ba : Nat → Int64} {nb sp fa ve : Nat} {c : Nat} {w s r u : Int32} (h1 : h[1]? = some (oB 1 (lC G (nI nb) (nI sp) (nI fa) (nI ve)))) (h2 : h[2]? = some (aI 20 (nA m))) (h3 : h[3]? = some (aI 20 (nA se))) (h4 : h[4]? = some (aI 4 (nA ye))) (h5 : h[5]? = some (aI 4 (nA fi))) (h6 : h[6]? = some (aI 40 W)) (h7 : h[7]? = some (aI 40 Sn)) (h8 : h[8]? = some (aI 40 Z)) (h9 : h[9]? = some (aI 40 Ro)) (h10 : h[10]? = some (aI 40 Co)) (h11 : h[11]? = some (aL 40 Ba)) (bc : c < 4) (bf : fi c < 10) : CE l G yX1_addEntry cX1_addEntry 8 (some .int) 1 0 0 [.ref (G.1 + 1), .int (nI c), .int w, .int s, .int r, .int u] h (some (.int (nI (fi c)))) (fun h1 => h1[1]? = some (oB 1 (lC G (nI nb) (nI sp) (nI fa) (nI (ve + 1)))) ∧ h1[2]? = some (aI 20 (nA m)) ∧ h1[3]? = some (aI 20 (nA se)) ∧ h1[4]? = some (aI 4 (nA ye)) ∧ h1[5]? = some (aI 4 (nA (un fi c (fi c + 1)))) ∧ h1[6]? = some (aI 40 (upd W (c * 10 + fi c) w)) ∧ h1[7]? = some (aI 40 (upd Sn (c * 10 + fi c) (snF se w 20))) ∧ h1[8]? = some (aI 40 (upd Z (c * 10 + fi c) s)) ∧ h1[9]? = some (aI 40 (upd Ro (c * 10 + fi c) r)) ∧ h1[10]? = some (aI 40 (upd Co (c * 10 + fi c) u)) ∧ h1[11]? = some (aL 40 Ba) ∧ rng 1 11 h h1) := by
  refine cm_ofQ rfl (Nat.le_of_ble_eq_true rfl) [(0, .ref (G.1 + 1)), (1, .int (nI c)), (2, .int w), (3, .int s), (4, .int r), (5, .int u)] rfl (fun QF hQF => ?_)
  refine aw_aload_n 0 dX1_addEntry_0 rfl rfl ?_
  refine aw_get fX1_21 dX1_addEntry_1 h1 rfl ?_
  refine aw_iload_n 1 dX1_addEntry_4 rfl rfl ?_
  refine aw_iald c (rfl) (by omega) (by decide) dX1_addEntry_5 h5 ?_
  refine aw_toe (nI (fi c)) (rfl) ?_
  refine aw_istore [(6, .int (nI (fi c))), (0, .ref (G.1 + 1)), (1, .int (nI c)), (2, .int w), (3, .int s), (4, .int r), (5, .int u)] dX1_addEntry_6 (by decide) rfl ?_
  refine aw_iload_n 2 dX1_addEntry_8 rfl rfl ?_
  refine aw_bipush (10) dX1_addEntry_9 (by decide) ?_
  refine aw_imul dX1_addEntry_11 ?_
  refine aw_iload 0 dX1_addEntry_12 rfl ?_
  refine aw_iadd dX1_addEntry_14 ?_
  refine aw_toe (nI ((c * 10) + (fi c))) (nv_add (nv_mul (rfl) (rfl)) (rfl)) ?_
  refine aw_istore [(7, .int (nI ((c * 10) + (fi c)))), (6, .int (nI (fi c))), (0, .ref (G.1 + 1)), (1, .int (nI c)), (2, .int w), (3, .int s), (4, .int r), (5, .int u)] dX1_addEntry_15 (by decide) rfl ?_
  refine aw_aload_n 2 dX1_addEntry_17 rfl rfl ?_
  refine aw_get fX1_24 dX1_addEntry_18 h1 rfl ?_
  refine aw_iload 0 dX1_addEntry_21 rfl ?_
  refine aw_iload_n 4 dX1_addEntry_23 rfl rfl ?_
  refine aw_iast ((c * 10) + (fi c)) (rfl) (by omega) (by decide) dX1_addEntry_24 h6 ?_
  refine aw_aload_n 2 dX1_addEntry_25 rfl rfl ?_
  refine aw_get fX1_27 dX1_addEntry_26 (gn (by decide) (h1)) rfl ?_
  refine aw_iload 0 dX1_addEntry_29 rfl ?_
  refine aw_aload_n 2 dX1_addEntry_31 rfl rfl ?_
  refine aw_iload_n 4 dX1_addEntry_32 rfl rfl ?_
  refine aw_dV [.int w] [.int (nI ((c * 10) + (fi c))), .ref (G.1 + 7)] lX1_56 vX1_sensesOf mX1_sensesOf dX1_addEntry_33 (gX1_sensesOf (nb := nb) (sp := sp) (fa := fa) (w := w) (se := se) (gn (by decide) (h1)) (gn (by decide) (h3))) (gn (by decide) (h1)) rfl rfl rfl (Nat.le_of_ble_eq_true rfl) (by decide) (by decide) rfl ?_
  refine aw_iast ((c * 10) + (fi c)) (rfl) (by omega) (by decide) dX1_addEntry_36 (gn (by decide) (h7)) ?_
  refine aw_aload_n 2 dX1_addEntry_37 rfl rfl ?_
  refine aw_get fX1_30 dX1_addEntry_38 (gn (by decide) (gn (by decide) (h1))) rfl ?_
  refine aw_iload 0 dX1_addEntry_41 rfl ?_
  refine aw_iload_n 5 dX1_addEntry_43 rfl rfl ?_
  refine aw_iast ((c * 10) + (fi c)) (rfl) (by omega) (by decide) dX1_addEntry_44 (gn (by decide) (gn (by decide) (h8))) ?_
  refine aw_aload_n 2 dX1_addEntry_45 rfl rfl ?_
  refine aw_get fX1_33 dX1_addEntry_46 (gn (by decide) (gn (by decide) (gn (by decide) (h1)))) rfl ?_
  refine aw_iload 0 dX1_addEntry_49 rfl ?_
  refine aw_iload 6 dX1_addEntry_51 rfl ?_
  refine aw_iast ((c * 10) + (fi c)) (rfl) (by omega) (by decide) dX1_addEntry_53 (gn (by decide) (gn (by decide) (gn (by decide) (h9)))) ?_
  refine aw_aload_n 2 dX1_addEntry_54 rfl rfl ?_
  refine aw_get fX1_36 dX1_addEntry_55 (gn (by decide) (gn (by decide) (gn (by decide) (gn (by decide) (h1))))) rfl ?_
  refine aw_iload 0 dX1_addEntry_58 rfl ?_
  refine aw_iload 7 dX1_addEntry_60 rfl ?_
  refine aw_iast ((c * 10) + (fi c)) (rfl) (by omega) (by decide) dX1_addEntry_62 (gn (by decide) (gn (by decide) (gn (by decide) (gn (by decide) (h10))))) ?_
  refine aw_aload_n 2 dX1_addEntry_63 rfl rfl ?_
  refine aw_get fX1_21 dX1_addEntry_64 (gn (by decide) (gn (by decide) (gn (by decide) (gn (by decide) (gn (by decide) (h1)))))) rfl ?_
  refine aw_iload_n 3 dX1_addEntry_67 rfl rfl ?_
  refine aw_iload 1 dX1_addEntry_68 rfl ?_
  refine aw_iconst (1) dX1_addEntry_70 (by decide) ?_
  refine aw_iadd dX1_addEntry_71 ?_
  refine aw_toe (nI ((fi c) + 1)) (nv_add (rfl) (rfl)) ?_
  refine aw_iast c (rfl) (by omega) (by decide) dX1_addEntry_72 (gn (by decide) (gn (by decide) (gn (by decide) (gn (by decide) (gn (by decide) (h5)))))) ?_
  rw [nA_u (f := fi) (i := c) (x := (nI ((fi c) + 1))) (v := (fi c) + 1) (rfl)]
  refine aw_aload_n 2 dX1_addEntry_73 rfl rfl ?_
  refine aw_dup dX1_addEntry_74 rfl ?_
  refine aw_get fX1_53 dX1_addEntry_75 (gn (by decide) (gn (by decide) (gn (by decide) (gn (by decide) (gn (by decide) (gn (by decide) (h1))))))) rfl ?_
  refine aw_iconst (1) dX1_addEntry_78 (by decide) ?_
  refine aw_iadd dX1_addEntry_79 ?_
  refine aw_toe (nI (ve + 1)) (nv_add (rfl) (rfl)) ?_
  refine aw_putQ fX1_53 dX1_addEntry_80 (lC G (nI nb) (nI sp) (nI fa) (nI (ve + 1))) (gn (by decide) (gn (by decide) (gn (by decide) (gn (by decide) (gn (by decide) (gn (by decide) (h1))))))) rfl rfl rfl (Nat.le_of_ble_eq_true rfl) rfl ?_
  refine aw_iload 1 dX1_addEntry_83 rfl ?_
  subst hQF
  exact aw_iret rfl dX1_addEntry_85 (by decide) (by decide) ⟨rfl, (gs (gn (by decide) (gn (by decide) (gn (by decide) (gn (by decide) (gn (by decide) (gn (by decide) (h1)))))))), (gn (by decide) (gn (by decide) (gn (by decide) (gn (by decide) (gn (by decide) (gn (by decide) (gn (by decide) (h2)))))))), (gn (by decide) (gn (by decide) (gn (by decide) (gn (by decide) (gn (by decide) (gn (by decide) (gn (by decide) (h3)))))))), (gn (by decide) (gn (by decide) (gn (by decide) (gn (by decide) (gn (by decide) (gn (by decide) (gn (by decide) (h4)))))))), (gn (by decide) (gs (gn (by decide) (gn (by decide) (gn (by decide) (gn (by decide) (gn (by decide) (h5)))))))), (gn (by decide) (gn (by decide) (gn (by decide) (gn (by decide) (gn (by decide) (gn (by decide) (gs h6))))))), (gn (by decide) (gn (by decide) (gn (by decide) (gn (by decide) (gn (by decide) (gs (gn (by decide) (h7)))))))), (gn (by decide) (gn (by decide) (gn (by decide) (gn (by decide) (gs (gn (by decide) (gn (by decide) (h8)))))))), (gn (by decide) (gn (by decide) (gn (by decide) (gs (gn (by decide) (gn (by decide) (gn (by decide) (h9)))))))), (gn (by decide) (gn (by decide) (gs (gn (by decide) (gn (by decide) (gn (by decide) (gn (by decide) (h10)))))))), (gn (by decide) (gn (by decide) (gn (by decide) (gn (by decide) (gn (by decide) (gn (by decide) (gn (by decide) (h11)))))))), rng_set (rng_set (rng_set (rng_set (rng_set (rng_set (rng_set (rng_rf 1 11 h) (by decide) (by decide)) (by decide) (by decide)) (by decide) (by decide)) (by decide) (by decide)) (by decide) (by decide)) (by decide) (by decide)) (by decide) (by decide)⟩
set_option maxHeartbeats 4000000 in
theorem aX1_tellBar {l : Launch} {G : xG} {h : List va_E} {m se ye fi : Nat → Nat} {W Sn Z Ro Co : Nat → Int32} {Ba : Nat → Int64} {nb sp fa ve : Nat} {e f : Nat} (h1 : h[1]? = some (oB 1 (lC G (nI nb) (nI sp) (nI fa) (nI ve)))) (h2 : h[2]? = some (aI 20 (nA m))) (h3 : h[3]? = some (aI 20 (nA se))) (h4 : h[4]? = some (aI 4 (nA ye))) (h5 : h[5]? = some (aI 4 (nA fi))) (h6 : h[6]? = some (aI 40 W)) (h7 : h[7]? = some (aI 40 Sn)) (h8 : h[8]? = some (aI 40 Z)) (h9 : h[9]? = some (aI 40 Ro)) (h10 : h[10]? = some (aI 40 Co)) (h11 : h[11]? = some (aL 40 Ba)) (be : e < 40) (bf : f < 40) : CE l G yX1_tellBar cX1_tellBar 3 none 0 0 0 [.ref (G.1 + 1), .int (nI e), .int (nI f)] h none (fun h1 => h1[1]? = some (oB 1 (lC G (nI (nb + 1)) (nI sp) (nI fa) (nI (ve + 1)))) ∧ h1[2]? = some (aI 20 (nA m)) ∧ h1[3]? = some (aI 20 (nA se)) ∧ h1[4]? = some (aI 4 (nA ye)) ∧ h1[5]? = some (aI 4 (nA fi)) ∧ h1[6]? = some (aI 40 W) ∧ h1[7]? = some (aI 40 Sn) ∧ h1[8]? = some (aI 40 Z) ∧ h1[9]? = some (aI 40 Ro) ∧ h1[10]? = some (aI 40 Co) ∧ h1[11]? = some (aL 40 (vp_updL (vp_updL Ba e (Ba e ||| 1 <<< ((nI f).toInt64 &&& 63))) f (vp_updL Ba e (Ba e ||| 1 <<< ((nI f).toInt64 &&& 63)) f ||| 1 <<< ((nI e).toInt64 &&& 63)))) ∧ rng 1 11 h h1) := by
  refine cm_ofQ rfl (Nat.le_of_ble_eq_true rfl) [(0, .ref (G.1 + 1)), (1, .int (nI e)), (2, .int (nI f))] rfl (fun QF hQF => ?_)
  refine aw_aload_n 0 dX1_tellBar_0 rfl rfl ?_
  refine aw_get fX1_39 dX1_tellBar_1 h1 rfl ?_
  refine aw_iload_n 1 dX1_tellBar_4 rfl rfl ?_
  refine aw_dup2 dX1_tellBar_5 rfl rfl ?_
  refine aw_lald e (rfl) (by omega) (by decide) dX1_tellBar_6 h11 ?_
  refine aw_lconst 1 dX1_tellBar_7 (by decide) ?_
  refine aw_iload_n 2 dX1_tellBar_8 rfl rfl ?_
  refine aw_lshl _ dX1_tellBar_9 rfl ?_
  refine aw_lor dX1_tellBar_10 ?_
  refine aw_last e (rfl) (by omega) (by decide) dX1_tellBar_11 h11 ?_
  refine aw_aload_n 0 dX1_tellBar_12 rfl rfl ?_
  refine aw_get fX1_39 dX1_tellBar_13 (gn (by decide) (h1)) rfl ?_
  refine aw_iload_n 2 dX1_tellBar_16 rfl rfl ?_
  refine aw_dup2 dX1_tellBar_17 rfl rfl ?_
  refine aw_lald f (rfl) (by omega) (by decide) dX1_tellBar_18 (gs h11) ?_
  refine aw_lconst 1 dX1_tellBar_19 (by decide) ?_
  refine aw_iload_n 1 dX1_tellBar_20 rfl rfl ?_
  refine aw_lshl _ dX1_tellBar_21 rfl ?_
  refine aw_lor dX1_tellBar_22 ?_
  refine aw_last f (rfl) (by omega) (by decide) dX1_tellBar_23 (gs h11) ?_
  refine aw_aload_n 0 dX1_tellBar_24 rfl rfl ?_
  refine aw_dup dX1_tellBar_25 rfl ?_
  refine aw_get fX1_43 dX1_tellBar_26 (gn (by decide) (gn (by decide) (h1))) rfl ?_
  refine aw_iconst (1) dX1_tellBar_29 (by decide) ?_
  refine aw_iadd dX1_tellBar_30 ?_
  refine aw_toe (nI (nb + 1)) (nv_add (rfl) (rfl)) ?_
  refine aw_putQ fX1_43 dX1_tellBar_31 (lC G (nI (nb + 1)) (nI sp) (nI fa) (nI ve)) (gn (by decide) (gn (by decide) (h1))) rfl rfl rfl (Nat.le_of_ble_eq_true rfl) rfl ?_
  refine aw_aload_n 0 dX1_tellBar_34 rfl rfl ?_
  refine aw_dup dX1_tellBar_35 rfl ?_
  refine aw_get fX1_53 dX1_tellBar_36 (gs (gn (by decide) (gn (by decide) (h1)))) rfl ?_
  refine aw_iconst (1) dX1_tellBar_39 (by decide) ?_
  refine aw_iadd dX1_tellBar_40 ?_
  refine aw_toe (nI (ve + 1)) (nv_add (rfl) (rfl)) ?_
  refine aw_putQ fX1_53 dX1_tellBar_41 (lC G (nI (nb + 1)) (nI sp) (nI fa) (nI (ve + 1))) (gs (gn (by decide) (gn (by decide) (h1)))) rfl rfl rfl (Nat.le_of_ble_eq_true rfl) rfl ?_
  subst hQF
  exact aw_vret rfl dX1_tellBar_44 (by decide) (by decide) ⟨rfl, (gs (gs (gn (by decide) (gn (by decide) (h1))))), (gn (by decide) (gn (by decide) (gn (by decide) (gn (by decide) (h2))))), (gn (by decide) (gn (by decide) (gn (by decide) (gn (by decide) (h3))))), (gn (by decide) (gn (by decide) (gn (by decide) (gn (by decide) (h4))))), (gn (by decide) (gn (by decide) (gn (by decide) (gn (by decide) (h5))))), (gn (by decide) (gn (by decide) (gn (by decide) (gn (by decide) (h6))))), (gn (by decide) (gn (by decide) (gn (by decide) (gn (by decide) (h7))))), (gn (by decide) (gn (by decide) (gn (by decide) (gn (by decide) (h8))))), (gn (by decide) (gn (by decide) (gn (by decide) (gn (by decide) (h9))))), (gn (by decide) (gn (by decide) (gn (by decide) (gn (by decide) (h10))))), (gn (by decide) (gn (by decide) (gs (gs h11)))), rng_set (rng_set (rng_set (rng_set (rng_rf 1 11 h) (by decide) (by decide)) (by decide) (by decide)) (by decide) (by decide)) (by decide) (by decide)⟩
theorem aX1_isBarTold {l : Launch} {G : xG} {h : List va_E} {m se ye fi : Nat → Nat} {W Sn Z Ro Co : Nat → Int32} {Ba : Nat → Int64} {nb sp fa ve : Nat} {e f : Nat} (h1 : h[1]? = some (oB 1 (lC G (nI nb) (nI sp) (nI fa) (nI ve)))) (h2 : h[2]? = some (aI 20 (nA m))) (h3 : h[3]? = some (aI 20 (nA se))) (h4 : h[4]? = some (aI 4 (nA ye))) (h5 : h[5]? = some (aI 4 (nA fi))) (h6 : h[6]? = some (aI 40 W)) (h7 : h[7]? = some (aI 40 Sn)) (h8 : h[8]? = some (aI 40 Z)) (h9 : h[9]? = some (aI 40 Ro)) (h10 : h[10]? = some (aI 40 Co)) (h11 : h[11]? = some (aL 40 Ba)) (hm : ∀ j, j < 20 → m j ≤ j) (hse : ∀ j, j < 20 → se j < 20) (hfi : ∀ j, j < 4 → fi j < 11) (hye : ∀ j, j < 4 → ye j < 1901) (be : e < 40) (bf : f < 40) : CD l G yX1_isBarTold cX1_isBarTold 3 (some .boolean) 0 0 0 [.ref (G.1 + 1), .int (nI e), .int (nI f)] h (some (.int (barF Ba e (nI f)))) h :=
  gX1_isBarTold ⟨h1, h2, h3, h4, h5, h6, h7, h8, h9, h10, h11⟩ hm hse hfi hye rfl be rfl bf
theorem aX1_isSameText {l : Launch} {G : xG} {h : List va_E} {m se ye fi : Nat → Nat} {W Sn Z Ro Co : Nat → Int32} {Ba : Nat → Int64} {nb sp fa ve : Nat} {e f : Nat} (h1 : h[1]? = some (oB 1 (lC G (nI nb) (nI sp) (nI fa) (nI ve)))) (h2 : h[2]? = some (aI 20 (nA m))) (h3 : h[3]? = some (aI 20 (nA se))) (h4 : h[4]? = some (aI 4 (nA ye))) (h5 : h[5]? = some (aI 4 (nA fi))) (h6 : h[6]? = some (aI 40 W)) (h7 : h[7]? = some (aI 40 Sn)) (h8 : h[8]? = some (aI 40 Z)) (h9 : h[9]? = some (aI 40 Ro)) (h10 : h[10]? = some (aI 40 Co)) (h11 : h[11]? = some (aL 40 Ba)) (hm : ∀ j, j < 20 → m j ≤ j) (hse : ∀ j, j < 20 → se j < 20) (hfi : ∀ j, j < 4 → fi j < 11) (hye : ∀ j, j < 4 → ye j < 1901) (be : e < 40) (bf : f < 40) : CD l G yX1_isSameText cX1_isSameText 3 (some .boolean) 0 0 0 [.ref (G.1 + 1), .int (nI e), .int (nI f)] h (some (.int (if (W e = W f ∧ Z e = Z f) then 1 else 0))) h :=
  gX1_isSameText ⟨h1, h2, h3, h4, h5, h6, h7, h8, h9, h10, h11⟩ hm hse hfi hye rfl be rfl bf
theorem aX1_likeness {l : Launch} {G : xG} {h : List va_E} {m se ye fi : Nat → Nat} {W Sn Z Ro Co : Nat → Int32} {Ba : Nat → Int64} {nb sp fa ve : Nat} {e f : Nat} (h1 : h[1]? = some (oB 1 (lC G (nI nb) (nI sp) (nI fa) (nI ve)))) (h2 : h[2]? = some (aI 20 (nA m))) (h3 : h[3]? = some (aI 20 (nA se))) (h4 : h[4]? = some (aI 4 (nA ye))) (h5 : h[5]? = some (aI 4 (nA fi))) (h6 : h[6]? = some (aI 40 W)) (h7 : h[7]? = some (aI 40 Sn)) (h8 : h[8]? = some (aI 40 Z)) (h9 : h[9]? = some (aI 40 Ro)) (h10 : h[10]? = some (aI 40 Co)) (h11 : h[11]? = some (aL 40 Ba)) (hm : ∀ j, j < 20 → m j ≤ j) (hse : ∀ j, j < 20 → se j < 20) (hfi : ∀ j, j < 4 → fi j < 11) (hye : ∀ j, j < 4 → ye j < 1901) (be : e < 40) (bf : f < 40) : CD l G yX1_likeness cX1_likeness 6 (some .int) 1 0 0 [.ref (G.1 + 1), .int (nI e), .int (nI f)] h (some (.int (likeC ye Sn Z Ro Co Ba sp fa e f))) h :=
  gX1_likeness ⟨h1, h2, h3, h4, h5, h6, h7, h8, h9, h10, h11⟩ hm hse hfi hye rfl be rfl bf
set_option maxHeartbeats 4000000 in
theorem aX1_tellMeaning {l : Launch} {G : xG} {h : List va_E} {m se ye fi : Nat → Nat} {W Sn Z Ro Co : Nat → Int32} {Ba : Nat → Int64} {nb sp fa ve : Nat} {w o : Nat} (h1 : h[1]? = some (oB 1 (lC G (nI nb) (nI sp) (nI fa) (nI ve)))) (h2 : h[2]? = some (aI 20 (nA m))) (h3 : h[3]? = some (aI 20 (nA se))) (h4 : h[4]? = some (aI 4 (nA ye))) (h5 : h[5]? = some (aI 4 (nA fi))) (h6 : h[6]? = some (aI 40 W)) (h7 : h[7]? = some (aI 40 Sn)) (h8 : h[8]? = some (aI 40 Z)) (h9 : h[9]? = some (aI 40 Ro)) (h10 : h[10]? = some (aI 40 Co)) (h11 : h[11]? = some (aL 40 Ba)) (hm : ∀ j, j < 20 → m j ≤ j) (bw : w < 20) (bo : o ≤ w) : CE l G yX1_tellMeaning cX1_tellMeaning 5 (some .int) 1 0 0 [.ref (G.1 + 1), .int (nI w), .int (nI o)] h (some (.int (nI (m w)))) (fun h1 => ∃ se1 : Nat → Nat, ∃ Sn1 : Nat → Int32, h1[1]? = some (oB 1 (lC G (nI nb) (nI sp) (nI fa) (nI (ve + 1)))) ∧ h1[2]? = some (aI 20 (nA (un m w o))) ∧ h1[3]? = some (aI 20 (nA se1)) ∧ h1[4]? = some (aI 4 (nA ye)) ∧ h1[5]? = some (aI 4 (nA fi)) ∧ h1[6]? = some (aI 40 W) ∧ h1[7]? = some (aI 40 Sn1) ∧ h1[8]? = some (aI 40 Z) ∧ h1[9]? = some (aI 40 Ro) ∧ h1[10]? = some (aI 40 Co) ∧ h1[11]? = some (aL 40 Ba) ∧ rng 1 11 h h1 ∧ (∀ j, j < 20 → se1 j = root (un m w o) j) ∧ (∀ j, j < 40 → Sn1 j = snF se1 (W j) 20)) := by
  refine cm_ofQ rfl (Nat.le_of_ble_eq_true rfl) [(0, .ref (G.1 + 1)), (1, .int (nI w)), (2, .int (nI o))] rfl (fun QF hQF => ?_)
  refine aw_aload_n 0 dX1_tellMeaning_0 rfl rfl ?_
  refine aw_get fX1_9 dX1_tellMeaning_1 h1 rfl ?_
  refine aw_iload_n 1 dX1_tellMeaning_4 rfl rfl ?_
  refine aw_iald w (rfl) (by omega) (by decide) dX1_tellMeaning_5 h2 ?_
  refine aw_toe (nI (m w)) (rfl) ?_
  refine aw_istore_n [(3, .int (nI (m w))), (0, .ref (G.1 + 1)), (1, .int (nI w)), (2, .int (nI o))] dX1_tellMeaning_6 rfl (by decide) rfl ?_
  refine aw_aload_n 1 dX1_tellMeaning_7 rfl rfl ?_
  refine aw_get fX1_9 dX1_tellMeaning_8 h1 rfl ?_
  refine aw_iload_n 2 dX1_tellMeaning_11 rfl rfl ?_
  refine aw_iload_n 3 dX1_tellMeaning_12 rfl rfl ?_
  refine aw_iast w (rfl) (by omega) (by decide) dX1_tellMeaning_13 h2 ?_
  rw [nA_u (f := m) (i := w) (x := (nI o)) (v := o) (rfl)]
  refine aw_iconst (0) dX1_tellMeaning_14 (by decide) ?_
  refine aw_istore [(4, .int 0), (3, .int (nI (m w))), (0, .ref (G.1 + 1)), (1, .int (nI w)), (2, .int (nI o))] dX1_tellMeaning_15 (by decide) rfl ?_
  refine aw_lv [(4, .int 0), (3, .int (nI (m w))), (2, .int (nI o)), (1, .int (nI w)), (0, .ref (G.1 + 1))] [0, 1, 4, 3, 2] rfl ?_
  suffices L14 : ∀ (mm : Nat) (i : Nat) (s1 : Nat → Nat) (h1 : List va_E), 20 - i < mm → (i ≤ 20) → (∀ j, j < i → s1 j = root (un m w o) j) → h1[1]? = some (oB 1 (lC G (nI nb) (nI sp) (nI fa) (nI ve))) → h1[2]? = some (aI 20 (nA (un m w o))) → h1[3]? = some (aI 20 (nA s1)) → h1[4]? = some (aI 4 (nA ye)) → h1[5]? = some (aI 4 (nA fi)) → h1[6]? = some (aI 40 W) → h1[7]? = some (aI 40 Sn) → h1[8]? = some (aI 40 Z) → h1[9]? = some (aI 40 Ro) → h1[10]? = some (aI 40 Co) → h1[11]? = some (aL 40 Ba) → rng 1 11 h h1 → AW l G yX1_tellMeaning cX1_tellMeaning 5 (some .int) (xR 1 0 0) (fun _ _ => True) QF 0 0 17 [(4, .int (nI i)), (3, .int (nI (m w))), (2, .int (nI o)), (1, .int (nI w)), (0, .ref (G.1 + 1))] [] h1 from L14 (20 - 0 + 1) 0 se _ (Nat.lt_succ_self _) (Nat.zero_le _) (fun j hj => absurd hj (by omega)) (gn (by decide) (h1)) (gs h2) (gn (by decide) (h3)) (gn (by decide) (h4)) (gn (by decide) (h5)) (gn (by decide) (h6)) (gn (by decide) (h7)) (gn (by decide) (h8)) (gn (by decide) (h9)) (gn (by decide) (h10)) (gn (by decide) (h11)) (rng_set (rng_rf 1 11 h) (by decide) (by decide))
  intro mm
  induction mm with
  | zero =>
    intro i s1 h1 hmm hi hr f2 f3 f4 f5 f6 f7 f8 f9 f10 f11 f12 k13
    exact absurd hmm (Nat.not_lt_zero _)
  | succ mm ih14 =>
    intro i s1 h1 hmm hi hr f2 f3 f4 f5 f6 f7 f8 f9 f10 f11 f12 k13
    have hmu : ∀ j, j < 20 → un m w o j ≤ j := by
      intro j hj
      by_cases e : j = w
      · rw [e, un_s]; omega
      · rw [un_n e]; exact hm j hj
    refine aw_iload 0 dX1_tellMeaning_17 rfl ?_
    refine aw_bipush (20) dX1_tellMeaning_19 (by decide) ?_
    refine aw_icmp_ge 66 dX1_tellMeaning_21 (by decide) (fun c21 => ?_) (fun c21 => ?_)
    · have d21 := (nv_le (a := 20) (b := i) (rfl) (rfl) (by omega) (by omega)).mp c21
      refine aw_iconst (0) dX1_tellMeaning_66 (by decide) ?_
      refine aw_istore [(4, .int 0), (3, .int (nI (m w))), (2, .int (nI o)), (1, .int (nI w)), (0, .ref (G.1 + 1))] dX1_tellMeaning_67 (by decide) rfl ?_
      have e20 : i = 20 := by omega
      subst e20
      refine aw_lv [(4, .int 0), (3, .int (nI (m w))), (2, .int (nI o)), (1, .int (nI w)), (0, .ref (G.1 + 1))] [0, 1, 2, 3, 4] rfl ?_
      suffices L28 : ∀ (mm : Nat) (e : Nat) (S1 : Nat → Int32) (h15 : List va_E), 40 - e < mm → (e ≤ 40) → (∀ j, j < e → S1 j = snF s1 (W j) 20) → h15[1]? = some (oB 1 (lC G (nI nb) (nI sp) (nI fa) (nI ve))) → h15[2]? = some (aI 20 (nA (un m w o))) → h15[3]? = some (aI 20 (nA s1)) → h15[4]? = some (aI 4 (nA ye)) → h15[5]? = some (aI 4 (nA fi)) → h15[6]? = some (aI 40 W) → h15[7]? = some (aI 40 S1) → h15[8]? = some (aI 40 Z) → h15[9]? = some (aI 40 Ro) → h15[10]? = some (aI 40 Co) → h15[11]? = some (aL 40 Ba) → rng 1 11 h h15 → AW l G yX1_tellMeaning cX1_tellMeaning 5 (some .int) (xR 1 0 0) (fun _ _ => True) QF 0 0 69 [(4, .int (nI e)), (3, .int (nI (m w))), (2, .int (nI o)), (1, .int (nI w)), (0, .ref (G.1 + 1))] [] h15 from L28 (40 - 0 + 1) 0 Sn _ (Nat.lt_succ_self _) (Nat.zero_le _) (fun j hj => absurd hj (by omega)) f2 f3 f4 f5 f6 f7 f8 f9 f10 f11 f12 (k13)
      intro mm
      induction mm with
      | zero =>
        intro e S1 h15 hmm he hS f16 f17 f18 f19 f20 f21 f22 f23 f24 f25 f26 k27
        exact absurd hmm (Nat.not_lt_zero _)
      | succ mm ih28 =>
        intro e S1 h15 hmm he hS f16 f17 f18 f19 f20 f21 f22 f23 f24 f25 f26 k27
        refine aw_iload 0 dX1_tellMeaning_69 rfl ?_
        refine aw_aload_n 4 dX1_tellMeaning_71 rfl rfl ?_
        refine aw_get fX1_24 dX1_tellMeaning_72 f16 rfl ?_
        refine aw_alen (40) dX1_tellMeaning_75 f21 rfl rfl ?_
        refine aw_icmp_ge 103 dX1_tellMeaning_76 (by decide) (fun c76 => ?_) (fun c76 => ?_)
        · have d76 := (nv_le (a := 40) (b := e) (rfl) (rfl) (by omega) (by omega)).mp c76
          refine aw_aload_n 4 dX1_tellMeaning_103 rfl rfl ?_
          refine aw_dup dX1_tellMeaning_104 rfl ?_
          refine aw_get fX1_53 dX1_tellMeaning_105 f16 rfl ?_
          refine aw_iconst (1) dX1_tellMeaning_108 (by decide) ?_
          refine aw_iadd dX1_tellMeaning_109 ?_
          refine aw_toe (nI (ve + 1)) (nv_add (rfl) (rfl)) ?_
          refine aw_putQ fX1_53 dX1_tellMeaning_110 (lC G (nI nb) (nI sp) (nI fa) (nI (ve + 1))) f16 rfl rfl rfl (Nat.le_of_ble_eq_true rfl) rfl ?_
          refine aw_iload_n 1 dX1_tellMeaning_113 rfl rfl ?_
          subst hQF
          exact aw_iret rfl dX1_tellMeaning_114 (by decide) (by decide) ⟨rfl, _, _, (gs f16), (gn (by decide) (f17)), (gn (by decide) (f18)), (gn (by decide) (f19)), (gn (by decide) (f20)), (gn (by decide) (f21)), (gn (by decide) (f22)), (gn (by decide) (f23)), (gn (by decide) (f24)), (gn (by decide) (f25)), (gn (by decide) (f26)), rng_set (k27) (by decide) (by decide), hr, by rw [show 40 = e by omega]; exact hS⟩
        · have d76 := mt (nv_le (a := 40) (b := e) (rfl) (rfl) (by omega) (by omega)).mpr c76
          refine aw_aload_n 4 dX1_tellMeaning_79 rfl rfl ?_
          refine aw_get fX1_27 dX1_tellMeaning_80 f16 rfl ?_
          refine aw_iload 0 dX1_tellMeaning_83 rfl ?_
          refine aw_aload_n 4 dX1_tellMeaning_85 rfl rfl ?_
          refine aw_aload_n 4 dX1_tellMeaning_86 rfl rfl ?_
          refine aw_get fX1_24 dX1_tellMeaning_87 f16 rfl ?_
          refine aw_iload 0 dX1_tellMeaning_90 rfl ?_
          refine aw_iald e (rfl) (by omega) (by decide) dX1_tellMeaning_92 f21 ?_
          refine aw_dV [.int (W e)] [.int (nI e), .ref (G.1 + 7)] lX1_56 vX1_sensesOf mX1_sensesOf dX1_tellMeaning_93 (gX1_sensesOf (nb := nb) (sp := sp) (fa := fa) (w := W e) (se := s1) f16 f18) f16 rfl rfl rfl (Nat.le_of_ble_eq_true rfl) (by decide) (by decide) rfl ?_
          refine aw_iast e (rfl) (by omega) (by decide) dX1_tellMeaning_96 f22 ?_
          refine aw_iinc (j := 0) (nI (e + 1)) [(4, .int (nI (e + 1))), (3, .int (nI (m w))), (2, .int (nI o)), (1, .int (nI w)), (0, .ref (G.1 + 1))] dX1_tellMeaning_97 rfl (nv_inc (rfl)) (by decide) rfl ?_
          refine aw_goto 69 dX1_tellMeaning_100 (by decide) ?_
          refine aw_lv [(4, .int (nI (e + 1))), (3, .int (nI (m w))), (2, .int (nI o)), (1, .int (nI w)), (0, .ref (G.1 + 1))] [0, 1, 2, 3, 4] rfl ?_
          exact ih28 (e + 1) (upd S1 e (snF s1 (W e) 20)) _ (by omega) (by omega) (fun j hj => by
              by_cases hji : j = e
              · rw [hji]; simp [upd]
              · simp only [upd, if_neg hji]; exact hS j (by omega)) (gn (by decide) (f16)) (gn (by decide) (f17)) (gn (by decide) (f18)) (gn (by decide) (f19)) (gn (by decide) (f20)) (gn (by decide) (f21)) (gs f22) (gn (by decide) (f23)) (gn (by decide) (f24)) (gn (by decide) (f25)) (gn (by decide) (f26)) (rng_set (k27) (by decide) (by decide))
    · have d21 := mt (nv_le (a := 20) (b := i) (rfl) (rfl) (by omega) (by omega)).mpr c21
      refine aw_aload_n 4 dX1_tellMeaning_24 rfl rfl ?_
      refine aw_get fX1_15 dX1_tellMeaning_25 f2 rfl ?_
      refine aw_iload 0 dX1_tellMeaning_28 rfl ?_
      refine aw_aload_n 4 dX1_tellMeaning_30 rfl rfl ?_
      refine aw_get fX1_9 dX1_tellMeaning_31 f2 rfl ?_
      refine aw_iload 0 dX1_tellMeaning_34 rfl ?_
      refine aw_iald i (rfl) (by omega) (by decide) dX1_tellMeaning_36 f3 ?_
      refine aw_toe (nI ((un m w o) i)) (rfl) ?_
      have b29 := hmu i (by omega)
      refine aw_iload 0 dX1_tellMeaning_37 rfl ?_
      refine aw_icmp_ne 47 dX1_tellMeaning_39 (by decide) (fun c39 => ?_) (fun c39 => ?_)
      · have d39 := mt (nv_eq (a := (un m w o) i) (b := i) (rfl) (rfl) (by omega) (by omega)).mpr c39
        refine aw_aload_n 4 dX1_tellMeaning_47 rfl rfl ?_
        refine aw_get fX1_15 dX1_tellMeaning_48 f2 rfl ?_
        refine aw_aload_n 4 dX1_tellMeaning_51 rfl rfl ?_
        refine aw_get fX1_9 dX1_tellMeaning_52 f2 rfl ?_
        refine aw_iload 0 dX1_tellMeaning_55 rfl ?_
        refine aw_iald i (rfl) (by omega) (by decide) dX1_tellMeaning_57 f3 ?_
        refine aw_toe (nI ((un m w o) i)) (rfl) ?_
        have b30 := hmu i (by omega)
        refine aw_iald ((un m w o) i) (rfl) (by omega) (by decide) dX1_tellMeaning_58 f4 ?_
        refine aw_toe (nI (s1 ((un m w o) i))) (rfl) ?_
        refine aw_iast i (rfl) (by omega) (by decide) dX1_tellMeaning_59 f4 ?_
        rw [nA_u (f := s1) (i := i) (x := (nI (s1 ((un m w o) i)))) (v := s1 ((un m w o) i)) (rfl)]
        refine aw_iinc (j := 0) (nI (i + 1)) [(4, .int (nI (i + 1))), (3, .int (nI (m w))), (2, .int (nI o)), (1, .int (nI w)), (0, .ref (G.1 + 1))] dX1_tellMeaning_60 rfl (nv_inc (rfl)) (by decide) rfl ?_
        refine aw_goto 17 dX1_tellMeaning_63 (by decide) ?_
        refine aw_lv [(4, .int (nI (i + 1))), (3, .int (nI (m w))), (2, .int (nI o)), (1, .int (nI w)), (0, .ref (G.1 + 1))] [0, 1, 2, 3, 4] rfl ?_
        exact ih14 (i + 1) (un s1 i (s1 ((un m w o) i))) _ (by omega) (by omega) (fun j hj => by
            by_cases hji : j = i
            · have hlt : un m w o i < i := by omega
              rw [hji, un_s, root_st hlt]; exact hr _ hlt
            · rw [un_n hji]; exact hr j (by omega)) (gn (by decide) (f2)) (gn (by decide) (f3)) (gs f4) (gn (by decide) (f5)) (gn (by decide) (f6)) (gn (by decide) (f7)) (gn (by decide) (f8)) (gn (by decide) (f9)) (gn (by decide) (f10)) (gn (by decide) (f11)) (gn (by decide) (f12)) (rng_set (k13) (by decide) (by decide))
      · have d39 := (nv_eq (a := (un m w o) i) (b := i) (rfl) (rfl) (by omega) (by omega)).mp c39
        refine aw_iload 0 dX1_tellMeaning_42 rfl ?_
        refine aw_goto 59 dX1_tellMeaning_44 (by decide) ?_
        refine aw_iast i (rfl) (by omega) (by decide) dX1_tellMeaning_59 f4 ?_
        rw [nA_u (f := s1) (i := i) (x := (nI i)) (v := i) (rfl)]
        refine aw_iinc (j := 0) (nI (i + 1)) [(4, .int (nI (i + 1))), (3, .int (nI (m w))), (2, .int (nI o)), (1, .int (nI w)), (0, .ref (G.1 + 1))] dX1_tellMeaning_60 rfl (nv_inc (rfl)) (by decide) rfl ?_
        refine aw_goto 17 dX1_tellMeaning_63 (by decide) ?_
        refine aw_lv [(4, .int (nI (i + 1))), (3, .int (nI (m w))), (2, .int (nI o)), (1, .int (nI w)), (0, .ref (G.1 + 1))] [0, 1, 2, 3, 4] rfl ?_
        exact ih14 (i + 1) (un s1 i i) _ (by omega) (by omega) (fun j hj => by
            by_cases hji : j = i
            · rw [hji, un_s, root_fix (by omega)]
            · rw [un_n hji]; exact hr j (by omega)) (gn (by decide) (f2)) (gn (by decide) (f3)) (gs f4) (gn (by decide) (f5)) (gn (by decide) (f6)) (gn (by decide) (f7)) (gn (by decide) (f8)) (gn (by decide) (f9)) (gn (by decide) (f10)) (gn (by decide) (f11)) (gn (by decide) (f12)) (rng_set (k13) (by decide) (by decide))
abbrev lSh (G : xG) (S : Nat) (a b c d e : Int32) : List Value := [.ref (G.1 + (S + 1)), .ref (G.1 + (S + 2)), .ref (G.1 + (S + 3)), .ref (G.1 + (S + 4)), .ref (G.1 + (S + 5)), .ref (G.1 + (S + 6)), .ref (G.1 + (S + 7)), .ref (G.1 + (S + 8)), .ref (G.1 + (S + 9)), .int a, .int b, .int c, .int d, .int e]
/-- the things of a shelf: how many, which, their places -/
def rtF (st : Nat) (tg : Nat → Int32) (po : Nat → Nat) : Nat → Nat × (Nat → Int32) × (Nat → Nat)
  | 0 => (0, tg, po)
  | a + 1 => if st.testBit a = true ∧ (rtF st tg po a).1 < 8 then ((rtF st tg po a).1 + 1, upd (rtF st tg po a).2.1 (rtF st tg po a).1 (nI a), un (rtF st tg po a).2.2 a (rtF st tg po a).1) else rtF st tg po a
theorem rtF_s {st : Nat} {tg : Nat → Int32} {po : Nat → Nat} {a : Nat} : rtF st tg po (a + 1) = if st.testBit a = true ∧ (rtF st tg po a).1 < 8 then ((rtF st tg po a).1 + 1, upd (rtF st tg po a).2.1 (rtF st tg po a).1 (nI a), un (rtF st tg po a).2.2 a (rtF st tg po a).1) else rtF st tg po a := rfl
theorem rtF_ok {st : Nat} {tg : Nat → Int32} {po : Nat → Nat} (hp : ∀ j, j < 12 → po j < 8) : ∀ a, (rtF st tg po a).1 ≤ 8 ∧ ∀ j, j < 12 → (rtF st tg po a).2.2 j < 8 := by
  intro a
  induction a with
  | zero => exact ⟨Nat.zero_le _, hp⟩
  | succ a ih =>
    rw [rtF_s]
    split
    · refine ⟨?_, un_lt ih.2 ?_⟩ <;> first | omega | (dsimp only; omega)
    · exact ih
abbrev trT : Type := (Nat → Int32) × (Nat → Int32) × (Nat → Int32) × (Nat → Int32)
/-- a word's trust: left of, beside, left end, right end -/
def atF (s o k : Nat) (t : Int32) (T : trT) : trT :=
  if s = 0 then (upd T.1 (o * 8 + k) (T.1 (o * 8 + k) + t), T.2.1, T.2.2.1, T.2.2.2)
  else if s = 1 then (T.1, upd (upd T.2.1 (o * 8 + k) (T.2.1 (o * 8 + k) + t)) (k * 8 + o) (upd T.2.1 (o * 8 + k) (T.2.1 (o * 8 + k) + t) (k * 8 + o) + t), T.2.2.1, T.2.2.2)
  else if s = 2 then (T.1, T.2.1, upd T.2.2.1 o (T.2.2.1 o + t), T.2.2.2)
  else (T.1, T.2.1, T.2.2.1, upd T.2.2.2 o (T.2.2.2 o + t))
/-- the total and the trusts of the first words of a shelf -/
def twF (st : Nat) (so x y tr : Nat → Nat) (po : Nat → Nat) (T : trT) : Nat → Int32 × trT
  | 0 => (0, T)
  | a + 1 => if st.testBit (x a) = true ∧ st.testBit (y a) = true then ((twF st so x y tr po T a).1 + nI (tr a), atF (so a) (po (x a)) (po (y a)) (nI (tr a)) (twF st so x y tr po T a).2) else twF st so x y tr po T a
theorem twF_s {st : Nat} {so x y tr po : Nat → Nat} {T : trT} {a : Nat} : twF st so x y tr po T (a + 1) = if st.testBit (x a) = true ∧ st.testBit (y a) = true then ((twF st so x y tr po T a).1 + nI (tr a), atF (so a) (po (x a)) (po (y a)) (nI (tr a)) (twF st so x y tr po T a).2) else twF st so x y tr po T a := rfl
def gbF (le re : Nat → Int32) (sz st nx : Nat) : Int32 :=
  if st ||| 2 ^ nx = 2 ^ sz - 1 then (if st = 0 then le nx else 0) + re nx else (if st = 0 then le nx else 0)
/-- what a thing brings if it comes next -/
def glF (le re lf : Nat → Int32) (sz st nx : Nat) : Nat → Int32
  | 0 => gbF le re sz st nx
  | i + 1 => if st.testBit i = true then glF le re lf sz st nx i + lf (i * 8 + nx) else glF le re lf sz st nx i
def gaF (le re lf : Nat → Int32) (sz st : Nat) (gn : Nat → Int32) : Nat → Nat → Int32
  | 0 => gn
  | a + 1 => upd (gaF le re lf sz st gn a) a (glF le re lf sz st a sz)
def vaF (gn bs be : Nat → Int32) (st la nx : Nat) : Int32 := if st = 0 then gn nx + bs ((st ||| 2 ^ nx) * 8 + nx) else gn nx + bs ((st ||| 2 ^ nx) * 8 + nx) + be (la * 8 + nx)
def wsF (gn bs be : Nat → Int32) (st la : Nat) : Nat → Int32
  | 0 => 0
  | i + 1 => if st.testBit i = true then wsF gn bs be st la i else if wsF gn bs be st la i < vaF gn bs be st la i then vaF gn bs be st la i else wsF gn bs be st la i
def fbF (gn bs be : Nat → Int32) (st la : Nat) (mo : Int32) : Nat → Nat → Nat
  | 0, _ => 0
  | f + 1, i => if st.testBit i = true then fbF gn bs be st la mo f (i + 1) else if vaF gn bs be st la i = mo then i else fbF gn bs be st la mo f (i + 1)
theorem fbF_lt {gn bs be : Nat → Int32} {st la : Nat} {mo : Int32} : ∀ f i, fbF gn bs be st la mo f i = 0 ∨ fbF gn bs be st la mo f i < i + f
  | 0, _ => Or.inl rfl
  | f + 1, i => by
    have q := fbF_lt (gn := gn) (bs := bs) (be := be) (st := st) (la := la) (mo := mo) f (i + 1)
    simp only [fbF]
    split
    · omega
    · split <;> omega
theorem or_lt8' {a b : Nat} (ha : a < 256) (hb : b < 8) : (a ||| 2 ^ b) * 8 + b < 2048 := by have := or_lt8 ha hb; omega
def wlF (gn be : Nat → Int32) (sz st : Nat) (bs : Nat → Int32) : Nat → Nat → Int32
  | 0 => bs
  | i + 1 => if st.testBit i = true then upd (wlF gn be sz st bs i) (st * 8 + i) (wsF gn (wlF gn be sz st bs i) be st i sz) else wlF gn be sz st bs i
/-- best and gains, the states from w down to 1 -/
def wtF (le re lf be : Nat → Int32) (sz : Nat) : Nat → (Nat → Int32) × (Nat → Int32) → (Nat → Int32) × (Nat → Int32)
  | 0, T => T
  | w + 1, T => wtF le re lf be sz w (wlF (gaF le re lf sz (w + 1) T.2 sz) be sz (w + 1) T.1 sz, gaF le re lf sz (w + 1) T.2 sz)
def wzF (w : Nat) (bs : Nat → Int32) : Nat → Nat → Int32
  | 0 => bs
  | i + 1 => upd (wzF w bs i) (w * 8 + i) 0
/-- the row told: standing, last, gains, told -/
def trF (le re lf be bs tg : Nat → Int32) (sz : Nat) (gn to : Nat → Int32) : Nat → Nat × Nat × (Nat → Int32) × (Nat → Int32)
  | 0 => (0, 0, gn, to)
  | a + 1 =>
    let s := trF le re lf be bs tg sz gn to a
    let g := gaF le re lf sz s.1 s.2.2.1 sz
    let k := fbF g bs be s.1 s.2.1 (wsF g bs be s.1 s.2.1 sz) sz 0
    (s.1 ||| 2 ^ k, k, g, upd s.2.2.2 a (tg k))
theorem trF_ok {le re lf be bs tg : Nat → Int32} {sz : Nat} {gn to : Nat → Int32} (hs : sz ≤ 8) (h0 : 0 < sz) : ∀ a, (trF le re lf be bs tg sz gn to a).1 < 256 ∧ (trF le re lf be bs tg sz gn to a).2.1 < 8 := by
  intro a
  induction a with
  | zero => exact ⟨by simp [trF], by simp [trF]⟩
  | succ a ih =>
    simp only [trF]
    have q := fbF_lt (gn := gaF le re lf sz (trF le re lf be bs tg sz gn to a).1 (trF le re lf be bs tg sz gn to a).2.2.1 sz) (bs := bs) (be := be) (st := (trF le re lf be bs tg sz gn to a).1) (la := (trF le re lf be bs tg sz gn to a).2.1) (mo := wsF (gaF le re lf sz (trF le re lf be bs tg sz gn to a).1 (trF le re lf be bs tg sz gn to a).2.2.1 sz) bs be (trF le re lf be bs tg sz gn to a).1 (trF le re lf be bs tg sz gn to a).2.1 sz) sz 0
    exact ⟨or_lt8 ih.1 (by omega), by omega⟩
theorem pw8 : ∀ p, p ≤ 8 → 2 ^ p ≤ 256 ∧ 1 ≤ 2 ^ p := by decide
theorem up_all {f : Nat → Int32} {k : Nat} {v : Int32} (h : ∀ j, j < k → f j = v) : ∀ j, j < k + 1 → upd f k v j = v := by
  intro j hj
  by_cases e : j = k
  · rw [e]; simp [upd]
  · simp only [upd, if_neg e]; exact h j (by omega)
theorem pw2 : ∀ p, p ≤ 8 → 0 < p → 2 ≤ 2 ^ p := by decide
