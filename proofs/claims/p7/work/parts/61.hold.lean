/-- an array's first places hold a stack -/
def stk (LE : Nat → Int32) : List Int32 → Prop
  | [] => True
  | x :: s => LE s.length = x ∧ stk LE s
theorem stk_up {LE : Nat → Int32} {v : Int32} : ∀ (s : List Int32) (n : Nat), s.length ≤ n → stk LE s → stk (upd LE n v) s
  | [], _, _, _ => trivial
  | x :: s, n, hn, h => ⟨by have q : s.length ≠ n := by simp at hn; omega
                            simp only [upd, if_neg q]; exact h.1, stk_up s n (by simp at hn; omega) h.2⟩
abbrev hsT : Type := List Int32 × Int32 × Int32 × Int32
def foF (s : Nat) (p : Int32) (T : hsT) : hsT :=
  if s = 3 then (T.2.1 :: T.1, p, T.2.2.1, T.2.2.2)
  else if s = 4 then (match T.1 with
    | [] => T
    | x :: t => (t, x, T.2.2.1, T.2.2.2))
  else ([], p, if s = 2 then -9 else p, if s = 2 then 1 else 0)
theorem foF_len (s : Nat) (p : Int32) (T : hsT) : (foF s p T).1.length ≤ T.1.length + 1 := by
  unfold foF
  split
  · simp
  · split
    · cases e : T.1 with
      | nil => simp [e]
      | cons x t => simp; omega
    · simp
def rpF (th ot dy so kn go od : Nat → Nat) (t d k : Nat) : Nat → hsT
  | 0 => ([], -9, -9, 0)
  | a + 1 => if dy (od a) ≤ d ∧ th (od a) = t ∧ kn (od a) ≤ k ∧ k < go (od a) then foF (so (od a)) (nI (ot (od a))) (rpF th ot dy so kn go od t d k a) else rpF th ot dy so kn go od t d k a
theorem rpF_s {th ot dy so kn go od : Nat → Nat} {t d k a : Nat} : rpF th ot dy so kn go od t d k (a + 1) = if dy (od a) ≤ d ∧ th (od a) = t ∧ kn (od a) ≤ k ∧ k < go (od a) then foF (so (od a)) (nI (ot (od a))) (rpF th ot dy so kn go od t d k a) else rpF th ot dy so kn go od t d k a := rfl
theorem rpF_len {th ot dy so kn go od : Nat → Nat} {t d k : Nat} : ∀ a, (rpF th ot dy so kn go od t d k a).1.length ≤ a := by
  intro a
  induction a with
  | zero => exact Nat.le_refl _
  | succ a ih =>
    rw [rpF_s]
    split
    · have q := foF_len (so (od a)) (nI (ot (od a))) (rpF th ot dy so kn go od t d k a)
      omega
    · omega
def hsF (LC : Nat → Nat) (HO : Nat → Int32) (now : Int32) : Nat → Nat → Nat
  | 0, _ => 0
  | f + 1, last => if LC last = 0 then 0 else if HO (LC last - 1) = now then hsF LC HO now f (LC last - 1) else LC last
set_option maxHeartbeats 4000000 in
theorem aX2_follow {l : Launch} {G : xG} {h : List va_E} {T : hsT} {LE : Nat → Int32} {s : Nat} {p : Int32} (h77 : h[77]? = some (oB 2 (lH G (nI T.1.length) T.2.1 T.2.2.1 T.2.2.2))) (h78 : h[78]? = some (aI 60 LE)) (hs : stk LE T.1) (hl : T.1.length < 60) (bs : s < 5) : CE l G yX2_follow cX2_follow 3 none 0 0 0 [.ref (G.1 + 77), .int (nI s), .int p] h none (fun h1 => ∃ LE1 : Nat → Int32, h1[77]? = some (oB 2 (lH G (nI ((foF s p T).1.length)) ((foF s p T).2.1) ((foF s p T).2.2.1) ((foF s p T).2.2.2))) ∧ h1[78]? = some (aI 60 LE1) ∧ rng 77 78 h h1 ∧ stk LE1 (foF s p T).1) := by
  refine cm_ofQ rfl (Nat.le_of_ble_eq_true rfl) [(0, .ref (G.1 + 77)), (1, .int (nI s)), (2, .int p)] rfl (fun QF hQF => ?_)
  refine aw_iload_n 1 dX2_follow_0 rfl rfl ?_
  refine aw_iconst (3) dX2_follow_1 (by decide) ?_
  refine aw_icmp_ne 36 dX2_follow_2 (by decide) (fun c2 => ?_) (fun c2 => ?_)
  · have d2 := mt (nv_eq (a := s) (b := 3) (rfl) (rfl) (by omega) (by omega)).mpr c2
    refine aw_iload_n 1 dX2_follow_36 rfl rfl ?_
    refine aw_iconst (4) dX2_follow_37 (by decide) ?_
    refine aw_icmp_ne 74 dX2_follow_38 (by decide) (fun c38 => ?_) (fun c38 => ?_)
    · have d38 := mt (nv_eq (a := s) (b := 4) (rfl) (rfl) (by omega) (by omega)).mpr c38
      refine aw_aload_n 0 dX2_follow_74 rfl rfl ?_
      refine aw_iconst (0) dX2_follow_75 (by decide) ?_
      refine aw_putQ fX2_15 dX2_follow_76 (lH G 0 T.2.1 T.2.2.1 T.2.2.2) h77 rfl rfl rfl (Nat.le_of_ble_eq_true rfl) rfl ?_
      refine aw_aload_n 0 dX2_follow_79 rfl rfl ?_
      refine aw_iload_n 2 dX2_follow_80 rfl rfl ?_
      refine aw_putQ fX2_19 dX2_follow_81 (lH G 0 p T.2.2.1 T.2.2.2) (gs h77) rfl rfl rfl (Nat.le_of_ble_eq_true rfl) rfl ?_
      refine aw_aload_n 0 dX2_follow_84 rfl rfl ?_
      refine aw_iload_n 1 dX2_follow_85 rfl rfl ?_
      refine aw_iconst (2) dX2_follow_86 (by decide) ?_
      refine aw_icmp_ne 94 dX2_follow_87 (by decide) (fun c87 => ?_) (fun c87 => ?_)
      · have d87 := mt (nv_eq (a := s) (b := 2) (rfl) (rfl) (by omega) (by omega)).mpr c87
        refine aw_iconst (0) dX2_follow_94 (by decide) ?_
        refine aw_putQ fX2_25 dX2_follow_95 (lH G 0 p T.2.2.1 0) (gs (gs h77)) rfl rfl rfl (Nat.le_of_ble_eq_true rfl) rfl ?_
        refine aw_aload_n 0 dX2_follow_98 rfl rfl ?_
        refine aw_aload_n 0 dX2_follow_99 rfl rfl ?_
        refine aw_get fX2_25 dX2_follow_100 (gs (gs (gs h77))) rfl ?_
        refine aw_if_eq 111 dX2_follow_103 (by decide) (fun c103 => ?_) (fun c103 => absurd (by decide) c103)
        refine aw_iload_n 2 dX2_follow_111 rfl rfl ?_
        refine aw_putQ fX2_22 dX2_follow_112 (lH G 0 p p 0) (gs (gs (gs h77))) rfl rfl rfl (Nat.le_of_ble_eq_true rfl) rfl ?_
        subst hQF
        have eF : foF s p T = ([], p, p, 0) := by unfold foF; rw [if_neg (by omega), if_neg (by omega)]; rw [if_neg (by omega), if_neg (by omega)]
        exact aw_vret rfl dX2_follow_115 (by decide) (by decide) ⟨rfl, _, by rw [eF]; exact (gs (gs (gs (gs h77)))), (gn (by decide) (gn (by decide) (gn (by decide) (gn (by decide) (h78))))), rng_set (rng_set (rng_set (rng_set (rng_rf 77 78 h) (by decide) (by decide)) (by decide) (by decide)) (by decide) (by decide)) (by decide) (by decide), by rw [eF]; exact trivial⟩
      · have d87 := (nv_eq (a := s) (b := 2) (rfl) (rfl) (by omega) (by omega)).mp c87
        refine aw_iconst (1) dX2_follow_90 (by decide) ?_
        refine aw_goto 95 dX2_follow_91 (by decide) ?_
        refine aw_putQ fX2_25 dX2_follow_95 (lH G 0 p T.2.2.1 1) (gs (gs h77)) rfl rfl rfl (Nat.le_of_ble_eq_true rfl) rfl ?_
        refine aw_aload_n 0 dX2_follow_98 rfl rfl ?_
        refine aw_aload_n 0 dX2_follow_99 rfl rfl ?_
        refine aw_get fX2_25 dX2_follow_100 (gs (gs (gs h77))) rfl ?_
        refine aw_if_eq 111 dX2_follow_103 (by decide) (fun c103 => absurd c103 (by decide)) (fun c103 => ?_)
        refine aw_bipush (-9) dX2_follow_106 (by decide) ?_
        refine aw_goto 112 dX2_follow_108 (by decide) ?_
        refine aw_putQ fX2_22 dX2_follow_112 (lH G 0 p (-9) 1) (gs (gs (gs h77))) rfl rfl rfl (Nat.le_of_ble_eq_true rfl) rfl ?_
        subst hQF
        have eF : foF s p T = ([], p, (-9), 1) := by unfold foF; rw [if_neg (by omega), if_neg (by omega)]; rw [if_pos (by omega), if_pos (by omega)]
        exact aw_vret rfl dX2_follow_115 (by decide) (by decide) ⟨rfl, _, by rw [eF]; exact (gs (gs (gs (gs h77)))), (gn (by decide) (gn (by decide) (gn (by decide) (gn (by decide) (h78))))), rng_set (rng_set (rng_set (rng_set (rng_rf 77 78 h) (by decide) (by decide)) (by decide) (by decide)) (by decide) (by decide)) (by decide) (by decide), by rw [eF]; exact trivial⟩
    · have d38 := (nv_eq (a := s) (b := 4) (rfl) (rfl) (by omega) (by omega)).mp c38
      refine aw_aload_n 0 dX2_follow_41 rfl rfl ?_
      refine aw_get fX2_15 dX2_follow_42 h77 rfl ?_
      refine aw_if_le 115 dX2_follow_45 (by decide) (fun c45 => ?_) (fun c45 => ?_)
      · have d45 := (nv_le (a := T.1.length) (b := 0) (rfl) (rfl) (by omega) (by omega)).mp c45
        subst hQF
        have e0 : T.1 = [] := List.eq_nil_of_length_eq_zero (by omega)
        have eF : foF s p T = T := by unfold foF; rw [if_neg (by omega), if_pos (by omega), e0]
        exact aw_vret rfl dX2_follow_115 (by decide) (by decide) ⟨rfl, _, by rw [eF]; exact h77, h78, rng_rf 77 78 h, by rw [eF]; exact hs⟩
      · have d45 := mt (nv_le (a := T.1.length) (b := 0) (rfl) (rfl) (by omega) (by omega)).mpr c45
        obtain ⟨x0, t0, eT⟩ : ∃ x t, T.1 = x :: t := by cases e : T.1 with | nil => (rw [e] at d45; exact absurd d45 (by simp)) | cons x t => exact ⟨x, t, rfl⟩
        have hs2 : stk LE (x0 :: t0) := eT ▸ hs
        have hs2x : LE (T.1.length - 1) = x0 := by rw [eT]; exact hs2.1
        refine aw_aload_n 0 dX2_follow_48 rfl rfl ?_
        refine aw_dup dX2_follow_49 rfl ?_
        refine aw_get fX2_15 dX2_follow_50 h77 rfl ?_
        refine aw_iconst (1) dX2_follow_53 (by decide) ?_
        refine aw_isub dX2_follow_54 ?_
        refine aw_toe (nI (T.1.length - 1)) (nv_sub (rfl) (rfl) (by omega)) ?_
        refine aw_putQ fX2_15 dX2_follow_55 (lH G (nI (T.1.length - 1)) T.2.1 T.2.2.1 T.2.2.2) h77 rfl rfl rfl (Nat.le_of_ble_eq_true rfl) rfl ?_
        refine aw_aload_n 0 dX2_follow_58 rfl rfl ?_
        refine aw_aload_n 0 dX2_follow_59 rfl rfl ?_
        refine aw_get fX2_9 dX2_follow_60 (gs h77) rfl ?_
        refine aw_aload_n 0 dX2_follow_63 rfl rfl ?_
        refine aw_get fX2_15 dX2_follow_64 (gs h77) rfl ?_
        refine aw_iald (T.1.length - 1) (rfl) (by omega) (by decide) dX2_follow_67 (gn (by decide) (h78)) ?_
        refine aw_putQ fX2_19 dX2_follow_68 (lH G (nI (T.1.length - 1)) (LE (T.1.length - 1)) T.2.2.1 T.2.2.2) (gs h77) rfl rfl rfl (Nat.le_of_ble_eq_true rfl) rfl ?_
        refine aw_goto 115 dX2_follow_71 (by decide) ?_
        subst hQF
        have eF : foF s p T = (t0, x0, T.2.2.1, T.2.2.2) := by unfold foF; rw [if_neg (by omega), if_pos (by omega), eT]
        have eL : t0.length = T.1.length - 1 := by rw [eT]; simp
        exact aw_vret rfl dX2_follow_115 (by decide) (by decide) ⟨rfl, _, by rw [eF]; dsimp only; rw [eL, ← hs2x]; exact (gs (gs h77)), (gn (by decide) (gn (by decide) (h78))), rng_set (rng_set (rng_rf 77 78 h) (by decide) (by decide)) (by decide) (by decide), by rw [eF]; exact hs2.2⟩
  · have d2 := (nv_eq (a := s) (b := 3) (rfl) (rfl) (by omega) (by omega)).mp c2
    refine aw_aload_n 0 dX2_follow_5 rfl rfl ?_
    refine aw_get fX2_9 dX2_follow_6 h77 rfl ?_
    refine aw_aload_n 0 dX2_follow_9 rfl rfl ?_
    refine aw_get fX2_15 dX2_follow_10 h77 rfl ?_
    refine aw_aload_n 0 dX2_follow_13 rfl rfl ?_
    refine aw_get fX2_19 dX2_follow_14 h77 rfl ?_
    refine aw_iast T.1.length (rfl) (by omega) (by decide) dX2_follow_17 h78 ?_
    refine aw_aload_n 0 dX2_follow_18 rfl rfl ?_
    refine aw_dup dX2_follow_19 rfl ?_
    refine aw_get fX2_15 dX2_follow_20 (gn (by decide) (h77)) rfl ?_
    refine aw_iconst (1) dX2_follow_23 (by decide) ?_
    refine aw_iadd dX2_follow_24 ?_
    refine aw_toe (nI (T.1.length + 1)) (nv_add (rfl) (rfl)) ?_
    refine aw_putQ fX2_15 dX2_follow_25 (lH G (nI (T.1.length + 1)) T.2.1 T.2.2.1 T.2.2.2) (gn (by decide) (h77)) rfl rfl rfl (Nat.le_of_ble_eq_true rfl) rfl ?_
    refine aw_aload_n 0 dX2_follow_28 rfl rfl ?_
    refine aw_iload_n 2 dX2_follow_29 rfl rfl ?_
    refine aw_putQ fX2_19 dX2_follow_30 (lH G (nI (T.1.length + 1)) p T.2.2.1 T.2.2.2) (gs (gn (by decide) (h77))) rfl rfl rfl (Nat.le_of_ble_eq_true rfl) rfl ?_
    refine aw_goto 115 dX2_follow_33 (by decide) ?_
    subst hQF
    have eF : foF s p T = (T.2.1 :: T.1, p, T.2.2.1, T.2.2.2) := by unfold foF; rw [if_pos (by omega)]
    exact aw_vret rfl dX2_follow_115 (by decide) (by decide) ⟨rfl, _, by rw [eF]; exact (gs (gs (gn (by decide) (h77)))), (gn (by decide) (gn (by decide) (gs h78))), rng_set (rng_set (rng_set (rng_rf 77 78 h) (by decide) (by decide)) (by decide) (by decide)) (by decide) (by decide), by rw [eF]; exact ⟨by simp [upd], stk_up _ _ (Nat.le_refl _) hs⟩⟩
set_option maxHeartbeats 4000000 in
theorem aX2_replay {l : Launch} {G : xG} {h : List va_E} {th ot dy so kn go od : Nat → Nat} {n : Nat} {wd : Int32} {l0 o0 w0 z0 : Int32} {LE0 : Nat → Int32} {t d k : Nat} (h77 : h[77]? = some (oB 2 (lH G l0 o0 w0 z0))) (h78 : h[78]? = some (aI 60 LE0)) (h69 : h[69]? = some (oB 5 (lR G 69 (nI n) wd))) (h70 : h[70]? = some (aI 60 (nA th))) (h71 : h[71]? = some (aI 60 (nA ot))) (h72 : h[72]? = some (aI 60 (nA dy))) (h73 : h[73]? = some (aI 60 (nA so))) (h74 : h[74]? = some (aI 60 (nA kn))) (h75 : h[75]? = some (aI 60 (nA go))) (h76 : h[76]? = some (aI 60 (nA od))) (hn : n ≤ 60) (hod : srt dy od n) (bth : ∀ j, j < 60 → th j < 12) (bkn : ∀ j, j < 60 → kn j ≤ 80000) (bgo : ∀ j, j < 60 → go j ≤ 80001) (bdy : ∀ j, j < 60 → dy j ≤ 80000) (bso : ∀ j, j < 60 → so j < 5) (bt : t < 12) (bd : d ≤ 80000) (bk : k ≤ 80000) : CE l G yX2_replay cX2_replay 7 none 1 0 0 [.ref (G.1 + 77), .ref (G.1 + 69), .int (nI t), .int (nI d), .int (nI k)] h none (fun h1 => ∃ LE1 : Nat → Int32, h1[77]? = some (oB 2 (lH G (nI ((rpF th ot dy so kn go od t d k n).1.length)) ((rpF th ot dy so kn go od t d k n).2.1) ((rpF th ot dy so kn go od t d k n).2.2.1) ((rpF th ot dy so kn go od t d k n).2.2.2))) ∧ h1[78]? = some (aI 60 LE1) ∧ rng 77 78 h h1) := by
  refine cm_ofQ rfl (Nat.le_of_ble_eq_true rfl) [(0, .ref (G.1 + 77)), (1, .ref (G.1 + 69)), (2, .int (nI t)), (3, .int (nI d)), (4, .int (nI k))] rfl (fun QF hQF => ?_)
  refine aw_aload_n 0 dX2_replay_0 rfl rfl ?_
  refine aw_iconst (0) dX2_replay_1 (by decide) ?_
  refine aw_putQ fX2_15 dX2_replay_2 (lH G 0 o0 w0 z0) h77 rfl rfl rfl (Nat.le_of_ble_eq_true rfl) rfl ?_
  refine aw_aload_n 0 dX2_replay_5 rfl rfl ?_
  refine aw_bipush (-9) dX2_replay_6 (by decide) ?_
  refine aw_putQ fX2_19 dX2_replay_8 (lH G 0 (-9) w0 z0) (gs h77) rfl rfl rfl (Nat.le_of_ble_eq_true rfl) rfl ?_
  refine aw_aload_n 0 dX2_replay_11 rfl rfl ?_
  refine aw_bipush (-9) dX2_replay_12 (by decide) ?_
  refine aw_putQ fX2_22 dX2_replay_14 (lH G 0 (-9) (-9) z0) (gs (gs h77)) rfl rfl rfl (Nat.le_of_ble_eq_true rfl) rfl ?_
  refine aw_aload_n 0 dX2_replay_17 rfl rfl ?_
  refine aw_iconst (0) dX2_replay_18 (by decide) ?_
  refine aw_putQ fX2_25 dX2_replay_19 (lH G 0 (-9) (-9) 0) (gs (gs (gs h77))) rfl rfl rfl (Nat.le_of_ble_eq_true rfl) rfl ?_
  refine aw_iconst (0) dX2_replay_22 (by decide) ?_
  refine aw_istore [(5, .int 0), (0, .ref (G.1 + 77)), (1, .ref (G.1 + 69)), (2, .int (nI t)), (3, .int (nI d)), (4, .int (nI k))] dX2_replay_23 (by decide) rfl ?_
  refine aw_lv [(5, .int 0), (4, .int (nI k)), (3, .int (nI d)), (2, .int (nI t)), (1, .ref (G.1 + 69)), (0, .ref (G.1 + 77))] [0, 5, 4, 3, 2, 1] rfl ?_
  suffices L18 : ∀ (mm : Nat) (i : Nat) (T : hsT) (LE : Nat → Int32) (h6 : List va_E), n - i < mm → (i ≤ n) → (T = (rpF th ot dy so kn go od t d k i)) → (stk LE T.1) → h6[77]? = some (oB 2 (lH G (nI T.1.length) T.2.1 T.2.2.1 T.2.2.2)) → h6[78]? = some (aI 60 LE) → h6[69]? = some (oB 5 (lR G 69 (nI n) wd)) → h6[70]? = some (aI 60 (nA th)) → h6[71]? = some (aI 60 (nA ot)) → h6[72]? = some (aI 60 (nA dy)) → h6[73]? = some (aI 60 (nA so)) → h6[74]? = some (aI 60 (nA kn)) → h6[75]? = some (aI 60 (nA go)) → h6[76]? = some (aI 60 (nA od)) → rng 77 78 h h6 → AW l G yX2_replay cX2_replay 7 none (xR 1 0 0) (fun _ _ => True) QF 0 0 25 [(5, .int (nI i)), (4, .int (nI k)), (3, .int (nI d)), (2, .int (nI t)), (1, .ref (G.1 + 69)), (0, .ref (G.1 + 77))] [] h6 from L18 (n - 0 + 1) 0 ([], -9, -9, 0) LE0 _ (Nat.lt_succ_self _) (Nat.zero_le _) (rfl) (trivial) (gs (gs (gs (gs h77)))) (gn (by decide) (gn (by decide) (gn (by decide) (gn (by decide) (h78))))) (gn (by decide) (gn (by decide) (gn (by decide) (gn (by decide) (h69))))) (gn (by decide) (gn (by decide) (gn (by decide) (gn (by decide) (h70))))) (gn (by decide) (gn (by decide) (gn (by decide) (gn (by decide) (h71))))) (gn (by decide) (gn (by decide) (gn (by decide) (gn (by decide) (h72))))) (gn (by decide) (gn (by decide) (gn (by decide) (gn (by decide) (h73))))) (gn (by decide) (gn (by decide) (gn (by decide) (gn (by decide) (h74))))) (gn (by decide) (gn (by decide) (gn (by decide) (gn (by decide) (h75))))) (gn (by decide) (gn (by decide) (gn (by decide) (gn (by decide) (h76))))) (rng_set (rng_set (rng_set (rng_set (rng_rf 77 78 h) (by decide) (by decide)) (by decide) (by decide)) (by decide) (by decide)) (by decide) (by decide))
  intro mm
  induction mm with
  | zero =>
    intro i T LE h6 hmm hi hT hs f7 f8 f9 f10 f11 f12 f13 f14 f15 f16 k17
    exact absurd hmm (Nat.not_lt_zero _)
  | succ mm ih18 =>
    intro i T LE h6 hmm hi hT hs f7 f8 f9 f10 f11 f12 f13 f14 f15 f16 k17
    have b9 : T.1.length ≤ i := by rw [hT]; exact rpF_len i
    refine aw_iload 0 dX2_replay_25 rfl ?_
    refine aw_aload_n 4 dX2_replay_27 rfl rfl ?_
    refine aw_get fX2_29 dX2_replay_28 f9 rfl ?_
    refine aw_icmp_ge 90 dX2_replay_31 (by decide) (fun c31 => ?_) (fun c31 => ?_)
    · have d31 := (nv_le (a := n) (b := i) (rfl) (rfl) (by omega) (by omega)).mp c31
      subst hQF
      exact aw_vret rfl dX2_replay_90 (by decide) (by decide) ⟨rfl, _, by rw [show n = i by omega, ← hT]; exact f7, f8, k17⟩
    · have d31 := mt (nv_le (a := n) (b := i) (rfl) (rfl) (by omega) (by omega)).mpr c31
      refine aw_aload_n 4 dX2_replay_34 rfl rfl ?_
      refine aw_get fX2_34 dX2_replay_35 f9 rfl ?_
      refine aw_iload 0 dX2_replay_38 rfl ?_
      refine aw_iald i (rfl) (by omega) (by decide) dX2_replay_40 f16 ?_
      refine aw_toe (nI (od i)) (rfl) ?_
      have b19 := hod.1 i (by omega)
      refine aw_istore [(6, .int (nI (od i))), (5, .int (nI i)), (4, .int (nI k)), (3, .int (nI d)), (2, .int (nI t)), (1, .ref (G.1 + 69)), (0, .ref (G.1 + 77))] dX2_replay_41 (by decide) rfl ?_
      refine aw_aload_n 5 dX2_replay_43 rfl rfl ?_
      refine aw_get fX2_37 dX2_replay_44 f9 rfl ?_
      refine aw_iload 0 dX2_replay_47 rfl ?_
      refine aw_iald (od i) (rfl) (by omega) (by decide) dX2_replay_49 f12 ?_
      refine aw_toe (nI (dy (od i))) (rfl) ?_
      have b20 := bdy (od i) (by omega)
      refine aw_iload_n 3 dX2_replay_50 rfl rfl ?_
      refine aw_icmp_gt 84 dX2_replay_51 (by decide) (fun c51 => ?_) (fun c51 => ?_)
      · have d51 := (nv_lt (a := d) (b := dy (od i)) (rfl) (rfl) (by omega) (by omega)).mp c51
        refine aw_iinc (j := 1) (nI (i + 1)) [(5, .int (nI (i + 1))), (6, .int (nI (od i))), (4, .int (nI k)), (3, .int (nI d)), (2, .int (nI t)), (1, .ref (G.1 + 69)), (0, .ref (G.1 + 77))] dX2_replay_84 rfl (nv_inc (rfl)) (by decide) rfl ?_
        refine aw_goto 25 dX2_replay_87 (by decide) ?_
        refine aw_lv [(5, .int (nI (i + 1))), (4, .int (nI k)), (3, .int (nI d)), (2, .int (nI t)), (1, .ref (G.1 + 69)), (0, .ref (G.1 + 77))] [0, 2, 3, 4, 5, 6] rfl ?_
        exact ih18 (i + 1) T LE _ (by omega) (by omega) (by rw [rpF_s, if_neg (fun q => by omega)]; exact hT) (hs) f7 f8 f9 f10 f11 f12 f13 f14 f15 f16 (k17)
      · have d51 := mt (nv_lt (a := d) (b := dy (od i)) (rfl) (rfl) (by omega) (by omega)).mpr c51
        refine aw_aload_n 5 dX2_replay_54 rfl rfl ?_
        refine aw_iload 0 dX2_replay_55 rfl ?_
        refine aw_iload_n 4 dX2_replay_57 rfl rfl ?_
        refine aw_iload 2 dX2_replay_58 rfl ?_
        refine aw_dV [.int (nI (od i)), .int (nI t), .int (nI k)] [] lX2_40 vX5_counts mX5_counts dX2_replay_60 (aX5_counts (th := th) (ot := ot) (dy := dy) (so := so) (kn := kn) (go := go) (od := od) (n := n) (wd := wd) (r := 69) (q := od i) (t := t) (k := k) f9 f10 f11 f12 f13 f14 f15 f16 (by omega) hod bth bkn bgo (by omega) (by omega) (by omega)) f9 rfl rfl rfl (Nat.le_of_ble_eq_true rfl) (by decide) (by decide) rfl ?_
        refine aw_if_eq 84 dX2_replay_63 (by decide) (fun c63 => ?_) (fun c63 => ?_)
        · have t63 := ite_0 c63
          refine aw_iinc (j := 1) (nI (i + 1)) [(5, .int (nI (i + 1))), (6, .int (nI (od i))), (4, .int (nI k)), (3, .int (nI d)), (2, .int (nI t)), (1, .ref (G.1 + 69)), (0, .ref (G.1 + 77))] dX2_replay_84 rfl (nv_inc (rfl)) (by decide) rfl ?_
          refine aw_goto 25 dX2_replay_87 (by decide) ?_
          refine aw_lv [(5, .int (nI (i + 1))), (4, .int (nI k)), (3, .int (nI d)), (2, .int (nI t)), (1, .ref (G.1 + 69)), (0, .ref (G.1 + 77))] [0, 2, 3, 4, 5, 6] rfl ?_
          exact ih18 (i + 1) T LE _ (by omega) (by omega) (by rw [rpF_s, if_neg (fun q => t63 q.2)]; exact hT) (hs) f7 f8 f9 f10 f11 f12 f13 f14 f15 f16 (k17)
        · have t63 := ite_1 c63
          refine aw_aload_n 6 dX2_replay_66 rfl rfl ?_
          refine aw_aload_n 5 dX2_replay_67 rfl rfl ?_
          refine aw_get fX2_44 dX2_replay_68 f9 rfl ?_
          refine aw_iload 0 dX2_replay_71 rfl ?_
          refine aw_iald (od i) (rfl) (by omega) (by decide) dX2_replay_73 f13 ?_
          refine aw_toe (nI (so (od i))) (rfl) ?_
          have b21 := bso (od i) (by omega)
          refine aw_aload_n 5 dX2_replay_74 rfl rfl ?_
          refine aw_get fX2_47 dX2_replay_75 f9 rfl ?_
          refine aw_iload 0 dX2_replay_78 rfl ?_
          refine aw_iald (od i) (rfl) (by omega) (by decide) dX2_replay_80 f11 ?_
          refine aw_toe (nI (ot (od i))) (rfl) ?_
          refine aw_eW [.int (nI (so (od i))), .int (nI (ot (od i)))] [] lX2_50 vX2_follow mX2_follow dX2_replay_81 (aX2_follow (LE := LE) (s := so (od i)) (p := (nI (ot (od i)))) f7 f8 (by omega) (by omega) (by omega)) f7 rfl rfl rfl (Nat.le_of_ble_eq_true rfl) (by decide) (by decide) rfl (fun h24 q23 => ?_)
          obtain ⟨LE122, f25, f26, k27, p28⟩ := q23
          have f29 := rng_at k27 (by decide) f9
          have f30 := rng_at k27 (by decide) f10
          have f31 := rng_at k27 (by decide) f11
          have f32 := rng_at k27 (by decide) f12
          have f33 := rng_at k27 (by decide) f13
          have f34 := rng_at k27 (by decide) f14
          have f35 := rng_at k27 (by decide) f15
          have f36 := rng_at k27 (by decide) f16
          refine aw_iinc (j := 1) (nI (i + 1)) [(5, .int (nI (i + 1))), (6, .int (nI (od i))), (4, .int (nI k)), (3, .int (nI d)), (2, .int (nI t)), (1, .ref (G.1 + 69)), (0, .ref (G.1 + 77))] dX2_replay_84 rfl (nv_inc (rfl)) (by decide) rfl ?_
          refine aw_goto 25 dX2_replay_87 (by decide) ?_
          refine aw_lv [(5, .int (nI (i + 1))), (4, .int (nI k)), (3, .int (nI d)), (2, .int (nI t)), (1, .ref (G.1 + 69)), (0, .ref (G.1 + 77))] [0, 2, 3, 4, 5, 6] rfl ?_
          exact ih18 (i + 1) (foF (so (od i)) (nI (ot (od i))) T) LE122 _ (by omega) (by omega) (by rw [rpF_s, if_pos ⟨by omega, t63⟩, ← hT]) (p28) f25 f26 f29 f30 f31 f32 f33 f34 f35 f36 (rng_tr (k17) (rng_w k27 (by decide) (by decide)))
theorem aX5_lastChange {l : Launch} {G : xG} {h : List va_E} {th ot dy so kn go od : Nat → Nat} {n : Nat} {wd : Int32} {r : Nat} {t k : Nat} (hr : h[r]? = some (oB 5 (lR G r (nI n) wd))) (hr_1 : h[r + 1]? = some (aI 60 (nA th))) (hr_2 : h[r + 2]? = some (aI 60 (nA ot))) (hr_3 : h[r + 3]? = some (aI 60 (nA dy))) (hr_4 : h[r + 4]? = some (aI 60 (nA so))) (hr_5 : h[r + 5]? = some (aI 60 (nA kn))) (hr_6 : h[r + 6]? = some (aI 60 (nA go))) (hr_7 : h[r + 7]? = some (aI 60 (nA od))) (hn : n ≤ 60) (hod : srt dy od n) (bth : ∀ j, j < 60 → th j < 12) (bkn : ∀ j, j < 60 → kn j ≤ 80000) (bgo : ∀ j, j < 60 → go j ≤ 80001) (bt : t < 12) (bk : k ≤ 80000) : CD l G yX5_lastChange cX5_lastChange 5 (some .int) 1 0 0 [.ref (G.1 + r), .int (nI t), .int (nI k)] h (some (.int (nI (lcF th kn go t k n)))) h :=
  gX5_lastChange ⟨hr, hr_1, hr_2, hr_3, hr_4, hr_5, hr_6, hr_7⟩ hn hod bth bkn bgo rfl bt rfl bk
theorem hsS {LC : Nat → Nat} {HO : Nat → Int32} {now : Int32} {i la : Nat} (h : i < 121) : hsF LC HO now (121 - i) la = if LC la = 0 then 0 else if HO (LC la - 1) = now then hsF LC HO now (121 - (i + 1)) (LC la - 1) else LC la := by
  rw [show 121 - i = (121 - (i + 1)) + 1 by omega]; rfl
set_option maxHeartbeats 4000000 in
theorem aX2_heldSince {l : Launch} {G : xG} {h : List va_E} {th ot dy so kn go od : Nat → Nat} {n : Nat} {wd : Int32} {l0 o0 w0 z0 : Int32} {LE0 : Nat → Int32} {t d k : Nat} (h77 : h[77]? = some (oB 2 (lH G l0 o0 w0 z0))) (h78 : h[78]? = some (aI 60 LE0)) (h69 : h[69]? = some (oB 5 (lR G 69 (nI n) wd))) (h70 : h[70]? = some (aI 60 (nA th))) (h71 : h[71]? = some (aI 60 (nA ot))) (h72 : h[72]? = some (aI 60 (nA dy))) (h73 : h[73]? = some (aI 60 (nA so))) (h74 : h[74]? = some (aI 60 (nA kn))) (h75 : h[75]? = some (aI 60 (nA go))) (h76 : h[76]? = some (aI 60 (nA od))) (hn : n ≤ 60) (hod : srt dy od n) (bth : ∀ j, j < 60 → th j < 12) (bkn : ∀ j, j < 60 → kn j ≤ 80000) (bgo : ∀ j, j < 60 → go j ≤ 80001) (bdy : ∀ j, j < 60 → dy j ≤ 80000) (bso : ∀ j, j < 60 → so j < 5) (bt : t < 12) (bd : d ≤ 80000) (bk : k ≤ 80000) : CE l G yX2_heldSince cX2_heldSince 9 (some .int) 2 0 0 [.ref (G.1 + 77), .ref (G.1 + 69), .int (nI t), .int (nI d), .int (nI k)] h (some (.int (nI (hsF (fun x => lcF th kn go t x n) (fun x => (rpF th ot dy so kn go od t d x n).2.1) ((rpF th ot dy so kn go od t d k n).2.1) 121 k)))) (fun h1 => ∃ l1 : Int32, ∃ o1 : Int32, ∃ w1 : Int32, ∃ z1 : Int32, ∃ LE1 : Nat → Int32, h1[77]? = some (oB 2 (lH G l1 o1 w1 z1)) ∧ h1[78]? = some (aI 60 LE1) ∧ rng 77 78 h h1) := by
  refine cm_ofQ rfl (Nat.le_of_ble_eq_true rfl) [(0, .ref (G.1 + 77)), (1, .ref (G.1 + 69)), (2, .int (nI t)), (3, .int (nI d)), (4, .int (nI k))] rfl (fun QF hQF => ?_)
  refine aw_aload_n 0 dX2_heldSince_0 rfl rfl ?_
  refine aw_aload_n 1 dX2_heldSince_1 rfl rfl ?_
  refine aw_iload_n 2 dX2_heldSince_2 rfl rfl ?_
  refine aw_iload_n 3 dX2_heldSince_3 rfl rfl ?_
  refine aw_iload 4 dX2_heldSince_4 rfl ?_
  refine aw_eW [.ref (G.1 + 69), .int (nI t), .int (nI d), .int (nI k)] [] lX2_54 vX2_replay mX2_replay dX2_heldSince_6 (aX2_replay (th := th) (ot := ot) (dy := dy) (so := so) (kn := kn) (go := go) (od := od) (n := n) (wd := wd) (l0 := l0) (o0 := o0) (w0 := w0) (z0 := z0) (LE0 := LE0) (t := t) (d := d) (k := k) h77 h78 h69 h70 h71 h72 h73 h74 h75 h76 (by omega) hod bth bkn bgo bdy bso (by omega) (by omega) (by omega)) h77 rfl rfl rfl (Nat.le_of_ble_eq_true rfl) (by decide) (by decide) rfl (fun h39 q38 => ?_)
  obtain ⟨LE137, f40, f41, k42⟩ := q38
  have f43 := rng_at k42 (by decide) h69
  have f44 := rng_at k42 (by decide) h70
  have f45 := rng_at k42 (by decide) h71
  have f46 := rng_at k42 (by decide) h72
  have f47 := rng_at k42 (by decide) h73
  have f48 := rng_at k42 (by decide) h74
  have f49 := rng_at k42 (by decide) h75
  have f50 := rng_at k42 (by decide) h76
  refine aw_aload_n 0 dX2_heldSince_9 rfl rfl ?_
  refine aw_get fX2_19 dX2_heldSince_10 f40 rfl ?_
  refine aw_istore [(5, .int ((rpF th ot dy so kn go od t d k n).2.1)), (0, .ref (G.1 + 77)), (1, .ref (G.1 + 69)), (2, .int (nI t)), (3, .int (nI d)), (4, .int (nI k))] dX2_heldSince_13 (by decide) rfl ?_
  refine aw_iload 5 dX2_heldSince_15 rfl ?_
  refine aw_istore [(6, .int (nI k)), (5, .int ((rpF th ot dy so kn go od t d k n).2.1)), (0, .ref (G.1 + 77)), (1, .ref (G.1 + 69)), (2, .int (nI t)), (3, .int (nI d)), (4, .int (nI k))] dX2_heldSince_17 (by decide) rfl ?_
  refine aw_iconst (0) dX2_heldSince_19 (by decide) ?_
  refine aw_istore [(7, .int 0), (6, .int (nI k)), (5, .int ((rpF th ot dy so kn go od t d k n).2.1)), (0, .ref (G.1 + 77)), (1, .ref (G.1 + 69)), (2, .int (nI t)), (3, .int (nI d)), (4, .int (nI k))] dX2_heldSince_20 (by decide) rfl ?_
  refine aw_lv [(7, .int 0), (6, .int (nI k)), (5, .int ((rpF th ot dy so kn go od t d k n).2.1)), (4, .int (nI k)), (3, .int (nI d)), (2, .int (nI t)), (1, .ref (G.1 + 69)), (0, .ref (G.1 + 77))] [0, 1, 2, 7, 6, 5, 4, 3] rfl ?_
  suffices L63 : ∀ (mm : Nat) (i : Nat) (la : Nat) (l1 : Int32) (o1 : Int32) (w1 : Int32) (z1 : Int32) (LE : Nat → Int32) (h51 : List va_E), 121 - i < mm → (i ≤ 121) → (la ≤ 80000) → (hsF (fun x => lcF th kn go t x n) (fun x => (rpF th ot dy so kn go od t d x n).2.1) (rpF th ot dy so kn go od t d k n).2.1 121 k = hsF (fun x => lcF th kn go t x n) (fun x => (rpF th ot dy so kn go od t d x n).2.1) (rpF th ot dy so kn go od t d k n).2.1 (121 - i) la) → h51[77]? = some (oB 2 (lH G l1 o1 w1 z1)) → h51[78]? = some (aI 60 LE) → h51[69]? = some (oB 5 (lR G 69 (nI n) wd)) → h51[70]? = some (aI 60 (nA th)) → h51[71]? = some (aI 60 (nA ot)) → h51[72]? = some (aI 60 (nA dy)) → h51[73]? = some (aI 60 (nA so)) → h51[74]? = some (aI 60 (nA kn)) → h51[75]? = some (aI 60 (nA go)) → h51[76]? = some (aI 60 (nA od)) → rng 77 78 h h51 → AW l G yX2_heldSince cX2_heldSince 9 (some .int) (xR 2 0 0) (fun _ _ => True) QF 0 0 22 [(7, .int (nI i)), (6, .int (nI la)), (5, .int ((rpF th ot dy so kn go od t d k n).2.1)), (4, .int (nI k)), (3, .int (nI d)), (2, .int (nI t)), (1, .ref (G.1 + 69)), (0, .ref (G.1 + 77))] [] h51 from L63 (121 - 0 + 1) 0 k (nI ((rpF th ot dy so kn go od t d k n).1.length)) ((rpF th ot dy so kn go od t d k n).2.1) ((rpF th ot dy so kn go od t d k n).2.2.1) ((rpF th ot dy so kn go od t d k n).2.2.2) LE137 _ (Nat.lt_succ_self _) (Nat.zero_le _) (bk) (rfl) f40 f41 f43 f44 f45 f46 f47 f48 f49 f50 (rng_tr (rng_rf 77 78 h) (rng_w k42 (by decide) (by decide)))
  intro mm
  induction mm with
  | zero =>
    intro i la l1 o1 w1 z1 LE h51 hmm hi hla hAn f52 f53 f54 f55 f56 f57 f58 f59 f60 f61 k62
    exact absurd hmm (Nat.not_lt_zero _)
  | succ mm ih63 =>
    intro i la l1 o1 w1 z1 LE h51 hmm hi hla hAn f52 f53 f54 f55 f56 f57 f58 f59 f60 f61 k62
    have b9 := lcF_le (th := th) (kn := kn) (go := go) (t := t) (k := la) n
    refine aw_iload 0 dX2_heldSince_22 rfl ?_
    refine aw_bipush (120) dX2_heldSince_24 (by decide) ?_
    refine aw_icmp_gt 80 dX2_heldSince_26 (by decide) (fun c26 => ?_) (fun c26 => ?_)
    · have d26 := (nv_lt (a := 120) (b := i) (rfl) (rfl) (by omega) (by omega)).mp c26
      refine aw_iconst (0) dX2_heldSince_80 (by decide) ?_
      subst hQF
      exact aw_iret rfl dX2_heldSince_81 (by decide) (by decide) ⟨by rw [hAn, show 121 - i = 0 by omega]; rfl, _, _, _, _, _, f52, f53, k62⟩
    · have d26 := mt (nv_lt (a := 120) (b := i) (rfl) (rfl) (by omega) (by omega)).mpr c26
      refine aw_aload_n 6 dX2_heldSince_29 rfl rfl ?_
      refine aw_iload_n 5 dX2_heldSince_30 rfl rfl ?_
      refine aw_iload 1 dX2_heldSince_31 rfl ?_
      refine aw_dV [.int (nI t), .int (nI la)] [] lX2_58 vX5_lastChange mX5_lastChange dX2_heldSince_33 (aX5_lastChange (th := th) (ot := ot) (dy := dy) (so := so) (kn := kn) (go := go) (od := od) (n := n) (wd := wd) (r := 69) (t := t) (k := la) f54 f55 f56 f57 f58 f59 f60 f61 (by omega) hod bth bkn bgo (by omega) (by omega)) f54 rfl rfl rfl (Nat.le_of_ble_eq_true rfl) (by decide) (by decide) rfl ?_
      refine aw_istore [(8, .int (nI (lcF th kn go t la n))), (7, .int (nI i)), (6, .int (nI la)), (5, .int ((rpF th ot dy so kn go od t d k n).2.1)), (4, .int (nI k)), (3, .int (nI d)), (2, .int (nI t)), (1, .ref (G.1 + 69)), (0, .ref (G.1 + 77))] dX2_heldSince_36 (by decide) rfl ?_
      refine aw_iload 0 dX2_heldSince_38 rfl ?_
      refine aw_if_ne 45 dX2_heldSince_40 (by decide) (fun c40 => ?_) (fun c40 => ?_)
      · have d40 := mt (nv_eq (a := lcF th kn go t la n) (b := 0) (rfl) (rfl) (by omega) (by omega)).mpr c40
        refine aw_aload_n 8 dX2_heldSince_45 rfl rfl ?_
        refine aw_aload_n 7 dX2_heldSince_46 rfl rfl ?_
        refine aw_iload_n 6 dX2_heldSince_47 rfl rfl ?_
        refine aw_iload_n 5 dX2_heldSince_48 rfl rfl ?_
        refine aw_iload 0 dX2_heldSince_49 rfl ?_
        refine aw_iconst (1) dX2_heldSince_51 (by decide) ?_
        refine aw_isub dX2_heldSince_52 ?_
        refine aw_toe (nI ((lcF th kn go t la n) - 1)) (nv_sub (rfl) (rfl) (by omega)) ?_
        refine aw_eW [.ref (G.1 + 69), .int (nI t), .int (nI d), .int (nI ((lcF th kn go t la n) - 1))] [] lX2_54 vX2_replay mX2_replay dX2_heldSince_53 (aX2_replay (th := th) (ot := ot) (dy := dy) (so := so) (kn := kn) (go := go) (od := od) (n := n) (wd := wd) (l0 := l1) (o0 := o1) (w0 := w1) (z0 := z1) (LE0 := LE) (t := t) (d := d) (k := (lcF th kn go t la n) - 1) f52 f53 f54 f55 f56 f57 f58 f59 f60 f61 (by omega) hod bth bkn bgo bdy bso (by omega) (by omega) (by omega)) f52 rfl rfl rfl (Nat.le_of_ble_eq_true rfl) (by decide) (by decide) rfl (fun h66 q65 => ?_)
        obtain ⟨LE164, f67, f68, k69⟩ := q65
        have f70 := rng_at k69 (by decide) f54
        have f71 := rng_at k69 (by decide) f55
        have f72 := rng_at k69 (by decide) f56
        have f73 := rng_at k69 (by decide) f57
        have f74 := rng_at k69 (by decide) f58
        have f75 := rng_at k69 (by decide) f59
        have f76 := rng_at k69 (by decide) f60
        have f77 := rng_at k69 (by decide) f61
        refine aw_aload_n 8 dX2_heldSince_56 rfl rfl ?_
        refine aw_get fX2_19 dX2_heldSince_57 f67 rfl ?_
        refine aw_iload 3 dX2_heldSince_60 rfl ?_
        refine aw_icmp_eq 68 dX2_heldSince_62 (by decide) (fun c62 => ?_) (fun c62 => ?_)
        · refine aw_iload 0 dX2_heldSince_68 rfl ?_
          refine aw_iconst (1) dX2_heldSince_70 (by decide) ?_
          refine aw_isub dX2_heldSince_71 ?_
          refine aw_toe (nI ((lcF th kn go t la n) - 1)) (nv_sub (rfl) (rfl) (by omega)) ?_
          refine aw_istore [(6, .int (nI ((lcF th kn go t la n) - 1))), (8, .int (nI (lcF th kn go t la n))), (7, .int (nI i)), (5, .int ((rpF th ot dy so kn go od t d k n).2.1)), (4, .int (nI k)), (3, .int (nI d)), (2, .int (nI t)), (1, .ref (G.1 + 69)), (0, .ref (G.1 + 77))] dX2_heldSince_72 (by decide) rfl ?_
          refine aw_iinc (j := 2) (nI (i + 1)) [(7, .int (nI (i + 1))), (6, .int (nI ((lcF th kn go t la n) - 1))), (8, .int (nI (lcF th kn go t la n))), (5, .int ((rpF th ot dy so kn go od t d k n).2.1)), (4, .int (nI k)), (3, .int (nI d)), (2, .int (nI t)), (1, .ref (G.1 + 69)), (0, .ref (G.1 + 77))] dX2_heldSince_74 rfl (nv_inc (rfl)) (by decide) rfl ?_
          refine aw_goto 22 dX2_heldSince_77 (by decide) ?_
          refine aw_lv [(7, .int (nI (i + 1))), (6, .int (nI ((lcF th kn go t la n) - 1))), (5, .int ((rpF th ot dy so kn go od t d k n).2.1)), (4, .int (nI k)), (3, .int (nI d)), (2, .int (nI t)), (1, .ref (G.1 + 69)), (0, .ref (G.1 + 77))] [0, 1, 3, 4, 5, 6, 7, 8] rfl ?_
          exact ih63 (i + 1) (lcF th kn go t la n - 1) (nI ((rpF th ot dy so kn go od t d ((lcF th kn go t la n) - 1) n).1.length)) ((rpF th ot dy so kn go od t d ((lcF th kn go t la n) - 1) n).2.1) ((rpF th ot dy so kn go od t d ((lcF th kn go t la n) - 1) n).2.2.1) ((rpF th ot dy so kn go od t d ((lcF th kn go t la n) - 1) n).2.2.2) LE164 _ (by omega) (by omega) (by omega) (hAn.trans (by rw [hsS (by omega), if_neg d40, if_pos c62])) f67 f68 f70 f71 f72 f73 f74 f75 f76 f77 (rng_tr (k62) (rng_w k69 (by decide) (by decide)))
        · refine aw_iload 0 dX2_heldSince_65 rfl ?_
          subst hQF
          exact aw_iret rfl dX2_heldSince_67 (by decide) (by decide) ⟨by rw [hAn, hsS (by omega), if_neg d40, if_neg c62], _, _, _, _, _, f67, f68, rng_tr (k62) (rng_w k69 (by decide) (by decide))⟩
      · have d40 := (nv_eq (a := lcF th kn go t la n) (b := 0) (rfl) (rfl) (by omega) (by omega)).mp c40
        refine aw_iconst (0) dX2_heldSince_43 (by decide) ?_
        subst hQF
        exact aw_iret rfl dX2_heldSince_44 (by decide) (by decide) ⟨by rw [hAn, hsS (by omega), if_pos d40]; rfl, _, _, _, _, _, f52, f53, k62⟩
