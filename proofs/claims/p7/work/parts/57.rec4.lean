def lpF (th ot dy kn go od : Nat → Nat) (t d k : Nat) : Nat → Int32
  | 0 => -9
  | a + 1 => if dy (od a) ≤ d ∧ th (od a) = t ∧ kn (od a) ≤ k ∧ k < go (od a) then nI (ot (od a)) else lpF th ot dy kn go od t d k a
theorem lpF_s {th ot dy kn go od : Nat → Nat} {t d k a : Nat} : lpF th ot dy kn go od t d k (a + 1) = if dy (od a) ≤ d ∧ th (od a) = t ∧ kn (od a) ≤ k ∧ k < go (od a) then nI (ot (od a)) else lpF th ot dy kn go od t d k a := rfl
set_option maxHeartbeats 4000000 in
theorem gX5_lastPlace_l {l : Launch} {G : xG} {R : Room} {E : Array Value → State → Prop} {QF : List Frame → Array Value → State → State → Prop} {kc ns : Nat} {h : List va_E} {th ot dy so kn go od : Nat → Nat} {n : Nat} {wd : Int32} {r : Nat} {tv dv kv : Int32} {t d k : Nat} (hR : xRec G r th ot dy so kn go od n wd h) (hn : n ≤ 60) (hod : srt dy od n) (bth : ∀ j, j < 60 → th j < 12) (bkn : ∀ j, j < 60 → kn j ≤ 80000) (bgo : ∀ j, j < 60 → go j ≤ 80001) (bdy : ∀ j, j < 60 → dy j ≤ 80000) (et : tv = nI t) (bt : t < 12) (ed : dv = nI d) (bd : d ≤ 80000) (ek : kv = nI k) (bk : k ≤ 80000) (hM : 1 ≤ R.frames ∧ 40 ≤ R.locals ∧ kc ≤ R.cells ∧ ns ≤ R.slots)
    (K : ∀ (pv : Int32), pv = lpF th ot dy kn go od t d k n → AW l G yX5_lastPlace cX5_lastPlace 7 (some .int) R E QF kc ns 62 [(4, .int pv)] [] h) :
    ∀ (mm i : Nat) (pv : Int32) (iv : Int32), i + mm = n → iv = nI i → pv = lpF th ot dy kn go od t d k i → AW l G yX5_lastPlace cX5_lastPlace 7 (some .int) R E QF kc ns 7 [(5, .int iv), (4, .int pv), (3, .int kv), (2, .int dv), (1, .int tv), (0, .ref (G.1 + r))] [] h := by
  intro mm
  induction mm with
  | zero =>
    intro i pv iv hi ei hv
    have e0 : i = n := by omega
    rw [e0] at hv
    refine aw_iload 0 dX5_lastPlace_7 rfl ?_
    refine aw_aload_n 5 dX5_lastPlace_9 rfl rfl ?_
    refine aw_get fX5_33 dX5_lastPlace_10 hR.1 rfl ?_
    refine aw_icmp_ge 62 dX5_lastPlace_13 (by decide) (fun c13 => ?_) (fun c13 => absurd (by simp only [i_le, (i_toNat (ei) (by omega)), (nI_toInt (n := n) (by omega))] <;> omega) c13)
    refine aw_lv [(4, .int pv)] [1] rfl ?_
    exact K _ hv
  | succ mm ih =>
    intro i pv iv hi ei hv
    have b0 := hod.1 i (by omega)
    refine aw_iload 0 dX5_lastPlace_7 rfl ?_
    refine aw_aload_n 5 dX5_lastPlace_9 rfl rfl ?_
    refine aw_get fX5_33 dX5_lastPlace_10 hR.1 rfl ?_
    refine aw_icmp_ge 62 dX5_lastPlace_13 (by decide) (fun c13 => absurd c13 (by simp only [i_le, (i_toNat (ei) (by omega)), (nI_toInt (n := n) (by omega))] <;> omega)) (fun c13 => ?_)
    refine aw_aload_n 5 dX5_lastPlace_16 rfl rfl ?_
    refine aw_get fX5_30 dX5_lastPlace_17 hR.1 rfl ?_
    refine aw_iload 0 dX5_lastPlace_20 rfl ?_
    refine aw_iald i (ei) (by omega) (by decide) dX5_lastPlace_22 hR.2.2.2.2.2.2.2 ?_
    refine aw_toe (nI (od i)) (rfl) ?_
    refine aw_istore [(6, .int (nI (od i))), (5, .int iv), (4, .int pv), (3, .int kv), (2, .int dv), (1, .int tv), (0, .ref (G.1 + r))] dX5_lastPlace_23 (by decide) rfl ?_
    refine aw_aload_n 6 dX5_lastPlace_25 rfl rfl ?_
    refine aw_get fX5_18 dX5_lastPlace_26 hR.1 rfl ?_
    refine aw_iload 0 dX5_lastPlace_29 rfl ?_
    refine aw_iald (od i) (rfl) (by omega) (by decide) dX5_lastPlace_31 hR.2.2.2.1 ?_
    refine aw_toe (nI (dy (od i))) (rfl) ?_
    refine aw_iload_n 4 dX5_lastPlace_32 rfl rfl ?_
    refine aw_icmp_gt 56 dX5_lastPlace_33 (by decide) (fun c33 => ?_) (fun c33 => ?_)
    · obtain ⟨v1, ev1⟩ : ∃ q : Int32, q = iv + Int32.ofInt (1) := ⟨_, rfl⟩
      refine aw_iinc (j := 1) v1 [(5, .int v1), (6, .int (nI (od i))), (4, .int pv), (3, .int kv), (2, .int dv), (1, .int tv), (0, .ref (G.1 + r))] dX5_lastPlace_56 rfl ev1.symm (by decide) rfl ?_
      refine aw_goto 7 dX5_lastPlace_59 (by decide) ?_
      refine aw_lv [(5, .int v1), (4, .int pv), (3, .int kv), (2, .int dv), (1, .int tv), (0, .ref (G.1 + r))] [0, 2, 3, 4, 5, 6] rfl ?_
      exact ih (i + 1) _ _ (by omega) (ev1.trans (nv_inc (ei))) (by have b0 := hod.1 i (by omega); have b1 := bdy (od i) (by omega); have c := c33; rw [ed, nI_ltI (by omega) (by omega)] at c; rw [lpF_s, if_neg (fun q => by omega)]; exact hv)
    · refine aw_aload_n 6 dX5_lastPlace_36 rfl rfl ?_
      refine aw_iload 0 dX5_lastPlace_37 rfl ?_
      refine aw_iload_n 5 dX5_lastPlace_39 rfl rfl ?_
      refine aw_iload_n 3 dX5_lastPlace_40 rfl rfl ?_
      refine aw_dV [.int (nI (od i)), .int tv, .int kv] [] lX5_41 vX5_counts mX5_counts dX5_lastPlace_41 (gX5_counts hR hn hod bth bkn bgo rfl (by omega) et bt ek bk) hR.1 rfl rfl rfl (Nat.le_of_ble_eq_true rfl) (by omega) (by omega) rfl ?_
      refine aw_if_eq 56 dX5_lastPlace_44 (by decide) (fun c44 => ?_) (fun c44 => ?_)
      · obtain ⟨v2, ev2⟩ : ∃ q : Int32, q = iv + Int32.ofInt (1) := ⟨_, rfl⟩
        refine aw_iinc (j := 1) v2 [(5, .int v2), (6, .int (nI (od i))), (4, .int pv), (3, .int kv), (2, .int dv), (1, .int tv), (0, .ref (G.1 + r))] dX5_lastPlace_56 rfl ev2.symm (by decide) rfl ?_
        refine aw_goto 7 dX5_lastPlace_59 (by decide) ?_
        refine aw_lv [(5, .int v2), (4, .int pv), (3, .int kv), (2, .int dv), (1, .int tv), (0, .ref (G.1 + r))] [0, 2, 3, 4, 5, 6] rfl ?_
        exact ih (i + 1) _ _ (by omega) (ev2.trans (nv_inc (ei))) (by rw [lpF_s, if_neg (fun q => by have q2 := q.2; rw [if_pos q2] at c44; exact absurd c44 (by decide))]; exact hv)
      · refine aw_aload_n 6 dX5_lastPlace_47 rfl rfl ?_
        refine aw_get fX5_15 dX5_lastPlace_48 hR.1 rfl ?_
        refine aw_iload 0 dX5_lastPlace_51 rfl ?_
        refine aw_iald (od i) (rfl) (by omega) (by decide) dX5_lastPlace_53 hR.2.2.1 ?_
        refine aw_toe (nI (ot (od i))) (rfl) ?_
        refine aw_istore [(4, .int (nI (ot (od i)))), (6, .int (nI (od i))), (5, .int iv), (3, .int kv), (2, .int dv), (1, .int tv), (0, .ref (G.1 + r))] dX5_lastPlace_54 (by decide) rfl ?_
        obtain ⟨v3, ev3⟩ : ∃ q : Int32, q = iv + Int32.ofInt (1) := ⟨_, rfl⟩
        refine aw_iinc (j := 2) v3 [(5, .int v3), (4, .int (nI (ot (od i)))), (6, .int (nI (od i))), (3, .int kv), (2, .int dv), (1, .int tv), (0, .ref (G.1 + r))] dX5_lastPlace_56 rfl ev3.symm (by decide) rfl ?_
        refine aw_goto 7 dX5_lastPlace_59 (by decide) ?_
        refine aw_lv [(5, .int v3), (4, .int (nI (ot (od i)))), (3, .int kv), (2, .int dv), (1, .int tv), (0, .ref (G.1 + r))] [0, 1, 3, 4, 5, 6] rfl ?_
        exact ih (i + 1) _ _ (by omega) (ev3.trans (nv_inc (ei))) (by have b0 := hod.1 i (by omega); have b1 := bdy (od i) (by omega); have c := c33; rw [ed, nI_ltI (by omega) (by omega)] at c; have p : th (od i) = t ∧ kn (od i) ≤ k ∧ k < go (od i) := Classical.byContradiction (fun p => c44 (if_neg p)); rw [lpF_s, if_pos ⟨by omega, p⟩])
set_option maxHeartbeats 4000000 in
theorem gX5_lastPlace {l : Launch} {G : xG} {h : List va_E} {th ot dy so kn go od : Nat → Nat} {n : Nat} {wd : Int32} {r : Nat} {tv dv kv : Int32} {t d k : Nat} (hR : xRec G r th ot dy so kn go od n wd h) (hn : n ≤ 60) (hod : srt dy od n) (bth : ∀ j, j < 60 → th j < 12) (bkn : ∀ j, j < 60 → kn j ≤ 80000) (bgo : ∀ j, j < 60 → go j ≤ 80001) (bdy : ∀ j, j < 60 → dy j ≤ 80000) (et : tv = nI t) (bt : t < 12) (ed : dv = nI d) (bd : d ≤ 80000) (ek : kv = nI k) (bk : k ≤ 80000) : CD l G yX5_lastPlace cX5_lastPlace 7 (some .int) 1 0 0 [.ref (G.1 + r), .int tv, .int dv, .int kv] h (some (.int (lpF th ot dy kn go od t d k n))) h := by
  refine cm_of rfl (Nat.le_of_ble_eq_true rfl) [(0, .ref (G.1 + r)), (1, .int tv), (2, .int dv), (3, .int kv)] rfl ?_
  refine aw_bipush (-9) dX5_lastPlace_0 (by decide) ?_
  refine aw_istore [(4, .int (-9)), (0, .ref (G.1 + r)), (1, .int tv), (2, .int dv), (3, .int kv)] dX5_lastPlace_2 (by decide) rfl ?_
  refine aw_iconst (0) dX5_lastPlace_4 (by decide) ?_
  refine aw_istore [(5, .int 0), (4, .int (-9)), (0, .ref (G.1 + r)), (1, .int tv), (2, .int dv), (3, .int kv)] dX5_lastPlace_5 (by decide) rfl ?_
  refine aw_lv [(5, .int 0), (4, .int (-9)), (3, .int kv), (2, .int dv), (1, .int tv), (0, .ref (G.1 + r))] [0, 1, 5, 4, 3, 2] rfl ?_
  refine gX5_lastPlace_l hR hn hod bth bkn bgo bdy et bt ed bd ek bk (by decide) (fun pv hv => ?_) n 0 _ _ (by omega) rfl rfl
  refine aw_iload 0 dX5_lastPlace_62 rfl ?_
  exact aw_iret rfl dX5_lastPlace_64 (by decide) (by decide) ⟨by rw [hv], rfl⟩
