def lcF (th kn go : Nat → Nat) (t k : Nat) : Nat → Nat
  | 0 => 0
  | a + 1 => if th a = t then max (max (lcF th kn go t k a) (if kn a ≤ k then kn a else 0)) (if go a ≤ k then go a else 0) else lcF th kn go t k a
theorem lcF_s {th kn go : Nat → Nat} {t k a : Nat} : lcF th kn go t k (a + 1) = if th a = t then max (max (lcF th kn go t k a) (if kn a ≤ k then kn a else 0)) (if go a ≤ k then go a else 0) else lcF th kn go t k a := rfl
theorem lcF_le {th kn go : Nat → Nat} {t k : Nat} : ∀ a, lcF th kn go t k a ≤ k := by
  intro a
  induction a with
  | zero => exact Nat.zero_le _
  | succ a ih =>
    rw [lcF_s]
    repeat' split
    all_goals omega
theorem nv_max {x z : Int32} {a b : Nat} (h1 : x = nI a) (h2 : z = nI b) (ha : a < 2 ^ 31) (hb : b < 2 ^ 31) : (if x < z then z else x) = nI (max a b) := by
  have q := nv_lt h1 h2 ha hb
  by_cases c : x < z
  · rw [if_pos c, h2, Nat.max_eq_right (by have := q.mp c; omega)]
  · rw [if_neg c, h1, Nat.max_eq_left (by have := mt q.mpr c; omega)]
set_option maxHeartbeats 4000000 in
theorem gX5_lastChange_l {l : Launch} {G : xG} {R : Room} {E : Array Value → State → Prop} {QF : List Frame → Array Value → State → State → Prop} {kc ns : Nat} {h : List va_E} {th ot dy so kn go od : Nat → Nat} {n : Nat} {wd : Int32} {r : Nat} {tv kv : Int32} {t k : Nat} (hR : xRec G r th ot dy so kn go od n wd h) (hn : n ≤ 60) (hod : srt dy od n) (bth : ∀ j, j < 60 → th j < 12) (bkn : ∀ j, j < 60 → kn j ≤ 80000) (bgo : ∀ j, j < 60 → go j ≤ 80001) (et : tv = nI t) (bt : t < 12) (ek : kv = nI k) (bk : k ≤ 80000) (hM : 1 ≤ R.frames ∧ 40 ≤ R.locals ∧ kc ≤ R.cells ∧ ns ≤ R.slots)
    (K : ∀ (pv : Int32), pv = nI (lcF th kn go t k n) → AW l G yX5_lastChange cX5_lastChange 5 (some .int) R E QF kc ns 77 [(3, .int pv)] [] h) :
    ∀ (mm i : Nat) (pv : Int32) (iv : Int32), i + mm = n → iv = nI i → pv = nI (lcF th kn go t k i) → AW l G yX5_lastChange cX5_lastChange 5 (some .int) R E QF kc ns 5 [(4, .int iv), (3, .int pv), (2, .int kv), (1, .int tv), (0, .ref (G.1 + r))] [] h := by
  intro mm
  induction mm with
  | zero =>
    intro i pv iv hi ei hv
    have e0 : i = n := by omega
    rw [e0] at hv
    refine aw_iload 0 dX5_lastChange_5 rfl ?_
    refine aw_aload_n 4 dX5_lastChange_7 rfl rfl ?_
    refine aw_get fX5_33 dX5_lastChange_8 hR.1 rfl ?_
    refine aw_icmp_ge 77 dX5_lastChange_11 (by decide) (fun c11 => ?_) (fun c11 => absurd (by simp only [i_le, (i_toNat (ei) (by omega)), (nI_toInt (n := n) (by omega))] <;> omega) c11)
    refine aw_lv [(3, .int pv)] [1] rfl ?_
    exact K _ hv
  | succ mm ih =>
    intro i pv iv hi ei hv
    have b1 := bth i (by omega)
    have b2 := bkn i (by omega)
    have b3 := bgo i (by omega)
    have b4 := lcF_le (th := th) (kn := kn) (go := go) (t := t) (k := k) i
    refine aw_iload 0 dX5_lastChange_5 rfl ?_
    refine aw_aload_n 4 dX5_lastChange_7 rfl rfl ?_
    refine aw_get fX5_33 dX5_lastChange_8 hR.1 rfl ?_
    refine aw_icmp_ge 77 dX5_lastChange_11 (by decide) (fun c11 => absurd c11 (by simp only [i_le, (i_toNat (ei) (by omega)), (nI_toInt (n := n) (by omega))] <;> omega)) (fun c11 => ?_)
    refine aw_aload_n 4 dX5_lastChange_14 rfl rfl ?_
    refine aw_get fX5_9 dX5_lastChange_15 hR.1 rfl ?_
    refine aw_iload 0 dX5_lastChange_18 rfl ?_
    refine aw_iald i (ei) (by omega) (by decide) dX5_lastChange_20 hR.2.1 ?_
    refine aw_toe (nI (th i)) (rfl) ?_
    refine aw_iload_n 3 dX5_lastChange_21 rfl rfl ?_
    refine aw_icmp_ne 71 dX5_lastChange_22 (by decide) (fun c22 => ?_) (fun c22 => ?_)
    · obtain ⟨v1, ev1⟩ : ∃ q : Int32, q = iv + Int32.ofInt (1) := ⟨_, rfl⟩
      refine aw_iinc (j := 0) v1 [(4, .int v1), (3, .int pv), (2, .int kv), (1, .int tv), (0, .ref (G.1 + r))] dX5_lastChange_71 rfl ev1.symm (by decide) rfl ?_
      refine aw_goto 5 dX5_lastChange_74 (by decide) ?_
      refine aw_lv [(4, .int v1), (3, .int pv), (2, .int kv), (1, .int tv), (0, .ref (G.1 + r))] [0, 1, 2, 3, 4] rfl ?_
      exact ih (i + 1) _ _ (by omega) (ev1.trans (nv_inc (ei))) (by have b1 := bth i (by omega); have b2 := bkn i (by omega); have b3 := bgo i (by omega); have d22 := c22; rw [et, nI_eq (by omega) (by omega)] at d22; rw [lcF_s]; rw [if_neg d22]; exact hv)
    · refine aw_aload_n 4 dX5_lastChange_25 rfl rfl ?_
      refine aw_get fX5_24 dX5_lastChange_26 hR.1 rfl ?_
      refine aw_iload 0 dX5_lastChange_29 rfl ?_
      refine aw_iald i (ei) (by omega) (by decide) dX5_lastChange_31 hR.2.2.2.2.2.1 ?_
      refine aw_toe (nI (kn i)) (rfl) ?_
      refine aw_iload_n 2 dX5_lastChange_32 rfl rfl ?_
      refine aw_icmp_gt 48 dX5_lastChange_33 (by decide) (fun c33 => ?_) (fun c33 => ?_)
      · refine aw_aload_n 4 dX5_lastChange_48 rfl rfl ?_
        refine aw_get fX5_27 dX5_lastChange_49 hR.1 rfl ?_
        refine aw_iload 0 dX5_lastChange_52 rfl ?_
        refine aw_iald i (ei) (by omega) (by decide) dX5_lastChange_54 hR.2.2.2.2.2.2.1 ?_
        refine aw_toe (nI (go i)) (rfl) ?_
        refine aw_iload_n 2 dX5_lastChange_55 rfl rfl ?_
        refine aw_icmp_gt 71 dX5_lastChange_56 (by decide) (fun c56 => ?_) (fun c56 => ?_)
        · obtain ⟨v2, ev2⟩ : ∃ q : Int32, q = iv + Int32.ofInt (1) := ⟨_, rfl⟩
          refine aw_iinc (j := 0) v2 [(4, .int v2), (3, .int pv), (2, .int kv), (1, .int tv), (0, .ref (G.1 + r))] dX5_lastChange_71 rfl ev2.symm (by decide) rfl ?_
          refine aw_goto 5 dX5_lastChange_74 (by decide) ?_
          refine aw_lv [(4, .int v2), (3, .int pv), (2, .int kv), (1, .int tv), (0, .ref (G.1 + r))] [0, 1, 2, 3, 4] rfl ?_
          exact ih (i + 1) _ _ (by omega) (ev2.trans (nv_inc (ei))) (by have b1 := bth i (by omega); have b2 := bkn i (by omega); have b3 := bgo i (by omega); have d22 := c22; rw [et, nI_eq (by omega) (by omega)] at d22; have d33 := c33; rw [ek, nI_ltI (by omega) (by omega)] at d33; have d56 := c56; rw [ek, nI_ltI (by omega) (by omega)] at d56; rw [lcF_s]; rw [if_pos (by omega)]; refine (hv).trans ?_; congr 1; (repeat' split); all_goals omega)
        · refine aw_iload_n 1 dX5_lastChange_59 rfl rfl ?_
          refine aw_aload_n 4 dX5_lastChange_60 rfl rfl ?_
          refine aw_get fX5_27 dX5_lastChange_61 hR.1 rfl ?_
          refine aw_iload 0 dX5_lastChange_64 rfl ?_
          refine aw_iald i (ei) (by omega) (by decide) dX5_lastChange_66 hR.2.2.2.2.2.2.1 ?_
          refine aw_toe (nI (go i)) (rfl) ?_
          refine aw_mmax lX5_45 dX5_lastChange_67 (Nat.le_of_ble_eq_true rfl) (by omega) (by omega) ?_
          refine aw_toe (nI (max (lcF th kn go t k i) (go i))) (nv_max (hv) (rfl) (by omega) (by omega)) ?_
          refine aw_istore_n [(3, .int (nI (max (lcF th kn go t k i) (go i)))), (4, .int iv), (2, .int kv), (1, .int tv), (0, .ref (G.1 + r))] dX5_lastChange_70 rfl (by decide) rfl ?_
          obtain ⟨v3, ev3⟩ : ∃ q : Int32, q = iv + Int32.ofInt (1) := ⟨_, rfl⟩
          refine aw_iinc (j := 1) v3 [(4, .int v3), (3, .int (nI (max (lcF th kn go t k i) (go i)))), (2, .int kv), (1, .int tv), (0, .ref (G.1 + r))] dX5_lastChange_71 rfl ev3.symm (by decide) rfl ?_
          refine aw_goto 5 dX5_lastChange_74 (by decide) ?_
          refine aw_lv [(4, .int v3), (3, .int (nI (max (lcF th kn go t k i) (go i)))), (2, .int kv), (1, .int tv), (0, .ref (G.1 + r))] [0, 1, 2, 3, 4] rfl ?_
          exact ih (i + 1) _ _ (by omega) (ev3.trans (nv_inc (ei))) (by have b1 := bth i (by omega); have b2 := bkn i (by omega); have b3 := bgo i (by omega); have d22 := c22; rw [et, nI_eq (by omega) (by omega)] at d22; have d33 := c33; rw [ek, nI_ltI (by omega) (by omega)] at d33; have d56 := c56; rw [ek, nI_ltI (by omega) (by omega)] at d56; rw [lcF_s]; rw [if_pos (by omega)]; refine (rfl).trans ?_; congr 1; (repeat' split); all_goals omega)
      · refine aw_iload_n 1 dX5_lastChange_36 rfl rfl ?_
        refine aw_aload_n 4 dX5_lastChange_37 rfl rfl ?_
        refine aw_get fX5_24 dX5_lastChange_38 hR.1 rfl ?_
        refine aw_iload 0 dX5_lastChange_41 rfl ?_
        refine aw_iald i (ei) (by omega) (by decide) dX5_lastChange_43 hR.2.2.2.2.2.1 ?_
        refine aw_toe (nI (kn i)) (rfl) ?_
        refine aw_mmax lX5_45 dX5_lastChange_44 (Nat.le_of_ble_eq_true rfl) (by omega) (by omega) ?_
        refine aw_toe (nI (max (lcF th kn go t k i) (kn i))) (nv_max (hv) (rfl) (by omega) (by omega)) ?_
        refine aw_istore_n [(3, .int (nI (max (lcF th kn go t k i) (kn i)))), (4, .int iv), (2, .int kv), (1, .int tv), (0, .ref (G.1 + r))] dX5_lastChange_47 rfl (by decide) rfl ?_
        refine aw_aload_n 4 dX5_lastChange_48 rfl rfl ?_
        refine aw_get fX5_27 dX5_lastChange_49 hR.1 rfl ?_
        refine aw_iload 1 dX5_lastChange_52 rfl ?_
        refine aw_iald i (ei) (by omega) (by decide) dX5_lastChange_54 hR.2.2.2.2.2.2.1 ?_
        refine aw_toe (nI (go i)) (rfl) ?_
        refine aw_iload_n 2 dX5_lastChange_55 rfl rfl ?_
        refine aw_icmp_gt 71 dX5_lastChange_56 (by decide) (fun c56 => ?_) (fun c56 => ?_)
        · obtain ⟨v4, ev4⟩ : ∃ q : Int32, q = iv + Int32.ofInt (1) := ⟨_, rfl⟩
          refine aw_iinc (j := 1) v4 [(4, .int v4), (3, .int (nI (max (lcF th kn go t k i) (kn i)))), (2, .int kv), (1, .int tv), (0, .ref (G.1 + r))] dX5_lastChange_71 rfl ev4.symm (by decide) rfl ?_
          refine aw_goto 5 dX5_lastChange_74 (by decide) ?_
          refine aw_lv [(4, .int v4), (3, .int (nI (max (lcF th kn go t k i) (kn i)))), (2, .int kv), (1, .int tv), (0, .ref (G.1 + r))] [0, 1, 2, 3, 4] rfl ?_
          exact ih (i + 1) _ _ (by omega) (ev4.trans (nv_inc (ei))) (by have b1 := bth i (by omega); have b2 := bkn i (by omega); have b3 := bgo i (by omega); have d22 := c22; rw [et, nI_eq (by omega) (by omega)] at d22; have d33 := c33; rw [ek, nI_ltI (by omega) (by omega)] at d33; have d56 := c56; rw [ek, nI_ltI (by omega) (by omega)] at d56; rw [lcF_s]; rw [if_pos (by omega)]; refine (rfl).trans ?_; congr 1; (repeat' split); all_goals omega)
        · refine aw_iload_n 0 dX5_lastChange_59 rfl rfl ?_
          refine aw_aload_n 4 dX5_lastChange_60 rfl rfl ?_
          refine aw_get fX5_27 dX5_lastChange_61 hR.1 rfl ?_
          refine aw_iload 1 dX5_lastChange_64 rfl ?_
          refine aw_iald i (ei) (by omega) (by decide) dX5_lastChange_66 hR.2.2.2.2.2.2.1 ?_
          refine aw_toe (nI (go i)) (rfl) ?_
          refine aw_mmax lX5_45 dX5_lastChange_67 (Nat.le_of_ble_eq_true rfl) (by omega) (by omega) ?_
          refine aw_toe (nI (max (max (lcF th kn go t k i) (kn i)) (go i))) (nv_max (rfl) (rfl) (by omega) (by omega)) ?_
          refine aw_istore_n [(3, .int (nI (max (max (lcF th kn go t k i) (kn i)) (go i)))), (4, .int iv), (2, .int kv), (1, .int tv), (0, .ref (G.1 + r))] dX5_lastChange_70 rfl (by decide) rfl ?_
          obtain ⟨v5, ev5⟩ : ∃ q : Int32, q = iv + Int32.ofInt (1) := ⟨_, rfl⟩
          refine aw_iinc (j := 1) v5 [(4, .int v5), (3, .int (nI (max (max (lcF th kn go t k i) (kn i)) (go i)))), (2, .int kv), (1, .int tv), (0, .ref (G.1 + r))] dX5_lastChange_71 rfl ev5.symm (by decide) rfl ?_
          refine aw_goto 5 dX5_lastChange_74 (by decide) ?_
          refine aw_lv [(4, .int v5), (3, .int (nI (max (max (lcF th kn go t k i) (kn i)) (go i)))), (2, .int kv), (1, .int tv), (0, .ref (G.1 + r))] [0, 1, 2, 3, 4] rfl ?_
          exact ih (i + 1) _ _ (by omega) (ev5.trans (nv_inc (ei))) (by have b1 := bth i (by omega); have b2 := bkn i (by omega); have b3 := bgo i (by omega); have d22 := c22; rw [et, nI_eq (by omega) (by omega)] at d22; have d33 := c33; rw [ek, nI_ltI (by omega) (by omega)] at d33; have d56 := c56; rw [ek, nI_ltI (by omega) (by omega)] at d56; rw [lcF_s]; rw [if_pos (by omega)]; refine (rfl).trans ?_; congr 1; (repeat' split); all_goals omega)
set_option maxHeartbeats 4000000 in
theorem gX5_lastChange {l : Launch} {G : xG} {h : List va_E} {th ot dy so kn go od : Nat → Nat} {n : Nat} {wd : Int32} {r : Nat} {tv kv : Int32} {t k : Nat} (hR : xRec G r th ot dy so kn go od n wd h) (hn : n ≤ 60) (hod : srt dy od n) (bth : ∀ j, j < 60 → th j < 12) (bkn : ∀ j, j < 60 → kn j ≤ 80000) (bgo : ∀ j, j < 60 → go j ≤ 80001) (et : tv = nI t) (bt : t < 12) (ek : kv = nI k) (bk : k ≤ 80000) : CD l G yX5_lastChange cX5_lastChange 5 (some .int) 1 0 0 [.ref (G.1 + r), .int tv, .int kv] h (some (.int (nI (lcF th kn go t k n)))) h := by
  refine cm_of rfl (Nat.le_of_ble_eq_true rfl) [(0, .ref (G.1 + r)), (1, .int tv), (2, .int kv)] rfl ?_
  refine aw_iconst (0) dX5_lastChange_0 (by decide) ?_
  refine aw_istore_n [(3, .int 0), (0, .ref (G.1 + r)), (1, .int tv), (2, .int kv)] dX5_lastChange_1 rfl (by decide) rfl ?_
  refine aw_iconst (0) dX5_lastChange_2 (by decide) ?_
  refine aw_istore [(4, .int 0), (3, .int 0), (0, .ref (G.1 + r)), (1, .int tv), (2, .int kv)] dX5_lastChange_3 (by decide) rfl ?_
  refine aw_lv [(4, .int 0), (3, .int 0), (2, .int kv), (1, .int tv), (0, .ref (G.1 + r))] [0, 1, 4, 3, 2] rfl ?_
  refine gX5_lastChange_l hR hn hod bth bkn bgo et bt ek bk (by decide) (fun pv hv => ?_) n 0 _ _ (by omega) rfl rfl
  refine aw_iload_n 0 dX5_lastChange_77 rfl rfl ?_
  exact aw_iret rfl dX5_lastChange_78 (by decide) (by decide) ⟨by rw [hv], rfl⟩
