def xRec (G : xG) (r : Nat) (th ot dy so kn go od : Nat → Nat) (n : Nat) (wd : Int32) (h : List va_E) : Prop := h[r]? = some (.inr (5, [.ref (G.1 + (r + 1)), .ref (G.1 + (r + 2)), .ref (G.1 + (r + 3)), .ref (G.1 + (r + 4)), .ref (G.1 + (r + 5)), .ref (G.1 + (r + 6)), .ref (G.1 + (r + 7)), .int (nI n), .int wd])) ∧ h[r + 1]? = some (.inl (0, 60, .inl (nA th))) ∧ h[r + 2]? = some (.inl (0, 60, .inl (nA ot))) ∧ h[r + 3]? = some (.inl (0, 60, .inl (nA dy))) ∧ h[r + 4]? = some (.inl (0, 60, .inl (nA so))) ∧ h[r + 5]? = some (.inl (0, 60, .inl (nA kn))) ∧ h[r + 6]? = some (.inl (0, 60, .inl (nA go))) ∧ h[r + 7]? = some (.inl (0, 60, .inl (nA od)))
set_option maxHeartbeats 4000000 in
theorem gX5_counts {l : Launch} {G : xG} {h : List va_E} {th ot dy so kn go od : Nat → Nat} {n : Nat} {wd : Int32} {r : Nat} {qv tv kv : Int32} {q t k : Nat} (hR : xRec G r th ot dy so kn go od n wd h) (hn : n ≤ 60) (hod : srt dy od n) (bth : ∀ j, j < 60 → th j < 12) (bkn : ∀ j, j < 60 → kn j ≤ 80000) (bgo : ∀ j, j < 60 → go j ≤ 80001) (eq : qv = nI q) (bq : q < 60) (et : tv = nI t) (bt : t < 12) (ek : kv = nI k) (bk : k ≤ 80000) : CD l G yX5_counts cX5_counts 4 (some .boolean) 0 0 0 [.ref (G.1 + r), .int qv, .int tv, .int kv] h (some (.int (if th q = t ∧ kn q ≤ k ∧ k < go q then 1 else 0))) h := by
  refine cm_of rfl (Nat.le_of_ble_eq_true rfl) [(0, .ref (G.1 + r)), (1, .int qv), (2, .int tv), (3, .int kv)] rfl ?_
  refine aw_aload_n 0 dX5_counts_0 rfl rfl ?_
  refine aw_get fX5_9 dX5_counts_1 hR.1 rfl ?_
  refine aw_iload_n 1 dX5_counts_4 rfl rfl ?_
  refine aw_iald q (eq) (by omega) (by decide) dX5_counts_5 hR.2.1 ?_
  refine aw_toe (nI (th q)) (rfl) ?_
  refine aw_iload_n 2 dX5_counts_6 rfl rfl ?_
  refine aw_icmp_ne 34 dX5_counts_7 (by decide) (fun c7 => ?_) (fun c7 => ?_)
  · refine aw_iconst (0) dX5_counts_34 (by decide) ?_
    refine aw_zret rfl rfl dX5_counts_35 (by decide) (by decide) ⟨?_, rfl⟩
    rw [if_neg]
    have b1 := bth q (by omega)
    have b2 := bkn q (by omega)
    have b3 := bgo q (by omega)
    simp only [nI_eq (show th q < 2 ^ 31 by omega) (show t < 2 ^ 31 by omega), nI_leI (show kn q < 2 ^ 31 by omega) (show k < 2 ^ 31 by omega), nI_ltI (show k < 2 ^ 31 by omega) (show kn q < 2 ^ 31 by omega), nI_ltI (show k < 2 ^ 31 by omega) (show go q < 2 ^ 31 by omega), nI_leI (show go q < 2 ^ 31 by omega) (show k < 2 ^ 31 by omega), et, ek] at c7
    omega
  · refine aw_aload_n 0 dX5_counts_10 rfl rfl ?_
    refine aw_get fX5_24 dX5_counts_11 hR.1 rfl ?_
    refine aw_iload_n 1 dX5_counts_14 rfl rfl ?_
    refine aw_iald q (eq) (by omega) (by decide) dX5_counts_15 hR.2.2.2.2.2.1 ?_
    refine aw_toe (nI (kn q)) (rfl) ?_
    refine aw_iload_n 3 dX5_counts_16 rfl rfl ?_
    refine aw_icmp_gt 34 dX5_counts_17 (by decide) (fun c17 => ?_) (fun c17 => ?_)
    · refine aw_iconst (0) dX5_counts_34 (by decide) ?_
      refine aw_zret rfl rfl dX5_counts_35 (by decide) (by decide) ⟨?_, rfl⟩
      rw [if_neg]
      have b1 := bth q (by omega)
      have b2 := bkn q (by omega)
      have b3 := bgo q (by omega)
      simp only [nI_eq (show th q < 2 ^ 31 by omega) (show t < 2 ^ 31 by omega), nI_leI (show kn q < 2 ^ 31 by omega) (show k < 2 ^ 31 by omega), nI_ltI (show k < 2 ^ 31 by omega) (show kn q < 2 ^ 31 by omega), nI_ltI (show k < 2 ^ 31 by omega) (show go q < 2 ^ 31 by omega), nI_leI (show go q < 2 ^ 31 by omega) (show k < 2 ^ 31 by omega), et, ek] at c7 c17
      omega
    · refine aw_iload_n 3 dX5_counts_20 rfl rfl ?_
      refine aw_aload_n 0 dX5_counts_21 rfl rfl ?_
      refine aw_get fX5_27 dX5_counts_22 hR.1 rfl ?_
      refine aw_iload_n 1 dX5_counts_25 rfl rfl ?_
      refine aw_iald q (eq) (by omega) (by decide) dX5_counts_26 hR.2.2.2.2.2.2.1 ?_
      refine aw_toe (nI (go q)) (rfl) ?_
      refine aw_icmp_ge 34 dX5_counts_27 (by decide) (fun c27 => ?_) (fun c27 => ?_)
      · refine aw_iconst (0) dX5_counts_34 (by decide) ?_
        refine aw_zret rfl rfl dX5_counts_35 (by decide) (by decide) ⟨?_, rfl⟩
        rw [if_neg]
        have b1 := bth q (by omega)
        have b2 := bkn q (by omega)
        have b3 := bgo q (by omega)
        simp only [nI_eq (show th q < 2 ^ 31 by omega) (show t < 2 ^ 31 by omega), nI_leI (show kn q < 2 ^ 31 by omega) (show k < 2 ^ 31 by omega), nI_ltI (show k < 2 ^ 31 by omega) (show kn q < 2 ^ 31 by omega), nI_ltI (show k < 2 ^ 31 by omega) (show go q < 2 ^ 31 by omega), nI_leI (show go q < 2 ^ 31 by omega) (show k < 2 ^ 31 by omega), et, ek] at c7 c17 c27
        omega
      · refine aw_iconst (1) dX5_counts_30 (by decide) ?_
        refine aw_goto 35 dX5_counts_31 (by decide) ?_
        refine aw_zret rfl rfl dX5_counts_35 (by decide) (by decide) ⟨?_, rfl⟩
        rw [if_pos]
        have b1 := bth q (by omega)
        have b2 := bkn q (by omega)
        have b3 := bgo q (by omega)
        simp only [nI_eq (show th q < 2 ^ 31 by omega) (show t < 2 ^ 31 by omega), nI_leI (show kn q < 2 ^ 31 by omega) (show k < 2 ^ 31 by omega), nI_ltI (show k < 2 ^ 31 by omega) (show kn q < 2 ^ 31 by omega), nI_ltI (show k < 2 ^ 31 by omega) (show go q < 2 ^ 31 by omega), nI_leI (show go q < 2 ^ 31 by omega) (show k < 2 ^ 31 by omega), et, ek] at c7 c17 c27
        omega
