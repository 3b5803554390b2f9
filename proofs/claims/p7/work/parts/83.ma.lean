theorem gM_v {go : Nat → Nat} {q : Nat} : gM go q = go q ∨ (gM go q = 1000000000 ∧ go q = 80001) := by
  unfold gM; split
  · exact Or.inr ⟨rfl, by assumption⟩
  · exact Or.inl rfl
set_option maxHeartbeats 4000000 in
theorem bX9_isSight {l : Launch} {G : xG} {h : List va_E} {sp fa nb ns nm nv sh : Nat} {ho ow sl : Int32} {th kn go : Nat → Nat} {q t k : Nat} (h88 : h[88]? = some (oB 9 (lM G (nI sp) (nI fa) (nI nb) (nI ns) (nI nm) ho ow sl (nI nv) (nI sh)))) (h103 : h[103]? = some (aI 60 (nA th))) (h106 : h[106]? = some (aI 60 (nA kn))) (h107 : h[107]? = some (aI 60 (nA (gM go)))) (bth : ∀ j, j < 60 → th j < 12) (bkn : ∀ j, j < 60 → kn j ≤ 80000) (bgo : ∀ j, j < 60 → go j ≤ 80001) (bq : q < 60) (bt : t < 12) (bk : k ≤ 80000) : CD l G yX9_isSight cX9_isSight 4 (some .boolean) 0 0 0 [.ref (G.1 + 88), .int (nI q), .int (nI t), .int (nI k)] h (some (.int (if (th q = t ∧ kn q ≤ k ∧ k < go q) then 1 else 0))) h := by
  refine cm_ofQ rfl (Nat.le_of_ble_eq_true rfl) [(0, .ref (G.1 + 88)), (1, .int (nI q)), (2, .int (nI t)), (3, .int (nI k))] rfl (fun QF hQF => ?_)
  have bgM : ∀ j, j < 60 → gM go j ≤ 1000000000 := fun j hj => gM_b (bgo j hj)
  have hgc := gM_c (go := go) (k := k) (bgo q bq) bk
  refine aw_aload_n 0 dX9_isSight_0 rfl rfl ?_
  refine aw_get fX9_59 dX9_isSight_1 h88 rfl ?_
  refine aw_iload_n 1 dX9_isSight_4 rfl rfl ?_
  refine aw_iald q (rfl) (by omega) (by decide) dX9_isSight_5 h103 ?_
  refine aw_toe (nI (th q)) (rfl) ?_
  have b2728 := bth q (by omega)
  refine aw_iload_n 2 dX9_isSight_6 rfl rfl ?_
  refine aw_icmp_ne 34 dX9_isSight_7 (by decide) (fun c7 => ?_) (fun c7 => ?_)
  · have d7 := mt (nv_eq (a := th q) (b := t) (rfl) (rfl) (by omega) (by omega)).mpr c7
    refine aw_iconst (0) dX9_isSight_34 (by decide) ?_
    subst hQF
    exact aw_zret rfl rfl dX9_isSight_35 (by decide) (by decide) ⟨by rw [if_neg (by omega)], rfl⟩
  · have d7 := (nv_eq (a := th q) (b := t) (rfl) (rfl) (by omega) (by omega)).mp c7
    refine aw_aload_n 0 dX9_isSight_10 rfl rfl ?_
    refine aw_get fX9_68 dX9_isSight_11 h88 rfl ?_
    refine aw_iload_n 1 dX9_isSight_14 rfl rfl ?_
    refine aw_iald q (rfl) (by omega) (by decide) dX9_isSight_15 h106 ?_
    refine aw_toe (nI (kn q)) (rfl) ?_
    have b2729 := bkn q (by omega)
    refine aw_iload_n 3 dX9_isSight_16 rfl rfl ?_
    refine aw_icmp_gt 34 dX9_isSight_17 (by decide) (fun c17 => ?_) (fun c17 => ?_)
    · have d17 := (nv_lt (a := k) (b := kn q) (rfl) (rfl) (by omega) (by omega)).mp c17
      refine aw_iconst (0) dX9_isSight_34 (by decide) ?_
      subst hQF
      exact aw_zret rfl rfl dX9_isSight_35 (by decide) (by decide) ⟨by rw [if_neg (by omega)], rfl⟩
    · have d17 := mt (nv_lt (a := k) (b := kn q) (rfl) (rfl) (by omega) (by omega)).mpr c17
      refine aw_iload_n 3 dX9_isSight_20 rfl rfl ?_
      refine aw_aload_n 0 dX9_isSight_21 rfl rfl ?_
      refine aw_get fX9_71 dX9_isSight_22 h88 rfl ?_
      refine aw_iload_n 1 dX9_isSight_25 rfl rfl ?_
      refine aw_iald q (rfl) (by omega) (by decide) dX9_isSight_26 h107 ?_
      refine aw_toe (nI ((gM go) q)) (rfl) ?_
      have b2730 := bgM q (by omega)
      refine aw_icmp_ge 34 dX9_isSight_27 (by decide) (fun c27 => ?_) (fun c27 => ?_)
      · have d27 := (nv_le (a := (gM go) q) (b := k) (rfl) (rfl) (by omega) (by omega)).mp c27
        refine aw_iconst (0) dX9_isSight_34 (by decide) ?_
        subst hQF
        exact aw_zret rfl rfl dX9_isSight_35 (by decide) (by decide) ⟨by rw [if_neg (by omega)], rfl⟩
      · have d27 := mt (nv_le (a := (gM go) q) (b := k) (rfl) (rfl) (by omega) (by omega)).mpr c27
        refine aw_iconst (1) dX9_isSight_30 (by decide) ?_
        refine aw_goto 35 dX9_isSight_31 (by decide) ?_
        subst hQF
        exact aw_zret rfl rfl dX9_isSight_35 (by decide) (by decide) ⟨by rw [if_pos (by omega)], rfl⟩
set_option maxHeartbeats 4000000 in
theorem bX9_isMove {l : Launch} {G : xG} {h : List va_E} {sp fa nb ns nm nv sh : Nat} {ho ow sl : Int32} {th kn go : Nat → Nat} {q t k : Nat} (h88 : h[88]? = some (oB 9 (lM G (nI sp) (nI fa) (nI nb) (nI ns) (nI nm) ho ow sl (nI nv) (nI sh)))) (h108 : h[108]? = some (aI 60 (nA th))) (h112 : h[112]? = some (aI 60 (nA kn))) (h113 : h[113]? = some (aI 60 (nA (gM go)))) (bth : ∀ j, j < 60 → th j < 12) (bkn : ∀ j, j < 60 → kn j ≤ 80000) (bgo : ∀ j, j < 60 → go j ≤ 80001) (bq : q < 60) (bt : t < 12) (bk : k ≤ 80000) : CD l G yX9_isMove cX9_isMove 4 (some .boolean) 0 0 0 [.ref (G.1 + 88), .int (nI q), .int (nI t), .int (nI k)] h (some (.int (if (th q = t ∧ kn q ≤ k ∧ k < go q) then 1 else 0))) h := by
  refine cm_ofQ rfl (Nat.le_of_ble_eq_true rfl) [(0, .ref (G.1 + 88)), (1, .int (nI q)), (2, .int (nI t)), (3, .int (nI k))] rfl (fun QF hQF => ?_)
  have bgM : ∀ j, j < 60 → gM go j ≤ 1000000000 := fun j hj => gM_b (bgo j hj)
  have hgc := gM_c (go := go) (k := k) (bgo q bq) bk
  refine aw_aload_n 0 dX9_isMove_0 rfl rfl ?_
  refine aw_get fX9_74 dX9_isMove_1 h88 rfl ?_
  refine aw_iload_n 1 dX9_isMove_4 rfl rfl ?_
  refine aw_iald q (rfl) (by omega) (by decide) dX9_isMove_5 h108 ?_
  refine aw_toe (nI (th q)) (rfl) ?_
  have b2731 := bth q (by omega)
  refine aw_iload_n 2 dX9_isMove_6 rfl rfl ?_
  refine aw_icmp_ne 34 dX9_isMove_7 (by decide) (fun c7 => ?_) (fun c7 => ?_)
  · have d7 := mt (nv_eq (a := th q) (b := t) (rfl) (rfl) (by omega) (by omega)).mpr c7
    refine aw_iconst (0) dX9_isMove_34 (by decide) ?_
    subst hQF
    exact aw_zret rfl rfl dX9_isMove_35 (by decide) (by decide) ⟨by rw [if_neg (by omega)], rfl⟩
  · have d7 := (nv_eq (a := th q) (b := t) (rfl) (rfl) (by omega) (by omega)).mp c7
    refine aw_aload_n 0 dX9_isMove_10 rfl rfl ?_
    refine aw_get fX9_86 dX9_isMove_11 h88 rfl ?_
    refine aw_iload_n 1 dX9_isMove_14 rfl rfl ?_
    refine aw_iald q (rfl) (by omega) (by decide) dX9_isMove_15 h112 ?_
    refine aw_toe (nI (kn q)) (rfl) ?_
    have b2732 := bkn q (by omega)
    refine aw_iload_n 3 dX9_isMove_16 rfl rfl ?_
    refine aw_icmp_gt 34 dX9_isMove_17 (by decide) (fun c17 => ?_) (fun c17 => ?_)
    · have d17 := (nv_lt (a := k) (b := kn q) (rfl) (rfl) (by omega) (by omega)).mp c17
      refine aw_iconst (0) dX9_isMove_34 (by decide) ?_
      subst hQF
      exact aw_zret rfl rfl dX9_isMove_35 (by decide) (by decide) ⟨by rw [if_neg (by omega)], rfl⟩
    · have d17 := mt (nv_lt (a := k) (b := kn q) (rfl) (rfl) (by omega) (by omega)).mpr c17
      refine aw_iload_n 3 dX9_isMove_20 rfl rfl ?_
      refine aw_aload_n 0 dX9_isMove_21 rfl rfl ?_
      refine aw_get fX9_89 dX9_isMove_22 h88 rfl ?_
      refine aw_iload_n 1 dX9_isMove_25 rfl rfl ?_
      refine aw_iald q (rfl) (by omega) (by decide) dX9_isMove_26 h113 ?_
      refine aw_toe (nI ((gM go) q)) (rfl) ?_
      have b2733 := bgM q (by omega)
      refine aw_icmp_ge 34 dX9_isMove_27 (by decide) (fun c27 => ?_) (fun c27 => ?_)
      · have d27 := (nv_le (a := (gM go) q) (b := k) (rfl) (rfl) (by omega) (by omega)).mp c27
        refine aw_iconst (0) dX9_isMove_34 (by decide) ?_
        subst hQF
        exact aw_zret rfl rfl dX9_isMove_35 (by decide) (by decide) ⟨by rw [if_neg (by omega)], rfl⟩
      · have d27 := mt (nv_le (a := (gM go) q) (b := k) (rfl) (rfl) (by omega) (by omega)).mpr c27
        refine aw_iconst (1) dX9_isMove_30 (by decide) ?_
        refine aw_goto 35 dX9_isMove_31 (by decide) ?_
        subst hQF
        exact aw_zret rfl rfl dX9_isMove_35 (by decide) (by decide) ⟨by rw [if_pos (by omega)], rfl⟩
