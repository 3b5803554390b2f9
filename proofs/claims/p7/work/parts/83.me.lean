set_option maxHeartbeats 4000000 in
theorem bX9_changed {l : Launch} {G : xG} {h : List va_E} {sp fa nb ns nm nv sh : Nat} {ho ow sl : Int32} {th kn go : Nat → Nat} {t k : Nat} (h88 : h[88]? = some (oB 9 (lM G (nI sp) (nI fa) (nI nb) (nI ns) (nI nm) ho ow sl (nI nv) (nI sh)))) (h108 : h[108]? = some (aI 60 (nA th))) (h112 : h[112]? = some (aI 60 (nA kn))) (h113 : h[113]? = some (aI 60 (nA (gM go)))) (bth : ∀ j, j < 60 → th j < 12) (bkn : ∀ j, j < 60 → kn j ≤ 80000) (bgo : ∀ j, j < 60 → go j ≤ 80001) (hn : nm ≤ 60) (bt : t < 12) (bk : k ≤ 80000) : CD l G yX9_changed cX9_changed 5 (some .int) 1 0 0 [.ref (G.1 + 88), .int (nI t), .int (nI k)] h (some (.int (nI (lcF th kn go t k nm)))) h := by
  refine cm_ofQ rfl (Nat.le_of_ble_eq_true rfl) [(0, .ref (G.1 + 88)), (1, .int (nI t)), (2, .int (nI k))] rfl (fun QF hQF => ?_)
  have bgM : ∀ j, j < 60 → gM go j ≤ 1000000000 := fun j hj => gM_b (bgo j hj)
  refine aw_iconst (0) dX9_changed_0 (by decide) ?_
  refine aw_istore_n [(3, .int 0), (0, .ref (G.1 + 88)), (1, .int (nI t)), (2, .int (nI k))] dX9_changed_1 rfl (by decide) rfl ?_
  refine aw_iconst (0) dX9_changed_2 (by decide) ?_
  refine aw_istore [(4, .int 0), (3, .int 0), (0, .ref (G.1 + 88)), (1, .int (nI t)), (2, .int (nI k))] dX9_changed_3 (by decide) rfl ?_
  refine aw_lv [(4, .int 0), (3, .int 0), (2, .int (nI k)), (1, .int (nI t)), (0, .ref (G.1 + 88))] [0, 1, 4, 3, 2] rfl ?_
  suffices L2902 : ∀ (mm : Nat) (i : Nat) (b : Nat), nm - i < mm → (i ≤ nm) → (b = lcF th kn go t k i) → AW l G yX9_changed cX9_changed 5 (some .int) (xR 1 0 0) (fun _ _ => True) QF 0 0 5 [(4, .int (nI i)), (3, .int (nI b)), (2, .int (nI k)), (1, .int (nI t)), (0, .ref (G.1 + 88))] [] h from L2902 (nm - 0 + 1) 0 0 (Nat.lt_succ_self _) (Nat.zero_le _) (rfl)
  intro mm
  induction mm with
  | zero =>
    intro i b hmm hi hb
    exact absurd hmm (Nat.not_lt_zero _)
  | succ mm ih2902 =>
    intro i b hmm hi hb
    have b9 := lcF_le (th := th) (kn := kn) (go := go) (t := t) (k := k) i
    refine aw_iload 0 dX9_changed_5 rfl ?_
    refine aw_aload_n 4 dX9_changed_7 rfl rfl ?_
    refine aw_get fX9_202 dX9_changed_8 h88 rfl ?_
    refine aw_icmp_ge 80 dX9_changed_11 (by decide) (fun c11 => ?_) (fun c11 => ?_)
    · have d11 := (nv_le (a := nm) (b := i) (rfl) (rfl) (by omega) (by omega)).mp c11
      refine aw_iload_n 1 dX9_changed_80 rfl rfl ?_
      subst hQF
      exact aw_iret rfl dX9_changed_81 (by decide) (by decide) ⟨by rw [hb, show i = nm by omega], rfl⟩
    · have d11 := mt (nv_le (a := nm) (b := i) (rfl) (rfl) (by omega) (by omega)).mpr c11
      refine aw_aload_n 4 dX9_changed_14 rfl rfl ?_
      refine aw_get fX9_74 dX9_changed_15 h88 rfl ?_
      refine aw_iload 0 dX9_changed_18 rfl ?_
      refine aw_iald i (rfl) (by omega) (by decide) dX9_changed_20 h108 ?_
      refine aw_toe (nI (th i)) (rfl) ?_
      have b2903 := bth i (by omega)
      refine aw_iload_n 3 dX9_changed_21 rfl rfl ?_
      refine aw_icmp_eq 28 dX9_changed_22 (by decide) (fun c22 => ?_) (fun c22 => ?_)
      · have d22 := (nv_eq (a := th i) (b := t) (rfl) (rfl) (by omega) (by omega)).mp c22
        refine aw_aload_n 4 dX9_changed_28 rfl rfl ?_
        refine aw_get fX9_86 dX9_changed_29 h88 rfl ?_
        refine aw_iload 0 dX9_changed_32 rfl ?_
        refine aw_iald i (rfl) (by omega) (by decide) dX9_changed_34 h112 ?_
        refine aw_toe (nI (kn i)) (rfl) ?_
        have b2904 := bkn i (by omega)
        refine aw_iload_n 2 dX9_changed_35 rfl rfl ?_
        refine aw_icmp_gt 51 dX9_changed_36 (by decide) (fun c36 => ?_) (fun c36 => ?_)
        · have d36 := (nv_lt (a := k) (b := kn i) (rfl) (rfl) (by omega) (by omega)).mp c36
          refine aw_aload_n 4 dX9_changed_51 rfl rfl ?_
          refine aw_get fX9_89 dX9_changed_52 h88 rfl ?_
          refine aw_iload 0 dX9_changed_55 rfl ?_
          refine aw_iald i (rfl) (by omega) (by decide) dX9_changed_57 h113 ?_
          refine aw_toe (nI ((gM go) i)) (rfl) ?_
          have b2905 := bgM i (by omega)
          refine aw_iload_n 2 dX9_changed_58 rfl rfl ?_
          refine aw_icmp_gt 74 dX9_changed_59 (by decide) (fun c59 => ?_) (fun c59 => ?_)
          · have d59 := (nv_lt (a := k) (b := (gM go) i) (rfl) (rfl) (by omega) (by omega)).mp c59
            refine aw_iinc (j := 0) (nI (i + 1)) [(4, .int (nI (i + 1))), (3, .int (nI b)), (2, .int (nI k)), (1, .int (nI t)), (0, .ref (G.1 + 88))] dX9_changed_74 rfl (nv_inc (rfl)) (by decide) rfl ?_
            refine aw_goto 5 dX9_changed_77 (by decide) ?_
            refine aw_lv [(4, .int (nI (i + 1))), (3, .int (nI b)), (2, .int (nI k)), (1, .int (nI t)), (0, .ref (G.1 + 88))] [0, 1, 2, 3, 4] rfl ?_
            have e2 := gM_v (go := go) (q := i)
            exact ih2902 (i + 1) b (by omega) (by omega) (by rw [lcF_s]; (repeat' split) <;> omega)
          · have d59 := mt (nv_lt (a := k) (b := (gM go) i) (rfl) (rfl) (by omega) (by omega)).mpr c59
            refine aw_iload_n 1 dX9_changed_62 rfl rfl ?_
            refine aw_aload_n 4 dX9_changed_63 rfl rfl ?_
            refine aw_get fX9_89 dX9_changed_64 h88 rfl ?_
            refine aw_iload 0 dX9_changed_67 rfl ?_
            refine aw_iald i (rfl) (by omega) (by decide) dX9_changed_69 h113 ?_
            refine aw_toe (nI ((gM go) i)) (rfl) ?_
            have b2906 := bgM i (by omega)
            refine aw_mmax lX9_162 dX9_changed_70 (Nat.le_of_ble_eq_true rfl) (by decide) (by decide) ?_
            refine aw_toe (nI (max b ((gM go) i))) (nv_max (rfl) (rfl) (by omega) (by omega)) ?_
            refine aw_istore_n [(3, .int (nI (max b ((gM go) i)))), (4, .int (nI i)), (2, .int (nI k)), (1, .int (nI t)), (0, .ref (G.1 + 88))] dX9_changed_73 rfl (by decide) rfl ?_
            refine aw_iinc (j := 1) (nI (i + 1)) [(4, .int (nI (i + 1))), (3, .int (nI (max b ((gM go) i)))), (2, .int (nI k)), (1, .int (nI t)), (0, .ref (G.1 + 88))] dX9_changed_74 rfl (nv_inc (rfl)) (by decide) rfl ?_
            refine aw_goto 5 dX9_changed_77 (by decide) ?_
            refine aw_lv [(4, .int (nI (i + 1))), (3, .int (nI (max b ((gM go) i)))), (2, .int (nI k)), (1, .int (nI t)), (0, .ref (G.1 + 88))] [0, 1, 2, 3, 4] rfl ?_
            have e2 := gM_v (go := go) (q := i)
            exact ih2902 (i + 1) (max b ((gM go) i)) (by omega) (by omega) (by rw [lcF_s]; (repeat' split) <;> omega)
        · have d36 := mt (nv_lt (a := k) (b := kn i) (rfl) (rfl) (by omega) (by omega)).mpr c36
          refine aw_iload_n 1 dX9_changed_39 rfl rfl ?_
          refine aw_aload_n 4 dX9_changed_40 rfl rfl ?_
          refine aw_get fX9_86 dX9_changed_41 h88 rfl ?_
          refine aw_iload 0 dX9_changed_44 rfl ?_
          refine aw_iald i (rfl) (by omega) (by decide) dX9_changed_46 h112 ?_
          refine aw_toe (nI (kn i)) (rfl) ?_
          have b2907 := bkn i (by omega)
          refine aw_mmax lX9_162 dX9_changed_47 (Nat.le_of_ble_eq_true rfl) (by decide) (by decide) ?_
          refine aw_toe (nI (max b (kn i))) (nv_max (rfl) (rfl) (by omega) (by omega)) ?_
          refine aw_istore_n [(3, .int (nI (max b (kn i)))), (4, .int (nI i)), (2, .int (nI k)), (1, .int (nI t)), (0, .ref (G.1 + 88))] dX9_changed_50 rfl (by decide) rfl ?_
          refine aw_aload_n 4 dX9_changed_51 rfl rfl ?_
          refine aw_get fX9_89 dX9_changed_52 h88 rfl ?_
          refine aw_iload 1 dX9_changed_55 rfl ?_
          refine aw_iald i (rfl) (by omega) (by decide) dX9_changed_57 h113 ?_
          refine aw_toe (nI ((gM go) i)) (rfl) ?_
          have b2908 := bgM i (by omega)
          refine aw_iload_n 2 dX9_changed_58 rfl rfl ?_
          refine aw_icmp_gt 74 dX9_changed_59 (by decide) (fun c59 => ?_) (fun c59 => ?_)
          · have d59 := (nv_lt (a := k) (b := (gM go) i) (rfl) (rfl) (by omega) (by omega)).mp c59
            refine aw_iinc (j := 1) (nI (i + 1)) [(4, .int (nI (i + 1))), (3, .int (nI (max b (kn i)))), (2, .int (nI k)), (1, .int (nI t)), (0, .ref (G.1 + 88))] dX9_changed_74 rfl (nv_inc (rfl)) (by decide) rfl ?_
            refine aw_goto 5 dX9_changed_77 (by decide) ?_
            refine aw_lv [(4, .int (nI (i + 1))), (3, .int (nI (max b (kn i)))), (2, .int (nI k)), (1, .int (nI t)), (0, .ref (G.1 + 88))] [0, 1, 2, 3, 4] rfl ?_
            have e2 := gM_v (go := go) (q := i)
            exact ih2902 (i + 1) (max b (kn i)) (by omega) (by omega) (by rw [lcF_s]; (repeat' split) <;> omega)
          · have d59 := mt (nv_lt (a := k) (b := (gM go) i) (rfl) (rfl) (by omega) (by omega)).mpr c59
            refine aw_iload_n 0 dX9_changed_62 rfl rfl ?_
            refine aw_aload_n 4 dX9_changed_63 rfl rfl ?_
            refine aw_get fX9_89 dX9_changed_64 h88 rfl ?_
            refine aw_iload 1 dX9_changed_67 rfl ?_
            refine aw_iald i (rfl) (by omega) (by decide) dX9_changed_69 h113 ?_
            refine aw_toe (nI ((gM go) i)) (rfl) ?_
            have b2909 := bgM i (by omega)
            refine aw_mmax lX9_162 dX9_changed_70 (Nat.le_of_ble_eq_true rfl) (by decide) (by decide) ?_
            refine aw_toe (nI (max (max b (kn i)) ((gM go) i))) (nv_max (rfl) (rfl) (by omega) (by omega)) ?_
            refine aw_istore_n [(3, .int (nI (max (max b (kn i)) ((gM go) i)))), (4, .int (nI i)), (2, .int (nI k)), (1, .int (nI t)), (0, .ref (G.1 + 88))] dX9_changed_73 rfl (by decide) rfl ?_
            refine aw_iinc (j := 1) (nI (i + 1)) [(4, .int (nI (i + 1))), (3, .int (nI (max (max b (kn i)) ((gM go) i)))), (2, .int (nI k)), (1, .int (nI t)), (0, .ref (G.1 + 88))] dX9_changed_74 rfl (nv_inc (rfl)) (by decide) rfl ?_
            refine aw_goto 5 dX9_changed_77 (by decide) ?_
            refine aw_lv [(4, .int (nI (i + 1))), (3, .int (nI (max (max b (kn i)) ((gM go) i)))), (2, .int (nI k)), (1, .int (nI t)), (0, .ref (G.1 + 88))] [0, 1, 2, 3, 4] rfl ?_
            have e2 := gM_v (go := go) (q := i)
            exact ih2902 (i + 1) (max (max b (kn i)) ((gM go) i)) (by omega) (by omega) (by rw [lcF_s]; (repeat' split) <;> omega)
      · have d22 := mt (nv_eq (a := th i) (b := t) (rfl) (rfl) (by omega) (by omega)).mpr c22
        refine aw_goto 74 dX9_changed_25 (by decide) ?_
        refine aw_iinc (j := 0) (nI (i + 1)) [(4, .int (nI (i + 1))), (3, .int (nI b)), (2, .int (nI k)), (1, .int (nI t)), (0, .ref (G.1 + 88))] dX9_changed_74 rfl (nv_inc (rfl)) (by decide) rfl ?_
        refine aw_goto 5 dX9_changed_77 (by decide) ?_
        refine aw_lv [(4, .int (nI (i + 1))), (3, .int (nI b)), (2, .int (nI k)), (1, .int (nI t)), (0, .ref (G.1 + 88))] [0, 1, 2, 3, 4] rfl ?_
        have e2 := gM_v (go := go) (q := i)
        exact ih2902 (i + 1) b (by omega) (by omega) (by rw [lcF_s]; (repeat' split) <;> omega)
