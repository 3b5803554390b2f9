set_option maxHeartbeats 4000000 in
theorem oX9_where {l : Launch} {G : xG} {h : List va_E} {sp fa nb ns nm nv sh : Nat} {ho ow sl : Int32} {rg : Nat → Int32} {th ot dy kn go : Nat → Nat} {t d k : Int32} (h88 : h[88]? = some (oB 9 (lM G (nI sp) (nI fa) (nI nb) (nI ns) (nI nm) ho ow sl (nI nv) (nI sh)))) (h89 : h[89]? = some (aI 7 rg)) (h103 : h[103]? = some (aI 60 (nA th))) (h104 : h[104]? = some (aI 60 (nA ot))) (h105 : h[105]? = some (aI 60 (nA dy))) (h106 : h[106]? = some (aI 60 (nA kn))) (h107 : h[107]? = some (aI 60 (nA (gM go)))) (bth : ∀ j, j < 60 → th j < 12) (bkn : ∀ j, j < 60 → kn j ≤ 80000) (bgo : ∀ j, j < 60 → go j ≤ 80001) (bdy : ∀ j, j < 60 → dy j ≤ 80000) (hn : ns ≤ 60) : CU l G yX9_where cX9_where 7 (some .int) 2 0 0 [.ref (G.1 + 88), .int t, .int d, .int k] h (fun r h1 => ∃ rg1 : Nat → Int32, h1[89]? = some (aI 7 rg1) ∧ rng 89 89 h h1 ∧ whU th ot dy kn go ns t d k r) := by
  refine cm_ofQ rfl (Nat.le_of_ble_eq_true rfl) [(0, .ref (G.1 + 88)), (1, .int t), (2, .int d), (3, .int k)] rfl (fun QF hQF => ?_)
  refine aw_iload_n 1 dX9_where_0 rfl rfl ?_
  refine aw_bipush (12) dX9_where_1 (by decide) ?_
  refine aw_dS [.int t, .int 12] [] lX9_126 sX9_isIn mX9_isIn dX9_where_3 (bX9_isIn (x := t) (n := 12) (by omega)) rfl (Nat.le_of_ble_eq_true rfl) (by decide) (by decide) rfl ?_
  refine aw_if_eq 17 dX9_where_6 (by decide) (fun c6 => ?_) (fun c6 => ?_)
  · have t6 := ite_0 c6
    refine aw_iconst (-1) dX9_where_17 (by decide) ?_
    refine aw_istore [(4, .int (-1)), (0, .ref (G.1 + 88)), (1, .int t), (2, .int d), (3, .int k)] dX9_where_18 (by decide) rfl ?_
    refine aw_iload 0 dX9_where_20 rfl ?_
    refine aw_if_eq 32 dX9_where_22 (by decide) (fun c22 => absurd c22 (by decide)) (fun c22 => ?_)
    refine aw_aload_n 1 dX9_where_25 rfl rfl ?_
    refine aw_iload 0 dX9_where_26 rfl ?_
    refine aw_eV [.int (-1)] [] lX9_130 vX9_refuse mX9_refuse dX9_where_28 (bX9_refuse (sp := sp) (fa := fa) (nb := nb) (ns := ns) (nm := nm) (nv := nv) (sh := sh) (ho := ho) (ow := ow) (sl := sl) (rg := rg) (x := (-1)) (q := 1) h88 h89 (by decide) (by decide)) h88 rfl rfl rfl (Nat.le_of_ble_eq_true rfl) (by decide) (by decide) rfl (fun h2736 q2735 => ?_)
    obtain ⟨rg12734, f2737, k2738⟩ := q2735
    have f2739 := rng_at k2738 (by decide) h88
    have f2740 := rng_at k2738 (by decide) h103
    have f2741 := rng_at k2738 (by decide) h104
    have f2742 := rng_at k2738 (by decide) h105
    have f2743 := rng_at k2738 (by decide) h106
    have f2744 := rng_at k2738 (by decide) h107
    subst hQF
    exact aw_iret rfl dX9_where_31 (by decide) (by decide) ⟨_, rfl, _, f2737, rng_tr (rng_rf 89 89 h) (rng_w k2738 (by decide) (by decide)), by rw [whU, if_neg (by omega)]⟩
  · have t6 := ite_1 c6
    refine aw_iload_n 2 dX9_where_9 rfl rfl ?_
    refine aw_iload_n 3 dX9_where_10 rfl rfl ?_
    refine aw_dS [.int d, .int k] [] lX9_195 sX9_wrongDays mX9_wrongDays dX9_where_11 (bX9_wrongDays (x := d) (k := k) ) rfl (Nat.le_of_ble_eq_true rfl) (by decide) (by decide) rfl ?_
    refine aw_goto 18 dX9_where_14 (by decide) ?_
    refine aw_istore [(4, .int (dyF d k)), (0, .ref (G.1 + 88)), (1, .int t), (2, .int d), (3, .int k)] dX9_where_18 (by decide) rfl ?_
    refine aw_iload 0 dX9_where_20 rfl ?_
    refine aw_if_eq 32 dX9_where_22 (by decide) (fun c22 => ?_) (fun c22 => ?_)
    · have d22 := (j_eq (a := (dyF d k).toInt) (b := (0)) (rfl) (rfl)).mp c22
      have hdd := dyF_0 c22
      obtain ⟨t0, bb_t0, ee_t0⟩ := i_nat (x := t) (N := 12) (by omega) (by omega)
      subst ee_t0
      have tt_t0 : (nI t0).toInt = (t0 : Int) := nI_toInt (by omega)
      have nn_t0 : tn (nI t0) = t0 := tn_nI (by omega)
      obtain ⟨d0, bb_d0, ee_d0⟩ := i_nat (x := d) (N := 80001) (by omega) (by omega)
      subst ee_d0
      have tt_d0 : (nI d0).toInt = (d0 : Int) := nI_toInt (by omega)
      have nn_d0 : tn (nI d0) = d0 := tn_nI (by omega)
      obtain ⟨k0, bb_k0, ee_k0⟩ := i_nat (x := k) (N := 80001) (by omega) (by omega)
      subst ee_k0
      have tt_k0 : (nI k0).toInt = (k0 : Int) := nI_toInt (by omega)
      have nn_k0 : tn (nI k0) = k0 := tn_nI (by omega)
      refine aw_iconst (-1) dX9_where_32 (by decide) ?_
      refine aw_istore [(5, .int (-1)), (4, .int (dyF (nI d0) (nI k0))), (0, .ref (G.1 + 88)), (1, .int (nI t0)), (2, .int (nI d0)), (3, .int (nI k0))] dX9_where_33 (by decide) rfl ?_
      refine aw_iconst (0) dX9_where_35 (by decide) ?_
      refine aw_istore [(6, .int 0), (5, .int (-1)), (4, .int (dyF (nI d0) (nI k0))), (0, .ref (G.1 + 88)), (1, .int (nI t0)), (2, .int (nI d0)), (3, .int (nI k0))] dX9_where_36 (by decide) rfl ?_
      refine aw_lv [(6, .int 0), (5, .int (-1)), (3, .int (nI k0)), (2, .int (nI d0)), (1, .int (nI t0)), (0, .ref (G.1 + 88))] [0, 1, 6, 5, 4, 3] rfl ?_
      suffices L2745 : ∀ (mm : Nat) (i : Nat) (bv : Int32), ns - i < mm → (i ≤ ns) → ((bv = -1 ∧ ∀ p, p < i → ¬ whC th dy kn go t0 d0 k0 p) ∨ ∃ q, bv = nI q ∧ q < i ∧ whI th dy kn go t0 d0 k0 i q) → AW l G yX9_where cX9_where 7 (some .int) (xR 2 0 0) (fun _ _ => True) QF 0 0 38 [(6, .int (nI i)), (5, .int bv), (3, .int (nI k0)), (2, .int (nI d0)), (1, .int (nI t0)), (0, .ref (G.1 + 88))] [] h from L2745 (ns - 0 + 1) 0 (-1) (Nat.lt_succ_self _) (Nat.zero_le _) (Or.inl ⟨rfl, fun p hp => absurd hp (Nat.not_lt_zero _)⟩)
      intro mm
      induction mm with
      | zero =>
        intro i bv hmm hi hv
        exact absurd hmm (Nat.not_lt_zero _)
      | succ mm ih2745 =>
        intro i bv hmm hi hv
        rcases hv with ⟨rfl, hv⟩ | ⟨q, rfl, bq, hv⟩
        · refine aw_iload 0 dX9_where_38 rfl ?_
          refine aw_aload_n 5 dX9_where_40 rfl rfl ?_
          refine aw_get fX9_198 dX9_where_41 h88 rfl ?_
          refine aw_icmp_ge 101 dX9_where_44 (by decide) (fun c44 => ?_) (fun c44 => ?_)
          · have d44 := (nv_le (a := ns) (b := i) (rfl) (rfl) (by omega) (by omega)).mp c44
            refine aw_iload 1 dX9_where_101 rfl ?_
            refine aw_if_ge 111 dX9_where_103 (by decide) (fun c103 => absurd c103 (by decide)) (fun c103 => ?_)
            refine aw_bipush (-9) dX9_where_106 (by decide) ?_
            refine aw_goto 118 dX9_where_108 (by decide) ?_
            subst hQF
            exact aw_iret rfl dX9_where_118 (by decide) (by decide) ⟨_, rfl, _, h89, rng_rf 89 89 h, by rw [whU, if_pos ⟨by omega, by omega⟩, if_pos c22, nn_t0, nn_d0, nn_k0]; exact wh_1 hv (by omega)⟩
          · have d44 := mt (nv_le (a := ns) (b := i) (rfl) (rfl) (by omega) (by omega)).mpr c44
            refine aw_aload_n 5 dX9_where_47 rfl rfl ?_
            refine aw_iload 0 dX9_where_48 rfl ?_
            refine aw_iload_n 4 dX9_where_50 rfl rfl ?_
            refine aw_iload_n 2 dX9_where_51 rfl rfl ?_
            refine aw_dV [.int (nI i), .int (nI t0), .int (nI k0)] [] lX9_205 vX9_isSight mX9_isSight dX9_where_52 (bX9_isSight (sp := sp) (fa := fa) (nb := nb) (ns := ns) (nm := nm) (nv := nv) (sh := sh) (ho := ho) (ow := ow) (sl := sl) (th := th) (kn := kn) (q := i) (t := t0) (k := k0) h88 h103 h106 h107 bth bkn bgo (by omega) (by omega) (by omega)) h88 rfl rfl rfl (Nat.le_of_ble_eq_true rfl) (by decide) (by decide) rfl ?_
            refine aw_if_eq 95 dX9_where_55 (by decide) (fun c55 => ?_) (fun c55 => ?_)
            · have t55 := ite_0 c55
              refine aw_iinc (j := 0) (nI (i + 1)) [(6, .int (nI (i + 1))), (5, .int (-1)), (3, .int (nI k0)), (2, .int (nI d0)), (1, .int (nI t0)), (0, .ref (G.1 + 88))] dX9_where_95 rfl (nv_inc (rfl)) (by decide) rfl ?_
              refine aw_goto 38 dX9_where_98 (by decide) ?_
              refine aw_lv [(6, .int (nI (i + 1))), (5, .int (-1)), (3, .int (nI k0)), (2, .int (nI d0)), (1, .int (nI t0)), (0, .ref (G.1 + 88))] [0, 1, 2, 3, 4, 5] rfl ?_
              exact ih2745 (i + 1) (-1) (by omega) (by omega) (Or.inl ⟨rfl, wh_n hv (fun c => t55 c.2)⟩)
            · have t55 := ite_1 c55
              refine aw_aload_n 5 dX9_where_58 rfl rfl ?_
              refine aw_get fX9_65 dX9_where_59 h88 rfl ?_
              refine aw_iload 0 dX9_where_62 rfl ?_
              refine aw_iald i (rfl) (by omega) (by decide) dX9_where_64 h105 ?_
              refine aw_toe (nI (dy i)) (rfl) ?_
              have b2746 := bdy i (by omega)
              refine aw_iload_n 3 dX9_where_65 rfl rfl ?_
              refine aw_icmp_gt 95 dX9_where_66 (by decide) (fun c66 => ?_) (fun c66 => ?_)
              · have d66 := (nv_lt (a := d0) (b := dy i) (rfl) (rfl) (by omega) (by omega)).mp c66
                refine aw_iinc (j := 0) (nI (i + 1)) [(6, .int (nI (i + 1))), (5, .int (-1)), (3, .int (nI k0)), (2, .int (nI d0)), (1, .int (nI t0)), (0, .ref (G.1 + 88))] dX9_where_95 rfl (nv_inc (rfl)) (by decide) rfl ?_
                refine aw_goto 38 dX9_where_98 (by decide) ?_
                refine aw_lv [(6, .int (nI (i + 1))), (5, .int (-1)), (3, .int (nI k0)), (2, .int (nI d0)), (1, .int (nI t0)), (0, .ref (G.1 + 88))] [0, 1, 2, 3, 4, 5] rfl ?_
                exact ih2745 (i + 1) (-1) (by omega) (by omega) (Or.inl ⟨rfl, wh_n hv (fun c => absurd c.1 (by omega))⟩)
              · have d66 := mt (nv_lt (a := d0) (b := dy i) (rfl) (rfl) (by omega) (by omega)).mpr c66
                refine aw_iload 1 dX9_where_69 rfl ?_
                refine aw_if_lt 91 dX9_where_71 (by decide) (fun c71 => ?_) (fun c71 => absurd (by decide) c71)
                refine aw_iload 0 dX9_where_91 rfl ?_
                refine aw_istore [(5, .int (nI i)), (6, .int (nI i)), (3, .int (nI k0)), (2, .int (nI d0)), (1, .int (nI t0)), (0, .ref (G.1 + 88))] dX9_where_93 (by decide) rfl ?_
                refine aw_iinc (j := 1) (nI (i + 1)) [(6, .int (nI (i + 1))), (5, .int (nI i)), (3, .int (nI k0)), (2, .int (nI d0)), (1, .int (nI t0)), (0, .ref (G.1 + 88))] dX9_where_95 rfl (nv_inc (rfl)) (by decide) rfl ?_
                refine aw_goto 38 dX9_where_98 (by decide) ?_
                refine aw_lv [(6, .int (nI (i + 1))), (5, .int (nI i)), (3, .int (nI k0)), (2, .int (nI d0)), (1, .int (nI t0)), (0, .ref (G.1 + 88))] [0, 1, 2, 3, 4, 5] rfl ?_
                exact ih2745 (i + 1) (nI i) (by omega) (by omega) (Or.inr ⟨i, rfl, by omega, wh_i hv ⟨by omega, t55⟩⟩)
        · refine aw_iload 0 dX9_where_38 rfl ?_
          refine aw_aload_n 5 dX9_where_40 rfl rfl ?_
          refine aw_get fX9_198 dX9_where_41 h88 rfl ?_
          refine aw_icmp_ge 101 dX9_where_44 (by decide) (fun c44 => ?_) (fun c44 => ?_)
          · have d44 := (nv_le (a := ns) (b := i) (rfl) (rfl) (by omega) (by omega)).mp c44
            refine aw_iload 1 dX9_where_101 rfl ?_
            refine aw_if_ge 111 dX9_where_103 (by decide) (fun c103 => ?_) (fun c103 => absurd (by simp only [i_le, (nI_toInt (n := q) (by omega)), (show (0 : Int32).toInt = 0 from rfl)] <;> omega) c103)
            refine aw_aload_n 5 dX9_where_111 rfl rfl ?_
            refine aw_get fX9_62 dX9_where_112 h88 rfl ?_
            refine aw_iload 1 dX9_where_115 rfl ?_
            refine aw_iald q (rfl) (by omega) (by decide) dX9_where_117 h104 ?_
            refine aw_toe (nI (ot q)) (rfl) ?_
            subst hQF
            exact aw_iret rfl dX9_where_118 (by decide) (by decide) ⟨_, rfl, _, h89, rng_rf 89 89 h, by rw [whU, if_pos ⟨by omega, by omega⟩, if_pos c22, nn_t0, nn_d0, nn_k0]; exact wh_2 hv bq (by omega)⟩
          · have d44 := mt (nv_le (a := ns) (b := i) (rfl) (rfl) (by omega) (by omega)).mpr c44
            refine aw_aload_n 5 dX9_where_47 rfl rfl ?_
            refine aw_iload 0 dX9_where_48 rfl ?_
            refine aw_iload_n 4 dX9_where_50 rfl rfl ?_
            refine aw_iload_n 2 dX9_where_51 rfl rfl ?_
            refine aw_dV [.int (nI i), .int (nI t0), .int (nI k0)] [] lX9_205 vX9_isSight mX9_isSight dX9_where_52 (bX9_isSight (sp := sp) (fa := fa) (nb := nb) (ns := ns) (nm := nm) (nv := nv) (sh := sh) (ho := ho) (ow := ow) (sl := sl) (th := th) (kn := kn) (q := i) (t := t0) (k := k0) h88 h103 h106 h107 bth bkn bgo (by omega) (by omega) (by omega)) h88 rfl rfl rfl (Nat.le_of_ble_eq_true rfl) (by decide) (by decide) rfl ?_
            refine aw_if_eq 95 dX9_where_55 (by decide) (fun c55 => ?_) (fun c55 => ?_)
            · have t55 := ite_0 c55
              refine aw_iinc (j := 0) (nI (i + 1)) [(6, .int (nI (i + 1))), (5, .int (nI q)), (3, .int (nI k0)), (2, .int (nI d0)), (1, .int (nI t0)), (0, .ref (G.1 + 88))] dX9_where_95 rfl (nv_inc (rfl)) (by decide) rfl ?_
              refine aw_goto 38 dX9_where_98 (by decide) ?_
              refine aw_lv [(6, .int (nI (i + 1))), (5, .int (nI q)), (3, .int (nI k0)), (2, .int (nI d0)), (1, .int (nI t0)), (0, .ref (G.1 + 88))] [0, 1, 2, 3, 4, 5] rfl ?_
              exact ih2745 (i + 1) (nI q) (by omega) (by omega) (Or.inr ⟨q, rfl, by omega, wh_s hv (fun c => t55 c.2)⟩)
            · have t55 := ite_1 c55
              refine aw_aload_n 5 dX9_where_58 rfl rfl ?_
              refine aw_get fX9_65 dX9_where_59 h88 rfl ?_
              refine aw_iload 0 dX9_where_62 rfl ?_
              refine aw_iald i (rfl) (by omega) (by decide) dX9_where_64 h105 ?_
              refine aw_toe (nI (dy i)) (rfl) ?_
              have b2747 := bdy i (by omega)
              refine aw_iload_n 3 dX9_where_65 rfl rfl ?_
              refine aw_icmp_gt 95 dX9_where_66 (by decide) (fun c66 => ?_) (fun c66 => ?_)
              · have d66 := (nv_lt (a := d0) (b := dy i) (rfl) (rfl) (by omega) (by omega)).mp c66
                refine aw_iinc (j := 0) (nI (i + 1)) [(6, .int (nI (i + 1))), (5, .int (nI q)), (3, .int (nI k0)), (2, .int (nI d0)), (1, .int (nI t0)), (0, .ref (G.1 + 88))] dX9_where_95 rfl (nv_inc (rfl)) (by decide) rfl ?_
                refine aw_goto 38 dX9_where_98 (by decide) ?_
                refine aw_lv [(6, .int (nI (i + 1))), (5, .int (nI q)), (3, .int (nI k0)), (2, .int (nI d0)), (1, .int (nI t0)), (0, .ref (G.1 + 88))] [0, 1, 2, 3, 4, 5] rfl ?_
                exact ih2745 (i + 1) (nI q) (by omega) (by omega) (Or.inr ⟨q, rfl, by omega, wh_s hv (fun c => absurd c.1 (by omega))⟩)
              · have d66 := mt (nv_lt (a := d0) (b := dy i) (rfl) (rfl) (by omega) (by omega)).mpr c66
                refine aw_iload 1 dX9_where_69 rfl ?_
                refine aw_if_lt 91 dX9_where_71 (by decide) (fun c71 => absurd c71 (by simp only [i_lt, (nI_toInt (n := q) (by omega)), (show (0 : Int32).toInt = 0 from rfl)] <;> omega)) (fun c71 => ?_)
                refine aw_aload_n 5 dX9_where_74 rfl rfl ?_
                refine aw_get fX9_65 dX9_where_75 h88 rfl ?_
                refine aw_iload 0 dX9_where_78 rfl ?_
                refine aw_iald i (rfl) (by omega) (by decide) dX9_where_80 h105 ?_
                refine aw_toe (nI (dy i)) (rfl) ?_
                have b2748 := bdy i (by omega)
                refine aw_aload_n 5 dX9_where_81 rfl rfl ?_
                refine aw_get fX9_65 dX9_where_82 h88 rfl ?_
                refine aw_iload 1 dX9_where_85 rfl ?_
                refine aw_iald q (rfl) (by omega) (by decide) dX9_where_87 h105 ?_
                refine aw_toe (nI (dy q)) (rfl) ?_
                have b2749 := bdy q (by omega)
                refine aw_icmp_lt 95 dX9_where_88 (by decide) (fun c88 => ?_) (fun c88 => ?_)
                · have d88 := (nv_lt (a := dy i) (b := dy q) (rfl) (rfl) (by omega) (by omega)).mp c88
                  refine aw_iinc (j := 0) (nI (i + 1)) [(6, .int (nI (i + 1))), (5, .int (nI q)), (3, .int (nI k0)), (2, .int (nI d0)), (1, .int (nI t0)), (0, .ref (G.1 + 88))] dX9_where_95 rfl (nv_inc (rfl)) (by decide) rfl ?_
                  refine aw_goto 38 dX9_where_98 (by decide) ?_
                  refine aw_lv [(6, .int (nI (i + 1))), (5, .int (nI q)), (3, .int (nI k0)), (2, .int (nI d0)), (1, .int (nI t0)), (0, .ref (G.1 + 88))] [0, 1, 2, 3, 4, 5] rfl ?_
                  exact ih2745 (i + 1) (nI q) (by omega) (by omega) (Or.inr ⟨q, rfl, by omega, wh_l hv d88⟩)
                · have d88 := mt (nv_lt (a := dy i) (b := dy q) (rfl) (rfl) (by omega) (by omega)).mpr c88
                  refine aw_iload 0 dX9_where_91 rfl ?_
                  refine aw_istore [(5, .int (nI i)), (6, .int (nI i)), (3, .int (nI k0)), (2, .int (nI d0)), (1, .int (nI t0)), (0, .ref (G.1 + 88))] dX9_where_93 (by decide) rfl ?_
                  refine aw_iinc (j := 1) (nI (i + 1)) [(6, .int (nI (i + 1))), (5, .int (nI i)), (3, .int (nI k0)), (2, .int (nI d0)), (1, .int (nI t0)), (0, .ref (G.1 + 88))] dX9_where_95 rfl (nv_inc (rfl)) (by decide) rfl ?_
                  refine aw_goto 38 dX9_where_98 (by decide) ?_
                  refine aw_lv [(6, .int (nI (i + 1))), (5, .int (nI i)), (3, .int (nI k0)), (2, .int (nI d0)), (1, .int (nI t0)), (0, .ref (G.1 + 88))] [0, 1, 2, 3, 4, 5] rfl ?_
                  exact ih2745 (i + 1) (nI i) (by omega) (by omega) (Or.inr ⟨i, rfl, by omega, wh_g hv ⟨by omega, t55⟩ d88⟩)
    · have d22 := mt (j_eq (a := (dyF d k).toInt) (b := (0)) (rfl) (rfl)).mpr c22
      refine aw_aload_n 1 dX9_where_25 rfl rfl ?_
      refine aw_iload 0 dX9_where_26 rfl ?_
      obtain ⟨q2750, bq2750, eq2750⟩ := Or.resolve_left (dyF_q d k) (by assumption)
      refine aw_eV [.int (dyF d k)] [] lX9_130 vX9_refuse mX9_refuse dX9_where_28 (bX9_refuse (sp := sp) (fa := fa) (nb := nb) (ns := ns) (nm := nm) (nv := nv) (sh := sh) (ho := ho) (ow := ow) (sl := sl) (rg := rg) (x := (dyF d k)) (q := q2750) h88 h89 bq2750 eq2750) h88 rfl rfl rfl (Nat.le_of_ble_eq_true rfl) (by decide) (by decide) rfl (fun h2753 q2752 => ?_)
      obtain ⟨rg12751, f2754, k2755⟩ := q2752
      have f2756 := rng_at k2755 (by decide) h88
      have f2757 := rng_at k2755 (by decide) h103
      have f2758 := rng_at k2755 (by decide) h104
      have f2759 := rng_at k2755 (by decide) h105
      have f2760 := rng_at k2755 (by decide) h106
      have f2761 := rng_at k2755 (by decide) h107
      subst hQF
      exact aw_iret rfl dX9_where_31 (by decide) (by decide) ⟨_, rfl, _, f2754, rng_tr (rng_rf 89 89 h) (rng_w k2755 (by decide) (by decide)), by rw [whU, if_pos (by omega), if_neg c22]⟩
set_option maxHeartbeats 4000000 in
theorem oX9_quarrels {l : Launch} {G : xG} {h : List va_E} {sp fa nb ns nm nv sh : Nat} {ho ow sl : Int32} {rg : Nat → Int32} {th ot dy kn go : Nat → Nat} {t k : Int32} (h88 : h[88]? = some (oB 9 (lM G (nI sp) (nI fa) (nI nb) (nI ns) (nI nm) ho ow sl (nI nv) (nI sh)))) (h89 : h[89]? = some (aI 7 rg)) (h103 : h[103]? = some (aI 60 (nA th))) (h104 : h[104]? = some (aI 60 (nA ot))) (h105 : h[105]? = some (aI 60 (nA dy))) (h106 : h[106]? = some (aI 60 (nA kn))) (h107 : h[107]? = some (aI 60 (nA (gM go)))) (bth : ∀ j, j < 60 → th j < 12) (bkn : ∀ j, j < 60 → kn j ≤ 80000) (bgo : ∀ j, j < 60 → go j ≤ 80001) (bdy : ∀ j, j < 60 → dy j ≤ 80000) (hn : ns ≤ 60) (bot : ∀ j, j < 60 → ot j < 8) : CE l G yX9_quarrels cX9_quarrels 9 (some .int) 2 0 0 [.ref (G.1 + 88), .int t, .int k] h (some (.int (if (0 ≤ t.toInt ∧ t.toInt < 12) then (if dyF k k = 0 then nI (qnS th ot dy kn go (tn t) (tn k) ns) else dyF k k) else -1))) (fun h1 => ∃ rg1 : Nat → Int32, h1[89]? = some (aI 7 rg1) ∧ rng 89 89 h h1) := by
  refine cm_ofQ rfl (Nat.le_of_ble_eq_true rfl) [(0, .ref (G.1 + 88)), (1, .int t), (2, .int k)] rfl (fun QF hQF => ?_)
  refine aw_iload_n 1 dX9_quarrels_0 rfl rfl ?_
  refine aw_bipush (12) dX9_quarrels_1 (by decide) ?_
  refine aw_dS [.int t, .int 12] [] lX9_126 sX9_isIn mX9_isIn dX9_quarrels_3 (bX9_isIn (x := t) (n := 12) (by omega)) rfl (Nat.le_of_ble_eq_true rfl) (by decide) (by decide) rfl ?_
  refine aw_if_eq 19 dX9_quarrels_6 (by decide) (fun c6 => ?_) (fun c6 => ?_)
  · have t6 := ite_0 c6
    refine aw_iconst (-1) dX9_quarrels_19 (by decide) ?_
    refine aw_istore_n [(3, .int (-1)), (0, .ref (G.1 + 88)), (1, .int t), (2, .int k)] dX9_quarrels_20 rfl (by decide) rfl ?_
    refine aw_iload_n 0 dX9_quarrels_21 rfl rfl ?_
    refine aw_if_eq 31 dX9_quarrels_22 (by decide) (fun c22 => absurd c22 (by decide)) (fun c22 => ?_)
    refine aw_aload_n 1 dX9_quarrels_25 rfl rfl ?_
    refine aw_iload_n 0 dX9_quarrels_26 rfl rfl ?_
    refine aw_eV [.int (-1)] [] lX9_130 vX9_refuse mX9_refuse dX9_quarrels_27 (bX9_refuse (sp := sp) (fa := fa) (nb := nb) (ns := ns) (nm := nm) (nv := nv) (sh := sh) (ho := ho) (ow := ow) (sl := sl) (rg := rg) (x := (-1)) (q := 1) h88 h89 (by decide) (by decide)) h88 rfl rfl rfl (Nat.le_of_ble_eq_true rfl) (by decide) (by decide) rfl (fun h2764 q2763 => ?_)
    obtain ⟨rg12762, f2765, k2766⟩ := q2763
    have f2767 := rng_at k2766 (by decide) h88
    have f2768 := rng_at k2766 (by decide) h103
    have f2769 := rng_at k2766 (by decide) h104
    have f2770 := rng_at k2766 (by decide) h105
    have f2771 := rng_at k2766 (by decide) h106
    have f2772 := rng_at k2766 (by decide) h107
    subst hQF
    exact aw_iret rfl dX9_quarrels_30 (by decide) (by decide) ⟨by rw [if_neg (by omega)], _, f2765, rng_tr (rng_rf 89 89 h) (rng_w k2766 (by decide) (by decide))⟩
  · have t6 := ite_1 c6
    refine aw_iload_n 2 dX9_quarrels_9 rfl rfl ?_
    refine aw_iconst (0) dX9_quarrels_10 (by decide) ?_
    refine aw_ldc (80000) kX9_194 dX9_quarrels_11 ?_
    refine aw_dS [.int k, .int 0, .int 80000] [] lX9_137 sX9_wrong mX9_wrong dX9_quarrels_13 (bX9_wrong (x := k) (y := 0) (z := 80000) ) rfl (Nat.le_of_ble_eq_true rfl) (by decide) (by decide) rfl ?_
    refine aw_goto 20 dX9_quarrels_16 (by decide) ?_
    refine aw_istore_n [(3, .int (wrF k 0 80000)), (0, .ref (G.1 + 88)), (1, .int t), (2, .int k)] dX9_quarrels_20 rfl (by decide) rfl ?_
    refine aw_iload_n 0 dX9_quarrels_21 rfl rfl ?_
    refine aw_if_eq 31 dX9_quarrels_22 (by decide) (fun c22 => ?_) (fun c22 => ?_)
    · have d22 := (j_eq (a := (wrF k 0 80000).toInt) (b := (0)) (rfl) (rfl)).mp c22
      have hw : 0 ≤ k.toInt ∧ k.toInt ≤ 80000 := wrF_0 c22
      obtain ⟨t0, bb_t0, ee_t0⟩ := i_nat (x := t) (N := 12) (by omega) (by omega)
      subst ee_t0
      have tt_t0 : (nI t0).toInt = (t0 : Int) := nI_toInt (by omega)
      have nn_t0 : tn (nI t0) = t0 := tn_nI (by omega)
      obtain ⟨k0, bb_k0, ee_k0⟩ := i_nat (x := k) (N := 80001) (by omega) (by omega)
      subst ee_k0
      have tt_k0 : (nI k0).toInt = (k0 : Int) := nI_toInt (by omega)
      have nn_k0 : tn (nI k0) = k0 := tn_nI (by omega)
      refine aw_iconst (0) dX9_quarrels_31 (by decide) ?_
      refine aw_istore [(4, .int 0), (3, .int (wrF (nI k0) 0 80000)), (0, .ref (G.1 + 88)), (1, .int (nI t0)), (2, .int (nI k0))] dX9_quarrels_32 (by decide) rfl ?_
      refine aw_iconst (0) dX9_quarrels_34 (by decide) ?_
      refine aw_istore [(5, .int 0), (4, .int 0), (3, .int (wrF (nI k0) 0 80000)), (0, .ref (G.1 + 88)), (1, .int (nI t0)), (2, .int (nI k0))] dX9_quarrels_35 (by decide) rfl ?_
      refine aw_lv [(5, .int 0), (4, .int 0), (2, .int (nI k0)), (1, .int (nI t0)), (0, .ref (G.1 + 88))] [0, 1, 5, 4, 3] rfl ?_
      suffices L2773 : ∀ (mm : Nat) (i : Nat) (c : Nat), ns - i < mm → (i ≤ ns) → (c = qnF th ot dy kn go t0 k0 ns i) → AW l G yX9_quarrels cX9_quarrels 9 (some .int) (xR 2 0 0) (fun _ _ => True) QF 0 0 37 [(5, .int (nI i)), (4, .int (nI c)), (2, .int (nI k0)), (1, .int (nI t0)), (0, .ref (G.1 + 88))] [] h from L2773 (ns - 0 + 1) 0 0 (Nat.lt_succ_self _) (Nat.zero_le _) (qn_0.symm)
      intro mm
      induction mm with
      | zero =>
        intro i c hmm hi hc
        exact absurd hmm (Nat.not_lt_zero _)
      | succ mm ih2773 =>
        intro i c hmm hi hc
        refine aw_iload 0 dX9_quarrels_37 rfl ?_
        refine aw_aload_n 4 dX9_quarrels_39 rfl rfl ?_
        refine aw_get fX9_198 dX9_quarrels_40 h88 rfl ?_
        refine aw_icmp_ge 189 dX9_quarrels_43 (by decide) (fun c43 => ?_) (fun c43 => ?_)
        · have d43 := (nv_le (a := ns) (b := i) (rfl) (rfl) (by omega) (by omega)).mp c43
          refine aw_iload 1 dX9_quarrels_189 rfl ?_
          subst hQF
          exact aw_iret rfl dX9_quarrels_191 (by decide) (by decide) ⟨by rw [if_pos ⟨by omega, by omega⟩, if_pos (by rw [← wr_dy]; exact c22), nn_t0, nn_k0, hc, qn_e (by omega)], _, h89, rng_rf 89 89 h⟩
        · have d43 := mt (nv_le (a := ns) (b := i) (rfl) (rfl) (by omega) (by omega)).mpr c43
          refine aw_aload_n 4 dX9_quarrels_46 rfl rfl ?_
          refine aw_iload 0 dX9_quarrels_47 rfl ?_
          refine aw_iload_n 3 dX9_quarrels_49 rfl rfl ?_
          refine aw_iload_n 2 dX9_quarrels_50 rfl rfl ?_
          refine aw_dV [.int (nI i), .int (nI t0), .int (nI k0)] [] lX9_205 vX9_isSight mX9_isSight dX9_quarrels_51 (bX9_isSight (sp := sp) (fa := fa) (nb := nb) (ns := ns) (nm := nm) (nv := nv) (sh := sh) (ho := ho) (ow := ow) (sl := sl) (th := th) (kn := kn) (q := i) (t := t0) (k := k0) h88 h103 h106 h107 bth bkn bgo (by omega) (by omega) (by omega)) h88 rfl rfl rfl (Nat.le_of_ble_eq_true rfl) (by decide) (by decide) rfl ?_
          refine aw_if_ne 60 dX9_quarrels_54 (by decide) (fun c54 => ?_) (fun c54 => ?_)
          · have t54 := ite_1 c54
            refine aw_iconst (1) dX9_quarrels_60 (by decide) ?_
            refine aw_istore [(6, .int 1), (5, .int (nI i)), (4, .int (nI c)), (2, .int (nI k0)), (1, .int (nI t0)), (0, .ref (G.1 + 88))] dX9_quarrels_61 (by decide) rfl ?_
            refine aw_iconst (0) dX9_quarrels_63 (by decide) ?_
            refine aw_istore [(7, .int 0), (6, .int 1), (5, .int (nI i)), (4, .int (nI c)), (2, .int (nI k0)), (1, .int (nI t0)), (0, .ref (G.1 + 88))] dX9_quarrels_64 (by decide) rfl ?_
            refine aw_iconst (0) dX9_quarrels_66 (by decide) ?_
            refine aw_istore [(8, .int 0), (7, .int 0), (6, .int 1), (5, .int (nI i)), (4, .int (nI c)), (2, .int (nI k0)), (1, .int (nI t0)), (0, .ref (G.1 + 88))] dX9_quarrels_67 (by decide) rfl ?_
            refine aw_lv [(8, .int 0), (7, .int 0), (6, .int 1), (5, .int (nI i)), (4, .int (nI c)), (2, .int (nI k0)), (1, .int (nI t0)), (0, .ref (G.1 + 88))] [0, 1, 2, 3, 4, 5, 6, 7] rfl ?_
            suffices L2774 : ∀ (mm : Nat) (j : Nat) (gv : Int32) (fv : Int32), ns - j < mm → (j ≤ ns) → (gv = if (dqF th ot dy kn go t0 k0 i j = true) then 1 else 0) → (fv = if (fqF th dy kn go t0 k0 i j = true) then 1 else 0) → AW l G yX9_quarrels cX9_quarrels 9 (some .int) (xR 2 0 0) (fun _ _ => True) QF 0 0 69 [(8, .int (nI j)), (7, .int gv), (6, .int fv), (5, .int (nI i)), (4, .int (nI c)), (2, .int (nI k0)), (1, .int (nI t0)), (0, .ref (G.1 + 88))] [] h from L2774 (ns - 0 + 1) 0 0 1 (Nat.lt_succ_self _) (Nat.zero_le _) (rfl) (rfl)
            intro mm
            induction mm with
            | zero =>
              intro j gv fv hmm hj hg hf
              exact absurd hmm (Nat.not_lt_zero _)
            | succ mm ih2774 =>
              intro j gv fv hmm hj hg hf
              subst hg
              subst hf
              · refine aw_iload 0 dX9_quarrels_69 rfl ?_
                refine aw_aload_n 7 dX9_quarrels_71 rfl rfl ?_
                refine aw_get fX9_198 dX9_quarrels_72 h88 rfl ?_
                refine aw_icmp_ge 163 dX9_quarrels_75 (by decide) (fun c75 => ?_) (fun c75 => ?_)
                · have d75 := (nv_le (a := ns) (b := j) (rfl) (rfl) (by omega) (by omega)).mp c75
                  refine aw_iload 4 dX9_quarrels_163 rfl ?_
                  refine aw_iload 2 dX9_quarrels_165 rfl ?_
                  refine aw_if_eq 179 dX9_quarrels_167 (by decide) (fun c167 => ?_) (fun c167 => ?_)
                  · have t167 := ite_0 c167
                    refine aw_iconst (0) dX9_quarrels_179 (by decide) ?_
                    refine aw_iadd dX9_quarrels_180 ?_
                    refine aw_toe (nI (c + 0)) (nv_add (rfl) (rfl)) ?_
                    refine aw_istore [(4, .int (nI (c + 0))), (8, .int (nI j)), (7, .int (if (dqF th ot dy kn go t0 k0 i j = true) then 1 else 0)), (6, .int (if (fqF th dy kn go t0 k0 i j = true) then 1 else 0)), (5, .int (nI i)), (2, .int (nI k0)), (1, .int (nI t0)), (0, .ref (G.1 + 88))] dX9_quarrels_181 (by decide) rfl ?_
                    refine aw_iinc (j := 4) (nI (i + 1)) [(5, .int (nI (i + 1))), (4, .int (nI (c + 0))), (8, .int (nI j)), (7, .int (if (dqF th ot dy kn go t0 k0 i j = true) then 1 else 0)), (6, .int (if (fqF th dy kn go t0 k0 i j = true) then 1 else 0)), (2, .int (nI k0)), (1, .int (nI t0)), (0, .ref (G.1 + 88))] dX9_quarrels_183 rfl (nv_inc (rfl)) (by decide) rfl ?_
                    refine aw_goto 37 dX9_quarrels_186 (by decide) ?_
                    refine aw_lv [(5, .int (nI (i + 1))), (4, .int (nI (c + 0))), (2, .int (nI k0)), (1, .int (nI t0)), (0, .ref (G.1 + 88))] [0, 1, 5, 6, 7] rfl ?_
                    exact ih2773 (i + 1) (c + 0) (by omega) (by omega) (hc.trans (qn_m t54 (by omega) (Or.inl (by rw [← (show j = ns by omega)]; exact t167))).symm)
                  · have t167 := ite_1 c167
                    refine aw_iload 1 dX9_quarrels_170 rfl ?_
                    refine aw_if_eq 179 dX9_quarrels_172 (by decide) (fun c172 => ?_) (fun c172 => ?_)
                    · have t172 := ite_0 c172
                      refine aw_iconst (0) dX9_quarrels_179 (by decide) ?_
                      refine aw_iadd dX9_quarrels_180 ?_
                      refine aw_toe (nI (c + 0)) (nv_add (rfl) (rfl)) ?_
                      refine aw_istore [(4, .int (nI (c + 0))), (8, .int (nI j)), (7, .int (if (dqF th ot dy kn go t0 k0 i j = true) then 1 else 0)), (6, .int (if (fqF th dy kn go t0 k0 i j = true) then 1 else 0)), (5, .int (nI i)), (2, .int (nI k0)), (1, .int (nI t0)), (0, .ref (G.1 + 88))] dX9_quarrels_181 (by decide) rfl ?_
                      refine aw_iinc (j := 4) (nI (i + 1)) [(5, .int (nI (i + 1))), (4, .int (nI (c + 0))), (8, .int (nI j)), (7, .int (if (dqF th ot dy kn go t0 k0 i j = true) then 1 else 0)), (6, .int (if (fqF th dy kn go t0 k0 i j = true) then 1 else 0)), (2, .int (nI k0)), (1, .int (nI t0)), (0, .ref (G.1 + 88))] dX9_quarrels_183 rfl (nv_inc (rfl)) (by decide) rfl ?_
                      refine aw_goto 37 dX9_quarrels_186 (by decide) ?_
                      refine aw_lv [(5, .int (nI (i + 1))), (4, .int (nI (c + 0))), (2, .int (nI k0)), (1, .int (nI t0)), (0, .ref (G.1 + 88))] [0, 1, 5, 6, 7] rfl ?_
                      exact ih2773 (i + 1) (c + 0) (by omega) (by omega) (hc.trans (qn_m t54 (by omega) (Or.inr (by rw [← (show j = ns by omega)]; exact t172))).symm)
                    · have t172 := ite_1 c172
                      refine aw_iconst (1) dX9_quarrels_175 (by decide) ?_
                      refine aw_goto 180 dX9_quarrels_176 (by decide) ?_
                      refine aw_iadd dX9_quarrels_180 ?_
                      refine aw_toe (nI (c + 1)) (nv_add (rfl) (rfl)) ?_
                      refine aw_istore [(4, .int (nI (c + 1))), (8, .int (nI j)), (7, .int (if (dqF th ot dy kn go t0 k0 i j = true) then 1 else 0)), (6, .int (if (fqF th dy kn go t0 k0 i j = true) then 1 else 0)), (5, .int (nI i)), (2, .int (nI k0)), (1, .int (nI t0)), (0, .ref (G.1 + 88))] dX9_quarrels_181 (by decide) rfl ?_
                      refine aw_iinc (j := 4) (nI (i + 1)) [(5, .int (nI (i + 1))), (4, .int (nI (c + 1))), (8, .int (nI j)), (7, .int (if (dqF th ot dy kn go t0 k0 i j = true) then 1 else 0)), (6, .int (if (fqF th dy kn go t0 k0 i j = true) then 1 else 0)), (2, .int (nI k0)), (1, .int (nI t0)), (0, .ref (G.1 + 88))] dX9_quarrels_183 rfl (nv_inc (rfl)) (by decide) rfl ?_
                      refine aw_goto 37 dX9_quarrels_186 (by decide) ?_
                      refine aw_lv [(5, .int (nI (i + 1))), (4, .int (nI (c + 1))), (2, .int (nI k0)), (1, .int (nI t0)), (0, .ref (G.1 + 88))] [0, 1, 5, 6, 7] rfl ?_
                      exact ih2773 (i + 1) (c + 1) (by omega) (by omega) (by rw [qn_y (bdy i (by omega)) t54 (by omega) (by rw [← (show j = ns by omega)]; exact t167) (by rw [← (show j = ns by omega)]; exact t172), hc])
                · have d75 := mt (nv_le (a := ns) (b := j) (rfl) (rfl) (by omega) (by omega)).mpr c75
                  refine aw_aload_n 7 dX9_quarrels_78 rfl rfl ?_
                  refine aw_iload 0 dX9_quarrels_79 rfl ?_
                  refine aw_iload_n 6 dX9_quarrels_81 rfl rfl ?_
                  refine aw_iload_n 5 dX9_quarrels_82 rfl rfl ?_
                  refine aw_dV [.int (nI j), .int (nI t0), .int (nI k0)] [] lX9_205 vX9_isSight mX9_isSight dX9_quarrels_83 (bX9_isSight (sp := sp) (fa := fa) (nb := nb) (ns := ns) (nm := nm) (nv := nv) (sh := sh) (ho := ho) (ow := ow) (sl := sl) (th := th) (kn := kn) (q := j) (t := t0) (k := k0) h88 h103 h106 h107 bth bkn bgo (by omega) (by omega) (by omega)) h88 rfl rfl rfl (Nat.le_of_ble_eq_true rfl) (by decide) (by decide) rfl ?_
                  refine aw_if_eq 157 dX9_quarrels_86 (by decide) (fun c86 => ?_) (fun c86 => ?_)
                  · have t86 := ite_0 c86
                    refine aw_iinc (j := 0) (nI (j + 1)) [(8, .int (nI (j + 1))), (7, .int (if (dqF th ot dy kn go t0 k0 i j = true) then 1 else 0)), (6, .int (if (fqF th dy kn go t0 k0 i j = true) then 1 else 0)), (5, .int (nI i)), (4, .int (nI c)), (2, .int (nI k0)), (1, .int (nI t0)), (0, .ref (G.1 + 88))] dX9_quarrels_157 rfl (nv_inc (rfl)) (by decide) rfl ?_
                    refine aw_goto 69 dX9_quarrels_160 (by decide) ?_
                    refine aw_lv [(8, .int (nI (j + 1))), (7, .int (if (dqF th ot dy kn go t0 k0 i j = true) then 1 else 0)), (6, .int (if (fqF th dy kn go t0 k0 i j = true) then 1 else 0)), (5, .int (nI i)), (4, .int (nI c)), (2, .int (nI k0)), (1, .int (nI t0)), (0, .ref (G.1 + 88))] [0, 1, 2, 3, 4, 5, 6, 7] rfl ?_
                    exact ih2774 (j + 1) (if (dqF th ot dy kn go t0 k0 i j = true) then 1 else 0) (if (fqF th dy kn go t0 k0 i j = true) then 1 else 0) (by omega) (by omega) (by rw [dq_k (fun c => t86 c.1)]) (by rw [fq_k (fun c => t86 c.1)])
                  · have t86 := ite_1 c86
                    refine aw_aload_n 7 dX9_quarrels_89 rfl rfl ?_
                    refine aw_get fX9_65 dX9_quarrels_90 h88 rfl ?_
                    refine aw_iload 0 dX9_quarrels_93 rfl ?_
                    refine aw_iald j (rfl) (by omega) (by decide) dX9_quarrels_95 h105 ?_
                    refine aw_toe (nI (dy j)) (rfl) ?_
                    have b2775 := bdy j (by omega)
                    refine aw_aload_n 7 dX9_quarrels_96 rfl rfl ?_
                    refine aw_get fX9_65 dX9_quarrels_97 h88 rfl ?_
                    refine aw_iload 3 dX9_quarrels_100 rfl ?_
                    refine aw_iald i (rfl) (by omega) (by decide) dX9_quarrels_102 h105 ?_
                    refine aw_toe (nI (dy i)) (rfl) ?_
                    have b2776 := bdy i (by omega)
                    refine aw_icmp_eq 109 dX9_quarrels_103 (by decide) (fun c103 => ?_) (fun c103 => ?_)
                    · have d103 := (nv_eq (a := dy j) (b := dy i) (rfl) (rfl) (by omega) (by omega)).mp c103
                      refine aw_iload 2 dX9_quarrels_109 rfl ?_
                      refine aw_if_eq 125 dX9_quarrels_111 (by decide) (fun c111 => ?_) (fun c111 => ?_)
                      · have t111 := ite_0 c111
                        refine aw_iconst (0) dX9_quarrels_125 (by decide) ?_
                        refine aw_istore [(6, .int 0), (8, .int (nI j)), (7, .int (if (dqF th ot dy kn go t0 k0 i j = true) then 1 else 0)), (5, .int (nI i)), (4, .int (nI c)), (2, .int (nI k0)), (1, .int (nI t0)), (0, .ref (G.1 + 88))] dX9_quarrels_126 (by decide) rfl ?_
                        refine aw_iload 2 dX9_quarrels_128 rfl ?_
                        refine aw_if_ne 150 dX9_quarrels_130 (by decide) (fun c130 => ?_) (fun c130 => ?_)
                        · have t130 := ite_1 c130
                          refine aw_iconst (1) dX9_quarrels_150 (by decide) ?_
                          refine aw_goto 155 dX9_quarrels_151 (by decide) ?_
                          refine aw_istore [(7, .int 1), (6, .int 0), (8, .int (nI j)), (5, .int (nI i)), (4, .int (nI c)), (2, .int (nI k0)), (1, .int (nI t0)), (0, .ref (G.1 + 88))] dX9_quarrels_155 (by decide) rfl ?_
                          refine aw_iinc (j := 2) (nI (j + 1)) [(8, .int (nI (j + 1))), (7, .int 1), (6, .int 0), (5, .int (nI i)), (4, .int (nI c)), (2, .int (nI k0)), (1, .int (nI t0)), (0, .ref (G.1 + 88))] dX9_quarrels_157 rfl (nv_inc (rfl)) (by decide) rfl ?_
                          refine aw_goto 69 dX9_quarrels_160 (by decide) ?_
                          refine aw_lv [(8, .int (nI (j + 1))), (7, .int 1), (6, .int 0), (5, .int (nI i)), (4, .int (nI c)), (2, .int (nI k0)), (1, .int (nI t0)), (0, .ref (G.1 + 88))] [0, 1, 2, 3, 4, 5, 6, 7] rfl ?_
                          exact ih2774 (j + 1) 1 0 (by omega) (by omega) (dq_1 (Or.inl t130)) (fq_0 t86 d103 (Or.inl t111))
                        · have t130 := ite_0 c130
                          refine aw_aload_n 7 dX9_quarrels_133 rfl rfl ?_
                          refine aw_get fX9_62 dX9_quarrels_134 h88 rfl ?_
                          refine aw_iload 1 dX9_quarrels_137 rfl ?_
                          refine aw_iald j (rfl) (by omega) (by decide) dX9_quarrels_139 h104 ?_
                          refine aw_toe (nI (ot j)) (rfl) ?_
                          have b2777 := bot j (by omega)
                          refine aw_aload_n 7 dX9_quarrels_140 rfl rfl ?_
                          refine aw_get fX9_62 dX9_quarrels_141 h88 rfl ?_
                          refine aw_iload 3 dX9_quarrels_144 rfl ?_
                          refine aw_iald i (rfl) (by omega) (by decide) dX9_quarrels_146 h104 ?_
                          refine aw_toe (nI (ot i)) (rfl) ?_
                          have b2778 := bot i (by omega)
                          refine aw_icmp_eq 154 dX9_quarrels_147 (by decide) (fun c147 => ?_) (fun c147 => ?_)
                          · have d147 := (nv_eq (a := ot j) (b := ot i) (rfl) (rfl) (by omega) (by omega)).mp c147
                            refine aw_iconst (0) dX9_quarrels_154 (by decide) ?_
                            refine aw_istore [(7, .int 0), (6, .int 0), (8, .int (nI j)), (5, .int (nI i)), (4, .int (nI c)), (2, .int (nI k0)), (1, .int (nI t0)), (0, .ref (G.1 + 88))] dX9_quarrels_155 (by decide) rfl ?_
                            refine aw_iinc (j := 2) (nI (j + 1)) [(8, .int (nI (j + 1))), (7, .int 0), (6, .int 0), (5, .int (nI i)), (4, .int (nI c)), (2, .int (nI k0)), (1, .int (nI t0)), (0, .ref (G.1 + 88))] dX9_quarrels_157 rfl (nv_inc (rfl)) (by decide) rfl ?_
                            refine aw_goto 69 dX9_quarrels_160 (by decide) ?_
                            refine aw_lv [(8, .int (nI (j + 1))), (7, .int 0), (6, .int 0), (5, .int (nI i)), (4, .int (nI c)), (2, .int (nI k0)), (1, .int (nI t0)), (0, .ref (G.1 + 88))] [0, 1, 2, 3, 4, 5, 6, 7] rfl ?_
                            exact ih2774 (j + 1) 0 0 (by omega) (by omega) (dq_0 t130 d147) (fq_0 t86 d103 (Or.inl t111))
                          · have d147 := mt (nv_eq (a := ot j) (b := ot i) (rfl) (rfl) (by omega) (by omega)).mpr c147
                            refine aw_iconst (1) dX9_quarrels_150 (by decide) ?_
                            refine aw_goto 155 dX9_quarrels_151 (by decide) ?_
                            refine aw_istore [(7, .int 1), (6, .int 0), (8, .int (nI j)), (5, .int (nI i)), (4, .int (nI c)), (2, .int (nI k0)), (1, .int (nI t0)), (0, .ref (G.1 + 88))] dX9_quarrels_155 (by decide) rfl ?_
                            refine aw_iinc (j := 2) (nI (j + 1)) [(8, .int (nI (j + 1))), (7, .int 1), (6, .int 0), (5, .int (nI i)), (4, .int (nI c)), (2, .int (nI k0)), (1, .int (nI t0)), (0, .ref (G.1 + 88))] dX9_quarrels_157 rfl (nv_inc (rfl)) (by decide) rfl ?_
                            refine aw_goto 69 dX9_quarrels_160 (by decide) ?_
                            refine aw_lv [(8, .int (nI (j + 1))), (7, .int 1), (6, .int 0), (5, .int (nI i)), (4, .int (nI c)), (2, .int (nI k0)), (1, .int (nI t0)), (0, .ref (G.1 + 88))] [0, 1, 2, 3, 4, 5, 6, 7] rfl ?_
                            exact ih2774 (j + 1) 1 0 (by omega) (by omega) (dq_1 (Or.inr ⟨t86, d103, d147⟩)) (fq_0 t86 d103 (Or.inl t111))
                      · have t111 := ite_1 c111
                        refine aw_iload 0 dX9_quarrels_114 rfl ?_
                        refine aw_iload 3 dX9_quarrels_116 rfl ?_
                        refine aw_icmp_lt 125 dX9_quarrels_118 (by decide) (fun c118 => ?_) (fun c118 => ?_)
                        · have d118 := (nv_lt (a := j) (b := i) (rfl) (rfl) (by omega) (by omega)).mp c118
                          refine aw_iconst (0) dX9_quarrels_125 (by decide) ?_
                          refine aw_istore [(6, .int 0), (8, .int (nI j)), (7, .int (if (dqF th ot dy kn go t0 k0 i j = true) then 1 else 0)), (5, .int (nI i)), (4, .int (nI c)), (2, .int (nI k0)), (1, .int (nI t0)), (0, .ref (G.1 + 88))] dX9_quarrels_126 (by decide) rfl ?_
                          refine aw_iload 2 dX9_quarrels_128 rfl ?_
                          refine aw_if_ne 150 dX9_quarrels_130 (by decide) (fun c130 => ?_) (fun c130 => ?_)
                          · have t130 := ite_1 c130
                            refine aw_iconst (1) dX9_quarrels_150 (by decide) ?_
                            refine aw_goto 155 dX9_quarrels_151 (by decide) ?_
                            refine aw_istore [(7, .int 1), (6, .int 0), (8, .int (nI j)), (5, .int (nI i)), (4, .int (nI c)), (2, .int (nI k0)), (1, .int (nI t0)), (0, .ref (G.1 + 88))] dX9_quarrels_155 (by decide) rfl ?_
                            refine aw_iinc (j := 2) (nI (j + 1)) [(8, .int (nI (j + 1))), (7, .int 1), (6, .int 0), (5, .int (nI i)), (4, .int (nI c)), (2, .int (nI k0)), (1, .int (nI t0)), (0, .ref (G.1 + 88))] dX9_quarrels_157 rfl (nv_inc (rfl)) (by decide) rfl ?_
                            refine aw_goto 69 dX9_quarrels_160 (by decide) ?_
                            refine aw_lv [(8, .int (nI (j + 1))), (7, .int 1), (6, .int 0), (5, .int (nI i)), (4, .int (nI c)), (2, .int (nI k0)), (1, .int (nI t0)), (0, .ref (G.1 + 88))] [0, 1, 2, 3, 4, 5, 6, 7] rfl ?_
                            exact ih2774 (j + 1) 1 0 (by omega) (by omega) (dq_1 (Or.inl t130)) (fq_0 t86 d103 (Or.inr d118))
                          · have t130 := ite_0 c130
                            refine aw_aload_n 7 dX9_quarrels_133 rfl rfl ?_
                            refine aw_get fX9_62 dX9_quarrels_134 h88 rfl ?_
                            refine aw_iload 1 dX9_quarrels_137 rfl ?_
                            refine aw_iald j (rfl) (by omega) (by decide) dX9_quarrels_139 h104 ?_
                            refine aw_toe (nI (ot j)) (rfl) ?_
                            have b2779 := bot j (by omega)
                            refine aw_aload_n 7 dX9_quarrels_140 rfl rfl ?_
                            refine aw_get fX9_62 dX9_quarrels_141 h88 rfl ?_
                            refine aw_iload 3 dX9_quarrels_144 rfl ?_
                            refine aw_iald i (rfl) (by omega) (by decide) dX9_quarrels_146 h104 ?_
                            refine aw_toe (nI (ot i)) (rfl) ?_
                            have b2780 := bot i (by omega)
                            refine aw_icmp_eq 154 dX9_quarrels_147 (by decide) (fun c147 => ?_) (fun c147 => ?_)
                            · have d147 := (nv_eq (a := ot j) (b := ot i) (rfl) (rfl) (by omega) (by omega)).mp c147
                              refine aw_iconst (0) dX9_quarrels_154 (by decide) ?_
                              refine aw_istore [(7, .int 0), (6, .int 0), (8, .int (nI j)), (5, .int (nI i)), (4, .int (nI c)), (2, .int (nI k0)), (1, .int (nI t0)), (0, .ref (G.1 + 88))] dX9_quarrels_155 (by decide) rfl ?_
                              refine aw_iinc (j := 2) (nI (j + 1)) [(8, .int (nI (j + 1))), (7, .int 0), (6, .int 0), (5, .int (nI i)), (4, .int (nI c)), (2, .int (nI k0)), (1, .int (nI t0)), (0, .ref (G.1 + 88))] dX9_quarrels_157 rfl (nv_inc (rfl)) (by decide) rfl ?_
                              refine aw_goto 69 dX9_quarrels_160 (by decide) ?_
                              refine aw_lv [(8, .int (nI (j + 1))), (7, .int 0), (6, .int 0), (5, .int (nI i)), (4, .int (nI c)), (2, .int (nI k0)), (1, .int (nI t0)), (0, .ref (G.1 + 88))] [0, 1, 2, 3, 4, 5, 6, 7] rfl ?_
                              exact ih2774 (j + 1) 0 0 (by omega) (by omega) (dq_0 t130 d147) (fq_0 t86 d103 (Or.inr d118))
                            · have d147 := mt (nv_eq (a := ot j) (b := ot i) (rfl) (rfl) (by omega) (by omega)).mpr c147
                              refine aw_iconst (1) dX9_quarrels_150 (by decide) ?_
                              refine aw_goto 155 dX9_quarrels_151 (by decide) ?_
                              refine aw_istore [(7, .int 1), (6, .int 0), (8, .int (nI j)), (5, .int (nI i)), (4, .int (nI c)), (2, .int (nI k0)), (1, .int (nI t0)), (0, .ref (G.1 + 88))] dX9_quarrels_155 (by decide) rfl ?_
                              refine aw_iinc (j := 2) (nI (j + 1)) [(8, .int (nI (j + 1))), (7, .int 1), (6, .int 0), (5, .int (nI i)), (4, .int (nI c)), (2, .int (nI k0)), (1, .int (nI t0)), (0, .ref (G.1 + 88))] dX9_quarrels_157 rfl (nv_inc (rfl)) (by decide) rfl ?_
                              refine aw_goto 69 dX9_quarrels_160 (by decide) ?_
                              refine aw_lv [(8, .int (nI (j + 1))), (7, .int 1), (6, .int 0), (5, .int (nI i)), (4, .int (nI c)), (2, .int (nI k0)), (1, .int (nI t0)), (0, .ref (G.1 + 88))] [0, 1, 2, 3, 4, 5, 6, 7] rfl ?_
                              exact ih2774 (j + 1) 1 0 (by omega) (by omega) (dq_1 (Or.inr ⟨t86, d103, d147⟩)) (fq_0 t86 d103 (Or.inr d118))
                        · have d118 := mt (nv_lt (a := j) (b := i) (rfl) (rfl) (by omega) (by omega)).mpr c118
                          refine aw_iconst (1) dX9_quarrels_121 (by decide) ?_
                          refine aw_goto 126 dX9_quarrels_122 (by decide) ?_
                          refine aw_istore [(6, .int 1), (8, .int (nI j)), (7, .int (if (dqF th ot dy kn go t0 k0 i j = true) then 1 else 0)), (5, .int (nI i)), (4, .int (nI c)), (2, .int (nI k0)), (1, .int (nI t0)), (0, .ref (G.1 + 88))] dX9_quarrels_126 (by decide) rfl ?_
                          refine aw_iload 2 dX9_quarrels_128 rfl ?_
                          refine aw_if_ne 150 dX9_quarrels_130 (by decide) (fun c130 => ?_) (fun c130 => ?_)
                          · have t130 := ite_1 c130
                            refine aw_iconst (1) dX9_quarrels_150 (by decide) ?_
                            refine aw_goto 155 dX9_quarrels_151 (by decide) ?_
                            refine aw_istore [(7, .int 1), (6, .int 1), (8, .int (nI j)), (5, .int (nI i)), (4, .int (nI c)), (2, .int (nI k0)), (1, .int (nI t0)), (0, .ref (G.1 + 88))] dX9_quarrels_155 (by decide) rfl ?_
                            refine aw_iinc (j := 2) (nI (j + 1)) [(8, .int (nI (j + 1))), (7, .int 1), (6, .int 1), (5, .int (nI i)), (4, .int (nI c)), (2, .int (nI k0)), (1, .int (nI t0)), (0, .ref (G.1 + 88))] dX9_quarrels_157 rfl (nv_inc (rfl)) (by decide) rfl ?_
                            refine aw_goto 69 dX9_quarrels_160 (by decide) ?_
                            refine aw_lv [(8, .int (nI (j + 1))), (7, .int 1), (6, .int 1), (5, .int (nI i)), (4, .int (nI c)), (2, .int (nI k0)), (1, .int (nI t0)), (0, .ref (G.1 + 88))] [0, 1, 2, 3, 4, 5, 6, 7] rfl ?_
                            exact ih2774 (j + 1) 1 1 (by omega) (by omega) (dq_1 (Or.inl t130)) (fq_1 t111 d118)
                          · have t130 := ite_0 c130
                            refine aw_aload_n 7 dX9_quarrels_133 rfl rfl ?_
                            refine aw_get fX9_62 dX9_quarrels_134 h88 rfl ?_
                            refine aw_iload 1 dX9_quarrels_137 rfl ?_
                            refine aw_iald j (rfl) (by omega) (by decide) dX9_quarrels_139 h104 ?_
                            refine aw_toe (nI (ot j)) (rfl) ?_
                            have b2781 := bot j (by omega)
                            refine aw_aload_n 7 dX9_quarrels_140 rfl rfl ?_
                            refine aw_get fX9_62 dX9_quarrels_141 h88 rfl ?_
                            refine aw_iload 3 dX9_quarrels_144 rfl ?_
                            refine aw_iald i (rfl) (by omega) (by decide) dX9_quarrels_146 h104 ?_
                            refine aw_toe (nI (ot i)) (rfl) ?_
                            have b2782 := bot i (by omega)
                            refine aw_icmp_eq 154 dX9_quarrels_147 (by decide) (fun c147 => ?_) (fun c147 => ?_)
                            · have d147 := (nv_eq (a := ot j) (b := ot i) (rfl) (rfl) (by omega) (by omega)).mp c147
                              refine aw_iconst (0) dX9_quarrels_154 (by decide) ?_
                              refine aw_istore [(7, .int 0), (6, .int 1), (8, .int (nI j)), (5, .int (nI i)), (4, .int (nI c)), (2, .int (nI k0)), (1, .int (nI t0)), (0, .ref (G.1 + 88))] dX9_quarrels_155 (by decide) rfl ?_
                              refine aw_iinc (j := 2) (nI (j + 1)) [(8, .int (nI (j + 1))), (7, .int 0), (6, .int 1), (5, .int (nI i)), (4, .int (nI c)), (2, .int (nI k0)), (1, .int (nI t0)), (0, .ref (G.1 + 88))] dX9_quarrels_157 rfl (nv_inc (rfl)) (by decide) rfl ?_
                              refine aw_goto 69 dX9_quarrels_160 (by decide) ?_
                              refine aw_lv [(8, .int (nI (j + 1))), (7, .int 0), (6, .int 1), (5, .int (nI i)), (4, .int (nI c)), (2, .int (nI k0)), (1, .int (nI t0)), (0, .ref (G.1 + 88))] [0, 1, 2, 3, 4, 5, 6, 7] rfl ?_
                              exact ih2774 (j + 1) 0 1 (by omega) (by omega) (dq_0 t130 d147) (fq_1 t111 d118)
                            · have d147 := mt (nv_eq (a := ot j) (b := ot i) (rfl) (rfl) (by omega) (by omega)).mpr c147
                              refine aw_iconst (1) dX9_quarrels_150 (by decide) ?_
                              refine aw_goto 155 dX9_quarrels_151 (by decide) ?_
                              refine aw_istore [(7, .int 1), (6, .int 1), (8, .int (nI j)), (5, .int (nI i)), (4, .int (nI c)), (2, .int (nI k0)), (1, .int (nI t0)), (0, .ref (G.1 + 88))] dX9_quarrels_155 (by decide) rfl ?_
                              refine aw_iinc (j := 2) (nI (j + 1)) [(8, .int (nI (j + 1))), (7, .int 1), (6, .int 1), (5, .int (nI i)), (4, .int (nI c)), (2, .int (nI k0)), (1, .int (nI t0)), (0, .ref (G.1 + 88))] dX9_quarrels_157 rfl (nv_inc (rfl)) (by decide) rfl ?_
                              refine aw_goto 69 dX9_quarrels_160 (by decide) ?_
                              refine aw_lv [(8, .int (nI (j + 1))), (7, .int 1), (6, .int 1), (5, .int (nI i)), (4, .int (nI c)), (2, .int (nI k0)), (1, .int (nI t0)), (0, .ref (G.1 + 88))] [0, 1, 2, 3, 4, 5, 6, 7] rfl ?_
                              exact ih2774 (j + 1) 1 1 (by omega) (by omega) (dq_1 (Or.inr ⟨t86, d103, d147⟩)) (fq_1 t111 d118)
                    · have d103 := mt (nv_eq (a := dy j) (b := dy i) (rfl) (rfl) (by omega) (by omega)).mpr c103
                      refine aw_goto 157 dX9_quarrels_106 (by decide) ?_
                      refine aw_iinc (j := 0) (nI (j + 1)) [(8, .int (nI (j + 1))), (7, .int (if (dqF th ot dy kn go t0 k0 i j = true) then 1 else 0)), (6, .int (if (fqF th dy kn go t0 k0 i j = true) then 1 else 0)), (5, .int (nI i)), (4, .int (nI c)), (2, .int (nI k0)), (1, .int (nI t0)), (0, .ref (G.1 + 88))] dX9_quarrels_157 rfl (nv_inc (rfl)) (by decide) rfl ?_
                      refine aw_goto 69 dX9_quarrels_160 (by decide) ?_
                      refine aw_lv [(8, .int (nI (j + 1))), (7, .int (if (dqF th ot dy kn go t0 k0 i j = true) then 1 else 0)), (6, .int (if (fqF th dy kn go t0 k0 i j = true) then 1 else 0)), (5, .int (nI i)), (4, .int (nI c)), (2, .int (nI k0)), (1, .int (nI t0)), (0, .ref (G.1 + 88))] [0, 1, 2, 3, 4, 5, 6, 7] rfl ?_
                      exact ih2774 (j + 1) (if (dqF th ot dy kn go t0 k0 i j = true) then 1 else 0) (if (fqF th dy kn go t0 k0 i j = true) then 1 else 0) (by omega) (by omega) (by rw [dq_k (fun c => d103 c.2)]) (by rw [fq_k (fun c => d103 c.2)])
          · have t54 := ite_0 c54
            refine aw_goto 183 dX9_quarrels_57 (by decide) ?_
            refine aw_iinc (j := 0) (nI (i + 1)) [(5, .int (nI (i + 1))), (4, .int (nI c)), (2, .int (nI k0)), (1, .int (nI t0)), (0, .ref (G.1 + 88))] dX9_quarrels_183 rfl (nv_inc (rfl)) (by decide) rfl ?_
            refine aw_goto 37 dX9_quarrels_186 (by decide) ?_
            refine aw_lv [(5, .int (nI (i + 1))), (4, .int (nI c)), (2, .int (nI k0)), (1, .int (nI t0)), (0, .ref (G.1 + 88))] [0, 1, 2, 3, 4] rfl ?_
            exact ih2773 (i + 1) c (by omega) (by omega) (hc.trans (qn_n t54).symm)
    · have d22 := mt (j_eq (a := (wrF k 0 80000).toInt) (b := (0)) (rfl) (rfl)).mpr c22
      refine aw_aload_n 1 dX9_quarrels_25 rfl rfl ?_
      refine aw_iload_n 0 dX9_quarrels_26 rfl rfl ?_
      obtain ⟨q2783, bq2783, eq2783⟩ := Or.resolve_left (wrF_q k 0 80000) (by assumption)
      refine aw_eV [.int (wrF k 0 80000)] [] lX9_130 vX9_refuse mX9_refuse dX9_quarrels_27 (bX9_refuse (sp := sp) (fa := fa) (nb := nb) (ns := ns) (nm := nm) (nv := nv) (sh := sh) (ho := ho) (ow := ow) (sl := sl) (rg := rg) (x := (wrF k 0 80000)) (q := q2783) h88 h89 bq2783 eq2783) h88 rfl rfl rfl (Nat.le_of_ble_eq_true rfl) (by decide) (by decide) rfl (fun h2786 q2785 => ?_)
      obtain ⟨rg12784, f2787, k2788⟩ := q2785
      have f2789 := rng_at k2788 (by decide) h88
      have f2790 := rng_at k2788 (by decide) h103
      have f2791 := rng_at k2788 (by decide) h104
      have f2792 := rng_at k2788 (by decide) h105
      have f2793 := rng_at k2788 (by decide) h106
      have f2794 := rng_at k2788 (by decide) h107
      subst hQF
      exact aw_iret rfl dX9_quarrels_30 (by decide) (by decide) ⟨by rw [if_pos (by omega), if_neg (by rw [← wr_dy]; exact c22), wr_dy], _, f2787, rng_tr (rng_rf 89 89 h) (rng_w k2788 (by decide) (by decide))⟩
