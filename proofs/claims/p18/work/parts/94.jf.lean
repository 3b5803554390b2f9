set_option maxHeartbeats 4000000 in
theorem oX8_copied_J {l : Launch} {G : xG} {h : List va_E} {bv : Value} {J u v ro co : Nat} {rc : Nat → Nat} {lk bs wy nw : Nat → Int32} {P pv : Nat} {su wa : Int32} {pt ce : Nat → Int32} {m se ye fi : Nat → Nat} {W Sn Z Ro Co : Nat → Int32} {Ba : Nat → Int64} {nb sp fa ve : Nat} {a b : Nat} {k : Nat} (h0 : h[0]? = some (oB 8 (lX G (.ref (G.1 + J)) (bv)))) (h1 : h[1]? = some (oB 1 (lC G (nI nb) (nI sp) (nI fa) (nI ve)))) (h2 : h[2]? = some (aI 20 (nA m))) (h3 : h[3]? = some (aI 20 (nA se))) (h4 : h[4]? = some (aI 4 (nA ye))) (h5 : h[5]? = some (aI 4 (nA fi))) (h6 : h[6]? = some (aI 40 W)) (h7 : h[7]? = some (aI 40 Sn)) (h8 : h[8]? = some (aI 40 Z)) (h9 : h[9]? = some (aI 40 Ro)) (h10 : h[10]? = some (aI 40 Co)) (h11 : h[11]? = some (aL 40 Ba)) (h12 : h[12]? = some (aR 16 (xjo G.1 16))) (hJ : h[J]? = some (oB 3 (lJ G J (.ref (G.1 + u)) (.ref (G.1 + v)) (nI ro) (nI co)))) (hJ_1 : h[J + 1]? = some (aI 100 lk)) (hJ_2 : h[J + 2]? = some (aI 11 (nA rc))) (hJ_3 : h[J + 3]? = some (aI 11264 bs)) (hu : h[u]? = some (aI 1024 wy)) (hv : h[v]? = some (aI 1024 nw)) (hP : h[P]? = some (oB 4 (lG G P su wa (nI pv)))) (hP_1 : h[P + 1]? = some (aI 10 pt)) (hP_2 : h[P + 2]? = some (aZ 10 ce)) (ba : a < 4) (bb : b < 4) (bk : k < fi b) (hy : ye a < ye b) (qu : J + 4 ≤ u ∧ u ≤ J + 5) (qv : J + 4 ≤ v ∧ v ≤ J + 5) (quv : u ≠ v) (hrc : ∀ j, j < 11 → rc j < 1024) (qP : P + 2 < J) (hm : ∀ j, j < 20 → m j ≤ j) (hse : ∀ j, j < 20 → se j < 20) (hfi : ∀ j, j < 4 → fi j < 11) (hye : ∀ j, j < 4 → ye j < 1901) (qJ : 125 ≤ J) (qP1 : 12 < P) (hpt : pB pt) (eP : P = 13 + 3 * (a * 4 + b)) (bpv : pv ≤ 600) (bve : ve ≤ 600) : CU l G yX8_copied cX8_copied 6 (some .int) 6 0 0 [.ref (G.1 + 0), .int (nI a), .int (nI b), .int (nI k)] h (fun r h1 => ∃ u1 : Nat, ∃ v1 : Nat, ∃ ro1 : Nat, ∃ co1 : Nat, ∃ rc1 : Nat → Nat, ∃ lk1 : Nat → Int32, ∃ bs1 : Nat → Int32, ∃ wy1 : Nat → Int32, ∃ nw1 : Nat → Int32, ∃ su1 : Int32, ∃ wa1 : Int32, ∃ pt1 : Nat → Int32, ∃ ce1 : Nat → Int32, h1[J]? = some (oB 3 (lJ G J (.ref (G.1 + u1)) (.ref (G.1 + v1)) (nI ro1) (nI co1))) ∧ h1[J + 1]? = some (aI 100 lk1) ∧ h1[J + 2]? = some (aI 11 (nA rc1)) ∧ h1[J + 3]? = some (aI 11264 bs1) ∧ h1[u1]? = some (aI 1024 wy1) ∧ h1[v1]? = some (aI 1024 nw1) ∧ h1[P]? = some (oB 4 (lG G P su1 wa1 (nI ve))) ∧ h1[P + 1]? = some (aI 10 pt1) ∧ h1[P + 2]? = some (aZ 10 ce1) ∧ rg2 P (P + 2) J (J + 5) h h1 ∧ (J + 4 ≤ u1 ∧ u1 ≤ J + 5) ∧ (J + 4 ≤ v1 ∧ v1 ≤ J + 5) ∧ u1 ≠ v1 ∧ (∀ j, j < 11 → rc1 j < 1024) ∧ pB pt1 ∧ True) := by
  refine cm_ofQ rfl (Nat.le_of_ble_eq_true rfl) [(0, .ref (G.1 + 0)), (1, .int (nI a)), (2, .int (nI b)), (3, .int (nI k))] rfl (fun QF hQF => ?_)
  have tt_a : (nI a).toInt = (a : Int) := nI_toInt (by omega)
  have nn_a : tn (nI a) = a := tn_nI (by omega)
  have tt_b : (nI b).toInt = (b : Int) := nI_toInt (by omega)
  have nn_b : tn (nI b) = b := tn_nI (by omega)
  have hf_a : fi (tn (nI a)) = fi a := by rw [nn_a]
  have hg_a := hfi a (by omega)
  have hf_b : fi (tn (nI b)) = fi b := by rw [nn_b]
  have hg_b := hfi b (by omega)
  have tt_k : (nI k).toInt = (k : Int) := nI_toInt (by omega)
  have nn_k : tn (nI k) = k := tn_nI (by omega)
  refine aw_iload_n 1 dX8_copied_0 rfl rfl ?_
  refine aw_dS [.int (nI a)] [] lX8_81 sX8_isCatalogue mX8_isCatalogue dX8_copied_1 (bX8_isCatalogue (x := (nI a)) ) rfl (Nat.le_of_ble_eq_true rfl) (by decide) (by decide) rfl ?_
  refine aw_if_eq 16 dX8_copied_4 (by decide) (fun c4 => ?_) (fun c4 => ?_)
  · have t4 := ite_0 c4
    exfalso
    omega
  · have t4 := ite_1 c4
    refine aw_aload_n 0 dX8_copied_7 rfl rfl ?_
    refine aw_iload_n 2 dX8_copied_8 rfl rfl ?_
    refine aw_iload_n 3 dX8_copied_9 rfl rfl ?_
    refine aw_dV [.int (nI b), .int (nI k)] [] lX8_107 vX8_isEntry mX8_isEntry dX8_copied_10 (bX8_isEntry (jv := .ref (G.1 + J)) (bv := bv) (fi := fi) (nb := nb) (sp := sp) (fa := fa) (ve := ve) (c := (nI b)) (i := (nI k)) h0 h1 h5 hfi) h0 rfl rfl rfl (Nat.le_of_ble_eq_true rfl) (by decide) (by decide) rfl ?_
    refine aw_if_ne 22 dX8_copied_13 (by decide) (fun c13 => ?_) (fun c13 => ?_)
    · have t13 := ite_1 c13
      refine aw_aload_n 0 dX8_copied_22 rfl rfl ?_
      refine aw_get fX8_20 dX8_copied_23 h0 rfl ?_
      refine aw_get fX8_148 dX8_copied_26 h1 rfl ?_
      refine aw_iload_n 2 dX8_copied_29 rfl rfl ?_
      refine aw_iald b (rfl) (by omega) (by decide) dX8_copied_30 h4 ?_
      refine aw_toe (nI (ye b)) (rfl) ?_
      have b4712 := hye b (by omega)
      refine aw_aload_n 0 dX8_copied_31 rfl rfl ?_
      refine aw_get fX8_20 dX8_copied_32 h0 rfl ?_
      refine aw_get fX8_148 dX8_copied_35 h1 rfl ?_
      refine aw_iload_n 1 dX8_copied_38 rfl rfl ?_
      refine aw_iald a (rfl) (by omega) (by decide) dX8_copied_39 h4 ?_
      refine aw_toe (nI (ye a)) (rfl) ?_
      have b4713 := hye a (by omega)
      refine aw_icmp_gt 50 dX8_copied_40 (by decide) (fun c40 => ?_) (fun c40 => ?_)
      · have d40 := (nv_lt (a := ye a) (b := ye b) (rfl) (rfl) (by omega) (by omega)).mp c40
        refine aw_aload_n 0 dX8_copied_50 rfl rfl ?_
        refine aw_iload_n 1 dX8_copied_51 rfl rfl ?_
        refine aw_iload_n 2 dX8_copied_52 rfl rfl ?_
        refine aw_eV [.int (nI a), .int (nI b)] [] lX8_124 vX8_bestJoining mX8_bestJoining dX8_copied_53 (bJ (bv := bv) (J := J) (u := u) (v := v) (ro := ro) (co := co) (rc := rc) (lk := lk) (bs := bs) (wy := wy) (nw := nw) (P := P) (pv := pv) (su := su) (wa := wa) (pt := pt) (ce := ce) (m := m) (se := se) (ye := ye) (fi := fi) (W := W) (Sn := Sn) (Z := Z) (Ro := Ro) (Co := Co) (Ba := Ba) (nb := nb) (sp := sp) (fa := fa) (ve := ve) (a := a) (b := b) h0 h1 h2 h3 h4 h5 h6 h7 h8 h9 h10 h11 h12 hJ hJ_1 hJ_2 hJ_3 hu hv hP hP_1 hP_2 (by omega) (by omega) (by omega) hrc (by omega) hm hse hfi hye (by omega) (by omega) (by omega) (by omega) (by omega) (by omega) (by omega) (by omega)) h0 rfl rfl rfl (Nat.le_of_ble_eq_true rfl) (by decide) (by decide) rfl (fun h4728 q4727 => ?_)
        obtain ⟨u14714, v14715, ro14716, co14717, rc14718, lk14719, bs14720, wy14721, nw14722, su14723, wa14724, pt14725, ce14726, f4729, f4730, f4731, f4732, f4733, f4734, f4735, f4736, f4737, k4738, p4739, p4740, p4741, p4742, p4743⟩ := q4727
        have f4744 := rg2_at k4738 (by omega) h0
        have f4745 := rg2_at k4738 (by omega) h1
        have f4746 := rg2_at k4738 (by omega) h2
        have f4747 := rg2_at k4738 (by omega) h3
        have f4748 := rg2_at k4738 (by omega) h4
        have f4749 := rg2_at k4738 (by omega) h5
        have f4750 := rg2_at k4738 (by omega) h6
        have f4751 := rg2_at k4738 (by omega) h7
        have f4752 := rg2_at k4738 (by omega) h8
        have f4753 := rg2_at k4738 (by omega) h9
        have f4754 := rg2_at k4738 (by omega) h10
        have f4755 := rg2_at k4738 (by omega) h11
        have f4756 := rg2_at k4738 (by omega) h12
        refine aw_astore [(4, .ref (G.1 + P)), (0, .ref (G.1 + 0)), (1, .int (nI a)), (2, .int (nI b)), (3, .int (nI k))] dX8_copied_56 (by decide) rfl ?_
        refine aw_iconst (0) dX8_copied_58 (by decide) ?_
        refine aw_istore [(5, .int 0), (4, .ref (G.1 + P)), (0, .ref (G.1 + 0)), (1, .int (nI a)), (2, .int (nI b)), (3, .int (nI k))] dX8_copied_59 (by decide) rfl ?_
        refine aw_lv [(5, .int 0), (4, .ref (G.1 + P)), (3, .int (nI k)), (2, .int (nI b)), (1, .int (nI a)), (0, .ref (G.1 + 0))] [0, 1, 5, 4, 3, 2] rfl ?_
        suffices L4781 : ∀ (mm : Nat) (i : Nat) (h4757 : List va_E), fi a - i < mm → (i ≤ fi a) → h4757[J]? = some (oB 3 (lJ G J (.ref (G.1 + u14714)) (.ref (G.1 + v14715)) (nI ro14716) (nI co14717))) → h4757[J + 1]? = some (aI 100 lk14719) → h4757[J + 2]? = some (aI 11 (nA rc14718)) → h4757[J + 3]? = some (aI 11264 bs14720) → h4757[u14714]? = some (aI 1024 wy14721) → h4757[v14715]? = some (aI 1024 nw14722) → h4757[P]? = some (oB 4 (lG G P su14723 wa14724 (nI ve))) → h4757[P + 1]? = some (aI 10 pt14725) → h4757[P + 2]? = some (aZ 10 ce14726) → h4757[0]? = some (oB 8 (lX G (.ref (G.1 + J)) (bv))) → h4757[1]? = some (oB 1 (lC G (nI nb) (nI sp) (nI fa) (nI ve))) → h4757[2]? = some (aI 20 (nA m)) → h4757[3]? = some (aI 20 (nA se)) → h4757[4]? = some (aI 4 (nA ye)) → h4757[5]? = some (aI 4 (nA fi)) → h4757[6]? = some (aI 40 W) → h4757[7]? = some (aI 40 Sn) → h4757[8]? = some (aI 40 Z) → h4757[9]? = some (aI 40 Ro) → h4757[10]? = some (aI 40 Co) → h4757[11]? = some (aL 40 Ba) → h4757[12]? = some (aR 16 (xjo G.1 16)) → rg2 P (P + 2) J (J + 5) h h4757 → AW l G yX8_copied cX8_copied 6 (some .int) (xR 6 0 0) (fun _ _ => True) QF 0 0 61 [(5, .int (nI i)), (4, .ref (G.1 + P)), (3, .int (nI k)), (2, .int (nI b)), (1, .int (nI a)), (0, .ref (G.1 + 0))] [] h4757 from L4781 (fi a - 0 + 1) 0 _ (Nat.lt_succ_self _) (Nat.zero_le _) f4729 f4730 f4731 f4732 f4733 f4734 f4735 f4736 f4737 f4744 f4745 f4746 f4747 f4748 f4749 f4750 f4751 f4752 f4753 f4754 f4755 f4756 (rg2_tr (rg2_rf P (P + 2) J (J + 5) h) (rg2_w2 k4738 (by omega) (by omega)))
        intro mm
        induction mm with
        | zero =>
          intro i h4757 hmm hi f4758 f4759 f4760 f4761 f4762 f4763 f4764 f4765 f4766 f4767 f4768 f4769 f4770 f4771 f4772 f4773 f4774 f4775 f4776 f4777 f4778 f4779 k4780
          exact absurd hmm (Nat.not_lt_zero _)
        | succ mm ih4781 =>
          intro i h4757 hmm hi f4758 f4759 f4760 f4761 f4762 f4763 f4764 f4765 f4766 f4767 f4768 f4769 f4770 f4771 f4772 f4773 f4774 f4775 f4776 f4777 f4778 f4779 k4780
          refine aw_iload 0 dX8_copied_61 rfl ?_
          refine aw_aload_n 5 dX8_copied_63 rfl rfl ?_
          refine aw_get fX8_20 dX8_copied_64 f4767 rfl ?_
          refine aw_get fX8_91 dX8_copied_67 f4768 rfl ?_
          refine aw_iload_n 4 dX8_copied_70 rfl rfl ?_
          refine aw_iald a (rfl) (by omega) (by decide) dX8_copied_71 f4772 ?_
          refine aw_toe (nI (fi a)) (rfl) ?_
          have b4782 := hfi a (by omega)
          refine aw_icmp_ge 119 dX8_copied_72 (by decide) (fun c72 => ?_) (fun c72 => ?_)
          · have d72 := (nv_le (a := fi a) (b := i) (rfl) (rfl) (by omega) (by omega)).mp c72
            refine aw_bipush (-9) dX8_copied_119 (by decide) ?_
            subst hQF
            exact aw_iret rfl dX8_copied_121 (by decide) (by decide) ⟨_, rfl, _, _, _, _, _, _, _, _, _, _, _, _, _, f4758, f4759, f4760, f4761, f4762, f4763, f4764, f4765, f4766, k4780, p4739, p4740, p4741, p4742, p4743, trivial⟩
          · have d72 := mt (nv_le (a := fi a) (b := i) (rfl) (rfl) (by omega) (by omega)).mpr c72
            refine aw_aload 1 dX8_copied_75 rfl ?_
            refine aw_get fX8_131 dX8_copied_77 f4764 rfl ?_
            refine aw_iload 0 dX8_copied_80 rfl ?_
            refine aw_iald i (rfl) (by omega) (by decide) dX8_copied_82 f4765 ?_
            refine aw_iload_n 2 dX8_copied_83 rfl rfl ?_
            refine aw_icmp_eq 113 dX8_copied_84 (by decide) (fun c84 => ?_) (fun c84 => ?_)
            · have d84 := (j_eq (a := (pt14725 i).toInt) (b := ((k : Nat) : Int)) (rfl) (i_toNat (rfl) (by omega))).mp c84
              refine aw_iinc (j := 0) (nI (i + 1)) [(5, .int (nI (i + 1))), (4, .ref (G.1 + P)), (3, .int (nI k)), (2, .int (nI b)), (1, .int (nI a)), (0, .ref (G.1 + 0))] dX8_copied_113 rfl (nv_inc (rfl)) (by decide) rfl ?_
              refine aw_goto 61 dX8_copied_116 (by decide) ?_
              refine aw_lv [(5, .int (nI (i + 1))), (4, .ref (G.1 + P)), (3, .int (nI k)), (2, .int (nI b)), (1, .int (nI a)), (0, .ref (G.1 + 0))] [0, 1, 2, 3, 4, 5] rfl ?_
              exact ih4781 (i + 1) _ (by omega) (by omega) f4758 f4759 f4760 f4761 f4762 f4763 f4764 f4765 f4766 f4767 f4768 f4769 f4770 f4771 f4772 f4773 f4774 f4775 f4776 f4777 f4778 f4779 (k4780)
            · have d84 := mt (j_eq (a := (pt14725 i).toInt) (b := ((k : Nat) : Int)) (rfl) (i_toNat (rfl) (by omega))).mpr c84
              refine aw_aload_n 5 dX8_copied_87 rfl rfl ?_
              refine aw_get fX8_20 dX8_copied_88 f4767 rfl ?_
              refine aw_iload_n 4 dX8_copied_91 rfl rfl ?_
              refine aw_bipush (10) dX8_copied_92 (by decide) ?_
              refine aw_imul dX8_copied_94 ?_
              refine aw_toe (nI (a * 10)) (nv_mul (rfl) (rfl)) ?_
              refine aw_iload 0 dX8_copied_95 rfl ?_
              refine aw_iadd dX8_copied_97 ?_
              refine aw_toe (nI ((a * 10) + i)) (nv_add (rfl) (rfl)) ?_
              refine aw_iload_n 3 dX8_copied_98 rfl rfl ?_
              refine aw_bipush (10) dX8_copied_99 (by decide) ?_
              refine aw_imul dX8_copied_101 ?_
              refine aw_toe (nI (b * 10)) (nv_mul (rfl) (rfl)) ?_
              refine aw_iload_n 2 dX8_copied_102 rfl rfl ?_
              refine aw_iadd dX8_copied_103 ?_
              refine aw_toe (nI ((b * 10) + k)) (nv_add (rfl) (rfl)) ?_
              refine aw_dV [.int (nI ((a * 10) + i)), .int (nI ((b * 10) + k))] [] lX8_151 vX1_isSameText mX1_isSameText dX8_copied_104 (aX1_isSameText (m := m) (se := se) (ye := ye) (fi := fi) (W := W) (Sn := Sn) (Z := Z) (Ro := Ro) (Co := Co) (Ba := Ba) (nb := nb) (sp := sp) (fa := fa) (ve := ve) (e := (a * 10) + i) (f := (b * 10) + k) f4768 f4769 f4770 f4771 f4772 f4773 f4774 f4775 f4776 f4777 f4778 hm hse hfi hye (by omega) (by omega)) f4768 rfl rfl rfl (Nat.le_of_ble_eq_true rfl) (by decide) (by decide) rfl ?_
              refine aw_if_eq 113 dX8_copied_107 (by decide) (fun c107 => ?_) (fun c107 => ?_)
              · have t107 := ite_0 c107
                refine aw_iinc (j := 0) (nI (i + 1)) [(5, .int (nI (i + 1))), (4, .ref (G.1 + P)), (3, .int (nI k)), (2, .int (nI b)), (1, .int (nI a)), (0, .ref (G.1 + 0))] dX8_copied_113 rfl (nv_inc (rfl)) (by decide) rfl ?_
                refine aw_goto 61 dX8_copied_116 (by decide) ?_
                refine aw_lv [(5, .int (nI (i + 1))), (4, .ref (G.1 + P)), (3, .int (nI k)), (2, .int (nI b)), (1, .int (nI a)), (0, .ref (G.1 + 0))] [0, 1, 2, 3, 4, 5] rfl ?_
                exact ih4781 (i + 1) _ (by omega) (by omega) f4758 f4759 f4760 f4761 f4762 f4763 f4764 f4765 f4766 f4767 f4768 f4769 f4770 f4771 f4772 f4773 f4774 f4775 f4776 f4777 f4778 f4779 (k4780)
              · have t107 := ite_1 c107
                refine aw_iload 0 dX8_copied_110 rfl ?_
                subst hQF
                exact aw_iret rfl dX8_copied_112 (by decide) (by decide) ⟨_, rfl, _, _, _, _, _, _, _, _, _, _, _, _, _, f4758, f4759, f4760, f4761, f4762, f4763, f4764, f4765, f4766, k4780, p4739, p4740, p4741, p4742, p4743, trivial⟩
      · have d40 := mt (nv_lt (a := ye a) (b := ye b) (rfl) (rfl) (by omega) (by omega)).mpr c40
        exfalso
        omega
    · have t13 := ite_0 c13
      exfalso
      omega
set_option maxHeartbeats 4000000 in
theorem oX8_copied_n {l : Launch} {G : xG} {h : List va_E} {bv : Value} {J : Nat} {P pv : Nat} {su wa : Int32} {pt ce : Nat → Int32} {m se ye fi : Nat → Nat} {W Sn Z Ro Co : Nat → Int32} {Ba : Nat → Int64} {nb sp fa ve : Nat} {a b : Nat} {k : Nat} (h0 : h[0]? = some (oB 8 (lX G (.null) (bv)))) (h1 : h[1]? = some (oB 1 (lC G (nI nb) (nI sp) (nI fa) (nI ve)))) (h2 : h[2]? = some (aI 20 (nA m))) (h3 : h[3]? = some (aI 20 (nA se))) (h4 : h[4]? = some (aI 4 (nA ye))) (h5 : h[5]? = some (aI 4 (nA fi))) (h6 : h[6]? = some (aI 40 W)) (h7 : h[7]? = some (aI 40 Sn)) (h8 : h[8]? = some (aI 40 Z)) (h9 : h[9]? = some (aI 40 Ro)) (h10 : h[10]? = some (aI 40 Co)) (h11 : h[11]? = some (aL 40 Ba)) (h12 : h[12]? = some (aR 16 (xjo G.1 16))) (hP : h[P]? = some (oB 4 (lG G P su wa (nI pv)))) (hP_1 : h[P + 1]? = some (aI 10 pt)) (hP_2 : h[P + 2]? = some (aZ 10 ce)) (ba : a < 4) (bb : b < 4) (bk : k < fi b) (hy : ye a < ye b) (hl : h.length = J) (hm : ∀ j, j < 20 → m j ≤ j) (hse : ∀ j, j < 20 → se j < 20) (hfi : ∀ j, j < 4 → fi j < 11) (hye : ∀ j, j < 4 → ye j < 1901) (qJ : 125 ≤ J) (qP : P + 2 < J) (qP1 : 12 < P) (hpt : pB pt) (eP : P = 13 + 3 * (a * 4 + b)) (bpv : pv ≤ 600) (bve : ve ≤ 600) (hvv : ¬ pv = ve) : CU l G yX8_copied cX8_copied 6 (some .int) 6 6 13430 [.ref (G.1 + 0), .int (nI a), .int (nI b), .int (nI k)] h (fun r h1 => ∃ u1 : Nat, ∃ v1 : Nat, ∃ ro1 : Nat, ∃ co1 : Nat, ∃ rc1 : Nat → Nat, ∃ lk1 : Nat → Int32, ∃ bs1 : Nat → Int32, ∃ wy1 : Nat → Int32, ∃ nw1 : Nat → Int32, ∃ su1 : Int32, ∃ wa1 : Int32, ∃ pt1 : Nat → Int32, ∃ ce1 : Nat → Int32, h1[0]? = some (oB 8 (lX G (.ref (G.1 + J)) (bv))) ∧ h1[J]? = some (oB 3 (lJ G J (.ref (G.1 + u1)) (.ref (G.1 + v1)) (nI ro1) (nI co1))) ∧ h1[J + 1]? = some (aI 100 lk1) ∧ h1[J + 2]? = some (aI 11 (nA rc1)) ∧ h1[J + 3]? = some (aI 11264 bs1) ∧ h1[u1]? = some (aI 1024 wy1) ∧ h1[v1]? = some (aI 1024 nw1) ∧ h1[P]? = some (oB 4 (lG G P su1 wa1 (nI ve))) ∧ h1[P + 1]? = some (aI 10 pt1) ∧ h1[P + 2]? = some (aZ 10 ce1) ∧ grw 0 0 P (P + 2) h h1 ∧ (J + 4 ≤ u1 ∧ u1 ≤ J + 5) ∧ (J + 4 ≤ v1 ∧ v1 ≤ J + 5) ∧ u1 ≠ v1 ∧ (∀ j, j < 11 → rc1 j < 1024) ∧ pB pt1 ∧ h1.length = J + 6 ∧ True) := by
  refine cm_ofQ rfl (Nat.le_of_ble_eq_true rfl) [(0, .ref (G.1 + 0)), (1, .int (nI a)), (2, .int (nI b)), (3, .int (nI k))] rfl (fun QF hQF => ?_)
  have tt_a : (nI a).toInt = (a : Int) := nI_toInt (by omega)
  have nn_a : tn (nI a) = a := tn_nI (by omega)
  have tt_b : (nI b).toInt = (b : Int) := nI_toInt (by omega)
  have nn_b : tn (nI b) = b := tn_nI (by omega)
  have hf_a : fi (tn (nI a)) = fi a := by rw [nn_a]
  have hg_a := hfi a (by omega)
  have hf_b : fi (tn (nI b)) = fi b := by rw [nn_b]
  have hg_b := hfi b (by omega)
  have tt_k : (nI k).toInt = (k : Int) := nI_toInt (by omega)
  have nn_k : tn (nI k) = k := tn_nI (by omega)
  refine aw_iload_n 1 dX8_copied_0 rfl rfl ?_
  refine aw_dS [.int (nI a)] [] lX8_81 sX8_isCatalogue mX8_isCatalogue dX8_copied_1 (bX8_isCatalogue (x := (nI a)) ) rfl (Nat.le_of_ble_eq_true rfl) (by decide) (by decide) rfl ?_
  refine aw_if_eq 16 dX8_copied_4 (by decide) (fun c4 => ?_) (fun c4 => ?_)
  · have t4 := ite_0 c4
    exfalso
    omega
  · have t4 := ite_1 c4
    refine aw_aload_n 0 dX8_copied_7 rfl rfl ?_
    refine aw_iload_n 2 dX8_copied_8 rfl rfl ?_
    refine aw_iload_n 3 dX8_copied_9 rfl rfl ?_
    refine aw_dV [.int (nI b), .int (nI k)] [] lX8_107 vX8_isEntry mX8_isEntry dX8_copied_10 (bX8_isEntry (jv := .null) (bv := bv) (fi := fi) (nb := nb) (sp := sp) (fa := fa) (ve := ve) (c := (nI b)) (i := (nI k)) h0 h1 h5 hfi) h0 rfl rfl rfl (Nat.le_of_ble_eq_true rfl) (by decide) (by decide) rfl ?_
    refine aw_if_ne 22 dX8_copied_13 (by decide) (fun c13 => ?_) (fun c13 => ?_)
    · have t13 := ite_1 c13
      refine aw_aload_n 0 dX8_copied_22 rfl rfl ?_
      refine aw_get fX8_20 dX8_copied_23 h0 rfl ?_
      refine aw_get fX8_148 dX8_copied_26 h1 rfl ?_
      refine aw_iload_n 2 dX8_copied_29 rfl rfl ?_
      refine aw_iald b (rfl) (by omega) (by decide) dX8_copied_30 h4 ?_
      refine aw_toe (nI (ye b)) (rfl) ?_
      have b4783 := hye b (by omega)
      refine aw_aload_n 0 dX8_copied_31 rfl rfl ?_
      refine aw_get fX8_20 dX8_copied_32 h0 rfl ?_
      refine aw_get fX8_148 dX8_copied_35 h1 rfl ?_
      refine aw_iload_n 1 dX8_copied_38 rfl rfl ?_
      refine aw_iald a (rfl) (by omega) (by decide) dX8_copied_39 h4 ?_
      refine aw_toe (nI (ye a)) (rfl) ?_
      have b4784 := hye a (by omega)
      refine aw_icmp_gt 50 dX8_copied_40 (by decide) (fun c40 => ?_) (fun c40 => ?_)
      · have d40 := (nv_lt (a := ye a) (b := ye b) (rfl) (rfl) (by omega) (by omega)).mp c40
        refine aw_aload_n 0 dX8_copied_50 rfl rfl ?_
        refine aw_iload_n 1 dX8_copied_51 rfl rfl ?_
        refine aw_iload_n 2 dX8_copied_52 rfl rfl ?_
        refine aw_eV [.int (nI a), .int (nI b)] [] lX8_124 vX8_bestJoining mX8_bestJoining dX8_copied_53 (bJ_n (bv := bv) (P := P) (pv := pv) (su := su) (wa := wa) (pt := pt) (ce := ce) (m := m) (se := se) (ye := ye) (fi := fi) (W := W) (Sn := Sn) (Z := Z) (Ro := Ro) (Co := Co) (Ba := Ba) (nb := nb) (sp := sp) (fa := fa) (ve := ve) (a := a) (b := b) h0 h1 h2 h3 h4 h5 h6 h7 h8 h9 h10 h11 h12 hP hP_1 hP_2 (by omega) hm hse hfi hye (by omega) (by omega) (by omega) (by omega) (by omega) (by omega) (by omega) (by omega) (by omega) (by omega)) h0 rfl rfl rfl (Nat.le_of_ble_eq_true rfl) (by decide) (by decide) rfl (fun h4799 q4798 => ?_)
        obtain ⟨u14785, v14786, ro14787, co14788, rc14789, lk14790, bs14791, wy14792, nw14793, su14794, wa14795, pt14796, ce14797, f4800, f4801, f4802, f4803, f4804, f4805, f4806, f4807, f4808, f4809, k4810, p4811, p4812, p4813, p4814, p4815, p4816⟩ := q4798
        have f4817 := grw_at k4810 (by omega) h1
        have f4818 := grw_at k4810 (by omega) h2
        have f4819 := grw_at k4810 (by omega) h3
        have f4820 := grw_at k4810 (by omega) h4
        have f4821 := grw_at k4810 (by omega) h5
        have f4822 := grw_at k4810 (by omega) h6
        have f4823 := grw_at k4810 (by omega) h7
        have f4824 := grw_at k4810 (by omega) h8
        have f4825 := grw_at k4810 (by omega) h9
        have f4826 := grw_at k4810 (by omega) h10
        have f4827 := grw_at k4810 (by omega) h11
        have f4828 := grw_at k4810 (by omega) h12
        refine aw_astore [(4, .ref (G.1 + P)), (0, .ref (G.1 + 0)), (1, .int (nI a)), (2, .int (nI b)), (3, .int (nI k))] dX8_copied_56 (by decide) rfl ?_
        refine aw_iconst (0) dX8_copied_58 (by decide) ?_
        refine aw_istore [(5, .int 0), (4, .ref (G.1 + P)), (0, .ref (G.1 + 0)), (1, .int (nI a)), (2, .int (nI b)), (3, .int (nI k))] dX8_copied_59 (by decide) rfl ?_
        have hln := p4816
        refine aw_lv [(5, .int 0), (4, .ref (G.1 + P)), (3, .int (nI k)), (2, .int (nI b)), (1, .int (nI a)), (0, .ref (G.1 + 0))] [0, 1, 5, 4, 3, 2] rfl ?_
        suffices L4829 : ∀ (mm : Nat) (i : Nat), fi a - i < mm → (i ≤ fi a) → AW l G yX8_copied cX8_copied 6 (some .int) (xR 6 6 13430) (fun _ _ => True) QF (0 + 6) (0 + 13430) 61 [(5, .int (nI i)), (4, .ref (G.1 + P)), (3, .int (nI k)), (2, .int (nI b)), (1, .int (nI a)), (0, .ref (G.1 + 0))] [] h4799 from L4829 (fi a - 0 + 1) 0 (Nat.lt_succ_self _) (Nat.zero_le _)
        intro mm
        induction mm with
        | zero =>
          intro i hmm hi
          exact absurd hmm (Nat.not_lt_zero _)
        | succ mm ih4829 =>
          intro i hmm hi
          refine aw_iload 0 dX8_copied_61 rfl ?_
          refine aw_aload_n 5 dX8_copied_63 rfl rfl ?_
          refine aw_get fX8_20 dX8_copied_64 f4800 rfl ?_
          refine aw_get fX8_91 dX8_copied_67 f4817 rfl ?_
          refine aw_iload_n 4 dX8_copied_70 rfl rfl ?_
          refine aw_iald a (rfl) (by omega) (by decide) dX8_copied_71 f4821 ?_
          refine aw_toe (nI (fi a)) (rfl) ?_
          have b4830 := hfi a (by omega)
          refine aw_icmp_ge 119 dX8_copied_72 (by decide) (fun c72 => ?_) (fun c72 => ?_)
          · have d72 := (nv_le (a := fi a) (b := i) (rfl) (rfl) (by omega) (by omega)).mp c72
            refine aw_bipush (-9) dX8_copied_119 (by decide) ?_
            subst hQF
            exact aw_iret rfl dX8_copied_121 (by decide) (by decide) ⟨_, rfl, _, _, _, _, _, _, _, _, _, _, _, _, _, f4800, f4801, f4802, f4803, f4804, f4805, f4806, f4807, f4808, f4809, grw_gg (grw_rf 0 0 P (P + 2) h) k4810 (fun j q1 q2 => by omega), p4811, p4812, p4813, p4814, p4815, hln, trivial⟩
          · have d72 := mt (nv_le (a := fi a) (b := i) (rfl) (rfl) (by omega) (by omega)).mpr c72
            refine aw_aload 1 dX8_copied_75 rfl ?_
            refine aw_get fX8_131 dX8_copied_77 f4807 rfl ?_
            refine aw_iload 0 dX8_copied_80 rfl ?_
            refine aw_iald i (rfl) (by omega) (by decide) dX8_copied_82 f4808 ?_
            refine aw_iload_n 2 dX8_copied_83 rfl rfl ?_
            refine aw_icmp_eq 113 dX8_copied_84 (by decide) (fun c84 => ?_) (fun c84 => ?_)
            · have d84 := (j_eq (a := (pt14796 i).toInt) (b := ((k : Nat) : Int)) (rfl) (i_toNat (rfl) (by omega))).mp c84
              refine aw_iinc (j := 0) (nI (i + 1)) [(5, .int (nI (i + 1))), (4, .ref (G.1 + P)), (3, .int (nI k)), (2, .int (nI b)), (1, .int (nI a)), (0, .ref (G.1 + 0))] dX8_copied_113 rfl (nv_inc (rfl)) (by decide) rfl ?_
              refine aw_goto 61 dX8_copied_116 (by decide) ?_
              refine aw_lv [(5, .int (nI (i + 1))), (4, .ref (G.1 + P)), (3, .int (nI k)), (2, .int (nI b)), (1, .int (nI a)), (0, .ref (G.1 + 0))] [0, 1, 2, 3, 4, 5] rfl ?_
              exact ih4829 (i + 1) (by omega) (by omega)
            · have d84 := mt (j_eq (a := (pt14796 i).toInt) (b := ((k : Nat) : Int)) (rfl) (i_toNat (rfl) (by omega))).mpr c84
              refine aw_aload_n 5 dX8_copied_87 rfl rfl ?_
              refine aw_get fX8_20 dX8_copied_88 f4800 rfl ?_
              refine aw_iload_n 4 dX8_copied_91 rfl rfl ?_
              refine aw_bipush (10) dX8_copied_92 (by decide) ?_
              refine aw_imul dX8_copied_94 ?_
              refine aw_toe (nI (a * 10)) (nv_mul (rfl) (rfl)) ?_
              refine aw_iload 0 dX8_copied_95 rfl ?_
              refine aw_iadd dX8_copied_97 ?_
              refine aw_toe (nI ((a * 10) + i)) (nv_add (rfl) (rfl)) ?_
              refine aw_iload_n 3 dX8_copied_98 rfl rfl ?_
              refine aw_bipush (10) dX8_copied_99 (by decide) ?_
              refine aw_imul dX8_copied_101 ?_
              refine aw_toe (nI (b * 10)) (nv_mul (rfl) (rfl)) ?_
              refine aw_iload_n 2 dX8_copied_102 rfl rfl ?_
              refine aw_iadd dX8_copied_103 ?_
              refine aw_toe (nI ((b * 10) + k)) (nv_add (rfl) (rfl)) ?_
              refine aw_dV [.int (nI ((a * 10) + i)), .int (nI ((b * 10) + k))] [] lX8_151 vX1_isSameText mX1_isSameText dX8_copied_104 (aX1_isSameText (m := m) (se := se) (ye := ye) (fi := fi) (W := W) (Sn := Sn) (Z := Z) (Ro := Ro) (Co := Co) (Ba := Ba) (nb := nb) (sp := sp) (fa := fa) (ve := ve) (e := (a * 10) + i) (f := (b * 10) + k) f4817 f4818 f4819 f4820 f4821 f4822 f4823 f4824 f4825 f4826 f4827 hm hse hfi hye (by omega) (by omega)) f4817 rfl rfl rfl (Nat.le_of_ble_eq_true rfl) (by decide) (by decide) rfl ?_
              refine aw_if_eq 113 dX8_copied_107 (by decide) (fun c107 => ?_) (fun c107 => ?_)
              · have t107 := ite_0 c107
                refine aw_iinc (j := 0) (nI (i + 1)) [(5, .int (nI (i + 1))), (4, .ref (G.1 + P)), (3, .int (nI k)), (2, .int (nI b)), (1, .int (nI a)), (0, .ref (G.1 + 0))] dX8_copied_113 rfl (nv_inc (rfl)) (by decide) rfl ?_
                refine aw_goto 61 dX8_copied_116 (by decide) ?_
                refine aw_lv [(5, .int (nI (i + 1))), (4, .ref (G.1 + P)), (3, .int (nI k)), (2, .int (nI b)), (1, .int (nI a)), (0, .ref (G.1 + 0))] [0, 1, 2, 3, 4, 5] rfl ?_
                exact ih4829 (i + 1) (by omega) (by omega)
              · have t107 := ite_1 c107
                refine aw_iload 0 dX8_copied_110 rfl ?_
                subst hQF
                exact aw_iret rfl dX8_copied_112 (by decide) (by decide) ⟨_, rfl, _, _, _, _, _, _, _, _, _, _, _, _, _, f4800, f4801, f4802, f4803, f4804, f4805, f4806, f4807, f4808, f4809, grw_gg (grw_rf 0 0 P (P + 2) h) k4810 (fun j q1 q2 => by omega), p4811, p4812, p4813, p4814, p4815, hln, trivial⟩
      · have d40 := mt (nv_lt (a := ye a) (b := ye b) (rfl) (rfl) (by omega) (by omega)).mpr c40
        exfalso
        omega
    · have t13 := ite_0 c13
      exfalso
      omega
