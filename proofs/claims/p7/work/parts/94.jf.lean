set_option maxHeartbeats 4000000 in
theorem oX8_copied_J {l : Launch} {G : xG} {h : List va_E} {bv : Value} {J u v ro co : Nat} {rc : Nat → Nat} {lk bs wy nw : Nat → Int32} {P pv : Nat} {su wa : Int32} {pt ce : Nat → Int32} {m se ye fi : Nat → Nat} {W Sn Z Ro Co : Nat → Int32} {Ba : Nat → Int64} {nb sp fa ve : Nat} {lx : Nat → Nat → Nat} {a b : Nat} {k : Nat} (h0 : h[0]? = some (oB 8 (lX G (.ref (G.1 + J)) (bv)))) (h1 : h[1]? = some (oB 1 (lC G (nI nb) (nI sp) (nI fa) (nI ve)))) (h2 : h[2]? = some (aI 20 (nA m))) (h3 : h[3]? = some (aI 20 (nA se))) (h4 : h[4]? = some (aI 4 (nA ye))) (h5 : h[5]? = some (aI 4 (nA fi))) (h6 : h[6]? = some (aI 40 W)) (h7 : h[7]? = some (aI 40 Sn)) (h8 : h[8]? = some (aI 40 Z)) (h9 : h[9]? = some (aI 40 Ro)) (h10 : h[10]? = some (aI 40 Co)) (h11 : h[11]? = some (aL 40 Ba)) (h12 : h[12]? = some (aR 16 (xjo G.1 16))) (hJ : h[J]? = some (oB 3 (lJ G J (.ref (G.1 + u)) (.ref (G.1 + v)) (nI ro) (nI co)))) (hJ_1 : h[J + 1]? = some (aI 100 lk)) (hJ_2 : h[J + 2]? = some (aI 11 (nA rc))) (hJ_3 : h[J + 3]? = some (aI 11264 bs)) (hu : h[u]? = some (aI 1024 wy)) (hv : h[v]? = some (aI 1024 nw)) (hP : h[P]? = some (oB 4 (lG G P su wa (nI pv)))) (hP_1 : h[P + 1]? = some (aI 10 pt)) (hP_2 : h[P + 2]? = some (aZ 10 ce)) (ba : a < 4) (bb : b < 4) (bk : k < fi b) (hy : ye a < ye b) (qu : J + 4 ≤ u ∧ u ≤ J + 5) (qv : J + 4 ≤ v ∧ v ≤ J + 5) (quv : (u ≠ v ∧ wZ wy nw)) (hrc : ∀ j, j < 11 → rc j < 1024) (qP : P + 2 < J) (hm : ∀ j, j < 20 → m j ≤ j) (hse : ∀ j, j < 20 → se j < 20) (hfi : ∀ j, j < 4 → fi j < 11) (hye : ∀ j, j < 4 → ye j < 1901) (qJ : 125 ≤ J) (qP1 : 12 < P) (hpt : pB pt) (eP : P = 13 + 3 * (a * 4 + b)) (hlx : ∀ i, i < fi a → ∀ k, k < fi b → likeC ye Sn Z Ro Co Ba sp fa (a * 10 + i) (b * 10 + k) = nI (lx i k)) (hlx3 : ∀ i k, lx i k ≤ 300) (bpv : pv ≤ 600) (bve : ve ≤ 600) (hJK : pv = ve → jK lx (fi a) (fi b) su wa pt ce) : CU l G yX8_copied cX8_copied 6 (some .int) 6 0 0 [.ref (G.1 + 0), .int (nI a), .int (nI b), .int (nI k)] h (fun r h1 => ∃ u1 : Nat, ∃ v1 : Nat, ∃ ro1 : Nat, ∃ co1 : Nat, ∃ rc1 : Nat → Nat, ∃ lk1 : Nat → Int32, ∃ bs1 : Nat → Int32, ∃ wy1 : Nat → Int32, ∃ nw1 : Nat → Int32, ∃ su1 : Int32, ∃ wa1 : Int32, ∃ pt1 : Nat → Int32, ∃ ce1 : Nat → Int32, h1[J]? = some (oB 3 (lJ G J (.ref (G.1 + u1)) (.ref (G.1 + v1)) (nI ro1) (nI co1))) ∧ h1[J + 1]? = some (aI 100 lk1) ∧ h1[J + 2]? = some (aI 11 (nA rc1)) ∧ h1[J + 3]? = some (aI 11264 bs1) ∧ h1[u1]? = some (aI 1024 wy1) ∧ h1[v1]? = some (aI 1024 nw1) ∧ h1[P]? = some (oB 4 (lG G P su1 wa1 (nI ve))) ∧ h1[P + 1]? = some (aI 10 pt1) ∧ h1[P + 2]? = some (aZ 10 ce1) ∧ rg2 P (P + 2) J (J + 5) h h1 ∧ (J + 4 ≤ u1 ∧ u1 ≤ J + 5) ∧ (J + 4 ≤ v1 ∧ v1 ≤ J + 5) ∧ (u1 ≠ v1 ∧ wZ wy1 nw1) ∧ (∀ j, j < 11 → rc1 j < 1024) ∧ pB pt1 ∧ jK lx (fi a) (fi b) su1 wa1 pt1 ce1 ∧ True) := by
  refine cm_ofQ rfl (Nat.le_of_ble_eq_true rfl) [(0, .ref (G.1 + 0)), (1, .int (nI a)), (2, .int (nI b)), (3, .int (nI k))] rfl (fun QF hQF => ?_)
  have tt_a : (nI a).toInt = (a : Int) := nI_toInt (by omega)
  have nn_a : tn (nI a) = a := tn_nI (by omega)
  have tt_b : (nI b).toInt = (b : Int) := nI_toInt (by omega)
  have nn_b : tn (nI b) = b := tn_nI (by omega)
  have hf_a : fi (tn (nI a)) = fi a := by rw [nn_a]
  have hg_a := hfi a (by omega)
  have hf_b : fi (tn (nI b)) = fi b := by rw [nn_b]
  have hg_b := hfi b (by omega)
  have tt_k : (nI k).toInt = (k : Int) := nI_toInt (by omega)
  have nn_k : tn (nI k) = k := tn_nI (by omega)
  refine aw_iload_n 1 dX8_copied_0 rfl rfl ?_
  refine aw_dS [.int (nI a)] [] lX8_81 sX8_isCatalogue mX8_isCatalogue dX8_copied_1 (bX8_isCatalogue (x := (nI a)) ) rfl (Nat.le_of_ble_eq_true rfl) (by decide) (by decide) rfl ?_
  refine aw_if_eq 16 dX8_copied_4 (by decide) (fun c4 => ?_) (fun c4 => ?_)
  · have t4 := ite_0 c4
    exfalso
    omega
  · have t4 := ite_1 c4
    refine aw_aload_n 0 dX8_copied_7 rfl rfl ?_
    refine aw_iload_n 2 dX8_copied_8 rfl rfl ?_
    refine aw_iload_n 3 dX8_copied_9 rfl rfl ?_
    refine aw_dV [.int (nI b), .int (nI k)] [] lX8_107 vX8_isEntry mX8_isEntry dX8_copied_10 (bX8_isEntry (jv := .ref (G.1 + J)) (bv := bv) (fi := fi) (nb := nb) (sp := sp) (fa := fa) (ve := ve) (c := (nI b)) (i := (nI k)) h0 h1 h5 hfi) h0 rfl rfl rfl (Nat.le_of_ble_eq_true rfl) (by decide) (by decide) rfl ?_
    refine aw_if_ne 22 dX8_copied_13 (by decide) (fun c13 => ?_) (fun c13 => ?_)
    · have t13 := ite_1 c13
      refine aw_aload_n 0 dX8_copied_22 rfl rfl ?_
      refine aw_get fX8_20 dX8_copied_23 h0 rfl ?_
      refine aw_get fX8_148 dX8_copied_26 h1 rfl ?_
      refine aw_iload_n 2 dX8_copied_29 rfl rfl ?_
      refine aw_iald b (rfl) (by omega) (by decide) dX8_copied_30 h4 ?_
      refine aw_toe (nI (ye b)) (rfl) ?_
      have b4685 := hye b (by omega)
      refine aw_aload_n 0 dX8_copied_31 rfl rfl ?_
      refine aw_get fX8_20 dX8_copied_32 h0 rfl ?_
      refine aw_get fX8_148 dX8_copied_35 h1 rfl ?_
      refine aw_iload_n 1 dX8_copied_38 rfl rfl ?_
      refine aw_iald a (rfl) (by omega) (by decide) dX8_copied_39 h4 ?_
      refine aw_toe (nI (ye a)) (rfl) ?_
      have b4686 := hye a (by omega)
      refine aw_icmp_gt 50 dX8_copied_40 (by decide) (fun c40 => ?_) (fun c40 => ?_)
      · have d40 := (nv_lt (a := ye a) (b := ye b) (rfl) (rfl) (by omega) (by omega)).mp c40
        refine aw_aload_n 0 dX8_copied_50 rfl rfl ?_
        refine aw_iload_n 1 dX8_copied_51 rfl rfl ?_
        refine aw_iload_n 2 dX8_copied_52 rfl rfl ?_
        refine aw_eV [.int (nI a), .int (nI b)] [] lX8_124 vX8_bestJoining mX8_bestJoining dX8_copied_53 (bJ (bv := bv) (J := J) (u := u) (v := v) (ro := ro) (co := co) (rc := rc) (lk := lk) (bs := bs) (wy := wy) (nw := nw) (P := P) (pv := pv) (su := su) (wa := wa) (pt := pt) (ce := ce) (m := m) (se := se) (ye := ye) (fi := fi) (W := W) (Sn := Sn) (Z := Z) (Ro := Ro) (Co := Co) (Ba := Ba) (nb := nb) (sp := sp) (fa := fa) (ve := ve) (a := a) (b := b) h0 h1 h2 h3 h4 h5 h6 h7 h8 h9 h10 h11 h12 hJ hJ_1 hJ_2 hJ_3 hu hv hP hP_1 hP_2 (by omega) (by omega) (by omega) hrc (by omega) hm hse hfi hye (by omega) (by omega) (by omega) (by omega) (by omega) (by omega) hlx hlx3 (by omega) (by omega) hJK) h0 rfl rfl rfl (Nat.le_of_ble_eq_true rfl) (by decide) (by decide) rfl (fun h4701 q4700 => ?_)
        obtain ⟨u14687, v14688, ro14689, co14690, rc14691, lk14692, bs14693, wy14694, nw14695, su14696, wa14697, pt14698, ce14699, f4702, f4703, f4704, f4705, f4706, f4707, f4708, f4709, f4710, k4711, p4712, p4713, p4714, p4715, p4716, p4717⟩ := q4700
        have f4718 := rg2_at k4711 (by omega) h0
        have f4719 := rg2_at k4711 (by omega) h1
        have f4720 := rg2_at k4711 (by omega) h2
        have f4721 := rg2_at k4711 (by omega) h3
        have f4722 := rg2_at k4711 (by omega) h4
        have f4723 := rg2_at k4711 (by omega) h5
        have f4724 := rg2_at k4711 (by omega) h6
        have f4725 := rg2_at k4711 (by omega) h7
        have f4726 := rg2_at k4711 (by omega) h8
        have f4727 := rg2_at k4711 (by omega) h9
        have f4728 := rg2_at k4711 (by omega) h10
        have f4729 := rg2_at k4711 (by omega) h11
        have f4730 := rg2_at k4711 (by omega) h12
        refine aw_astore [(4, .ref (G.1 + P)), (0, .ref (G.1 + 0)), (1, .int (nI a)), (2, .int (nI b)), (3, .int (nI k))] dX8_copied_56 (by decide) rfl ?_
        refine aw_iconst (0) dX8_copied_58 (by decide) ?_
        refine aw_istore [(5, .int 0), (4, .ref (G.1 + P)), (0, .ref (G.1 + 0)), (1, .int (nI a)), (2, .int (nI b)), (3, .int (nI k))] dX8_copied_59 (by decide) rfl ?_
        refine aw_lv [(5, .int 0), (4, .ref (G.1 + P)), (3, .int (nI k)), (2, .int (nI b)), (1, .int (nI a)), (0, .ref (G.1 + 0))] [0, 1, 5, 4, 3, 2] rfl ?_
        suffices L4755 : ∀ (mm : Nat) (i : Nat) (h4731 : List va_E), fi a - i < mm → (i ≤ fi a) → h4731[J]? = some (oB 3 (lJ G J (.ref (G.1 + u14687)) (.ref (G.1 + v14688)) (nI ro14689) (nI co14690))) → h4731[J + 1]? = some (aI 100 lk14692) → h4731[J + 2]? = some (aI 11 (nA rc14691)) → h4731[J + 3]? = some (aI 11264 bs14693) → h4731[u14687]? = some (aI 1024 wy14694) → h4731[v14688]? = some (aI 1024 nw14695) → h4731[P]? = some (oB 4 (lG G P su14696 wa14697 (nI ve))) → h4731[P + 1]? = some (aI 10 pt14698) → h4731[P + 2]? = some (aZ 10 ce14699) → h4731[0]? = some (oB 8 (lX G (.ref (G.1 + J)) (bv))) → h4731[1]? = some (oB 1 (lC G (nI nb) (nI sp) (nI fa) (nI ve))) → h4731[2]? = some (aI 20 (nA m)) → h4731[3]? = some (aI 20 (nA se)) → h4731[4]? = some (aI 4 (nA ye)) → h4731[5]? = some (aI 4 (nA fi)) → h4731[6]? = some (aI 40 W) → h4731[7]? = some (aI 40 Sn) → h4731[8]? = some (aI 40 Z) → h4731[9]? = some (aI 40 Ro) → h4731[10]? = some (aI 40 Co) → h4731[11]? = some (aL 40 Ba) → h4731[12]? = some (aR 16 (xjo G.1 16)) → rg2 P (P + 2) J (J + 5) h h4731 → AW l G yX8_copied cX8_copied 6 (some .int) (xR 6 0 0) (fun _ _ => True) QF 0 0 61 [(5, .int (nI i)), (4, .ref (G.1 + P)), (3, .int (nI k)), (2, .int (nI b)), (1, .int (nI a)), (0, .ref (G.1 + 0))] [] h4731 from L4755 (fi a - 0 + 1) 0 _ (Nat.lt_succ_self _) (Nat.zero_le _) f4702 f4703 f4704 f4705 f4706 f4707 f4708 f4709 f4710 f4718 f4719 f4720 f4721 f4722 f4723 f4724 f4725 f4726 f4727 f4728 f4729 f4730 (rg2_tr (rg2_rf P (P + 2) J (J + 5) h) (rg2_w2 k4711 (by omega) (by omega)))
        intro mm
        induction mm with
        | zero =>
          intro i h4731 hmm hi f4732 f4733 f4734 f4735 f4736 f4737 f4738 f4739 f4740 f4741 f4742 f4743 f4744 f4745 f4746 f4747 f4748 f4749 f4750 f4751 f4752 f4753 k4754
          exact absurd hmm (Nat.not_lt_zero _)
        | succ mm ih4755 =>
          intro i h4731 hmm hi f4732 f4733 f4734 f4735 f4736 f4737 f4738 f4739 f4740 f4741 f4742 f4743 f4744 f4745 f4746 f4747 f4748 f4749 f4750 f4751 f4752 f4753 k4754
          refine aw_iload 0 dX8_copied_61 rfl ?_
          refine aw_aload_n 5 dX8_copied_63 rfl rfl ?_
          refine aw_get fX8_20 dX8_copied_64 f4741 rfl ?_
          refine aw_get fX8_91 dX8_copied_67 f4742 rfl ?_
          refine aw_iload_n 4 dX8_copied_70 rfl rfl ?_
          refine aw_iald a (rfl) (by omega) (by decide) dX8_copied_71 f4746 ?_
          refine aw_toe (nI (fi a)) (rfl) ?_
          have b4756 := hfi a (by omega)
          refine aw_icmp_ge 119 dX8_copied_72 (by decide) (fun c72 => ?_) (fun c72 => ?_)
          · have d72 := (nv_le (a := fi a) (b := i) (rfl) (rfl) (by omega) (by omega)).mp c72
            refine aw_bipush (-9) dX8_copied_119 (by decide) ?_
            subst hQF
            exact aw_iret rfl dX8_copied_121 (by decide) (by decide) ⟨_, rfl, _, _, _, _, _, _, _, _, _, _, _, _, _, f4732, f4733, f4734, f4735, f4736, f4737, f4738, f4739, f4740, k4754, p4712, p4713, p4714, p4715, p4716, p4717, trivial⟩
          · have d72 := mt (nv_le (a := fi a) (b := i) (rfl) (rfl) (by omega) (by omega)).mpr c72
            refine aw_aload 1 dX8_copied_75 rfl ?_
            refine aw_get fX8_131 dX8_copied_77 f4738 rfl ?_
            refine aw_iload 0 dX8_copied_80 rfl ?_
            refine aw_iald i (rfl) (by omega) (by decide) dX8_copied_82 f4739 ?_
            refine aw_iload_n 2 dX8_copied_83 rfl rfl ?_
            refine aw_icmp_eq 113 dX8_copied_84 (by decide) (fun c84 => ?_) (fun c84 => ?_)
            · have d84 := (j_eq (a := (pt14698 i).toInt) (b := ((k : Nat) : Int)) (rfl) (i_toNat (rfl) (by omega))).mp c84
              refine aw_iinc (j := 0) (nI (i + 1)) [(5, .int (nI (i + 1))), (4, .ref (G.1 + P)), (3, .int (nI k)), (2, .int (nI b)), (1, .int (nI a)), (0, .ref (G.1 + 0))] dX8_copied_113 rfl (nv_inc (rfl)) (by decide) rfl ?_
              refine aw_goto 61 dX8_copied_116 (by decide) ?_
              refine aw_lv [(5, .int (nI (i + 1))), (4, .ref (G.1 + P)), (3, .int (nI k)), (2, .int (nI b)), (1, .int (nI a)), (0, .ref (G.1 + 0))] [0, 1, 2, 3, 4, 5] rfl ?_
              exact ih4755 (i + 1) _ (by omega) (by omega) f4732 f4733 f4734 f4735 f4736 f4737 f4738 f4739 f4740 f4741 f4742 f4743 f4744 f4745 f4746 f4747 f4748 f4749 f4750 f4751 f4752 f4753 (k4754)
            · have d84 := mt (j_eq (a := (pt14698 i).toInt) (b := ((k : Nat) : Int)) (rfl) (i_toNat (rfl) (by omega))).mpr c84
              refine aw_aload_n 5 dX8_copied_87 rfl rfl ?_
              refine aw_get fX8_20 dX8_copied_88 f4741 rfl ?_
              refine aw_iload_n 4 dX8_copied_91 rfl rfl ?_
              refine aw_bipush (10) dX8_copied_92 (by decide) ?_
              refine aw_imul dX8_copied_94 ?_
              refine aw_toe (nI (a * 10)) (nv_mul (rfl) (rfl)) ?_
              refine aw_iload 0 dX8_copied_95 rfl ?_
              refine aw_iadd dX8_copied_97 ?_
              refine aw_toe (nI ((a * 10) + i)) (nv_add (rfl) (rfl)) ?_
              refine aw_iload_n 3 dX8_copied_98 rfl rfl ?_
              refine aw_bipush (10) dX8_copied_99 (by decide) ?_
              refine aw_imul dX8_copied_101 ?_
              refine aw_toe (nI (b * 10)) (nv_mul (rfl) (rfl)) ?_
              refine aw_iload_n 2 dX8_copied_102 rfl rfl ?_
              refine aw_iadd dX8_copied_103 ?_
              refine aw_toe (nI ((b * 10) + k)) (nv_add (rfl) (rfl)) ?_
              refine aw_dV [.int (nI ((a * 10) + i)), .int (nI ((b * 10) + k))] [] lX8_151 vX1_isSameText mX1_isSameText dX8_copied_104 (aX1_isSameText (m := m) (se := se) (ye := ye) (fi := fi) (W := W) (Sn := Sn) (Z := Z) (Ro := Ro) (Co := Co) (Ba := Ba) (nb := nb) (sp := sp) (fa := fa) (ve := ve) (e := (a * 10) + i) (f := (b * 10) + k) f4742 f4743 f4744 f4745 f4746 f4747 f4748 f4749 f4750 f4751 f4752 hm hse hfi hye (by omega) (by omega)) f4742 rfl rfl rfl (Nat.le_of_ble_eq_true rfl) (by decide) (by decide) rfl ?_
              refine aw_if_eq 113 dX8_copied_107 (by decide) (fun c107 => ?_) (fun c107 => ?_)
              · have t107 := ite_0 c107
                refine aw_iinc (j := 0) (nI (i + 1)) [(5, .int (nI (i + 1))), (4, .ref (G.1 + P)), (3, .int (nI k)), (2, .int (nI b)), (1, .int (nI a)), (0, .ref (G.1 + 0))] dX8_copied_113 rfl (nv_inc (rfl)) (by decide) rfl ?_
                refine aw_goto 61 dX8_copied_116 (by decide) ?_
                refine aw_lv [(5, .int (nI (i + 1))), (4, .ref (G.1 + P)), (3, .int (nI k)), (2, .int (nI b)), (1, .int (nI a)), (0, .ref (G.1 + 0))] [0, 1, 2, 3, 4, 5] rfl ?_
                exact ih4755 (i + 1) _ (by omega) (by omega) f4732 f4733 f4734 f4735 f4736 f4737 f4738 f4739 f4740 f4741 f4742 f4743 f4744 f4745 f4746 f4747 f4748 f4749 f4750 f4751 f4752 f4753 (k4754)
              · have t107 := ite_1 c107
                refine aw_iload 0 dX8_copied_110 rfl ?_
                subst hQF
                exact aw_iret rfl dX8_copied_112 (by decide) (by decide) ⟨_, rfl, _, _, _, _, _, _, _, _, _, _, _, _, _, f4732, f4733, f4734, f4735, f4736, f4737, f4738, f4739, f4740, k4754, p4712, p4713, p4714, p4715, p4716, p4717, trivial⟩
      · have d40 := mt (nv_lt (a := ye a) (b := ye b) (rfl) (rfl) (by omega) (by omega)).mpr c40
        exfalso
        omega
    · have t13 := ite_0 c13
      exfalso
      omega
set_option maxHeartbeats 4000000 in
theorem oX8_copied_n {l : Launch} {G : xG} {h : List va_E} {bv : Value} {J : Nat} {P pv : Nat} {su wa : Int32} {pt ce : Nat → Int32} {m se ye fi : Nat → Nat} {W Sn Z Ro Co : Nat → Int32} {Ba : Nat → Int64} {nb sp fa ve : Nat} {lx : Nat → Nat → Nat} {a b : Nat} {k : Nat} (h0 : h[0]? = some (oB 8 (lX G (.null) (bv)))) (h1 : h[1]? = some (oB 1 (lC G (nI nb) (nI sp) (nI fa) (nI ve)))) (h2 : h[2]? = some (aI 20 (nA m))) (h3 : h[3]? = some (aI 20 (nA se))) (h4 : h[4]? = some (aI 4 (nA ye))) (h5 : h[5]? = some (aI 4 (nA fi))) (h6 : h[6]? = some (aI 40 W)) (h7 : h[7]? = some (aI 40 Sn)) (h8 : h[8]? = some (aI 40 Z)) (h9 : h[9]? = some (aI 40 Ro)) (h10 : h[10]? = some (aI 40 Co)) (h11 : h[11]? = some (aL 40 Ba)) (h12 : h[12]? = some (aR 16 (xjo G.1 16))) (hP : h[P]? = some (oB 4 (lG G P su wa (nI pv)))) (hP_1 : h[P + 1]? = some (aI 10 pt)) (hP_2 : h[P + 2]? = some (aZ 10 ce)) (ba : a < 4) (bb : b < 4) (bk : k < fi b) (hy : ye a < ye b) (hl : h.length = J) (hm : ∀ j, j < 20 → m j ≤ j) (hse : ∀ j, j < 20 → se j < 20) (hfi : ∀ j, j < 4 → fi j < 11) (hye : ∀ j, j < 4 → ye j < 1901) (qJ : 125 ≤ J) (qP : P + 2 < J) (qP1 : 12 < P) (hpt : pB pt) (eP : P = 13 + 3 * (a * 4 + b)) (hlx : ∀ i, i < fi a → ∀ k, k < fi b → likeC ye Sn Z Ro Co Ba sp fa (a * 10 + i) (b * 10 + k) = nI (lx i k)) (hlx3 : ∀ i k, lx i k ≤ 300) (bpv : pv ≤ 600) (bve : ve ≤ 600) (hvv : ¬ pv = ve) : CU l G yX8_copied cX8_copied 6 (some .int) 6 6 13430 [.ref (G.1 + 0), .int (nI a), .int (nI b), .int (nI k)] h (fun r h1 => ∃ u1 : Nat, ∃ v1 : Nat, ∃ ro1 : Nat, ∃ co1 : Nat, ∃ rc1 : Nat → Nat, ∃ lk1 : Nat → Int32, ∃ bs1 : Nat → Int32, ∃ wy1 : Nat → Int32, ∃ nw1 : Nat → Int32, ∃ su1 : Int32, ∃ wa1 : Int32, ∃ pt1 : Nat → Int32, ∃ ce1 : Nat → Int32, h1[0]? = some (oB 8 (lX G (.ref (G.1 + J)) (bv))) ∧ h1[J]? = some (oB 3 (lJ G J (.ref (G.1 + u1)) (.ref (G.1 + v1)) (nI ro1) (nI co1))) ∧ h1[J + 1]? = some (aI 100 lk1) ∧ h1[J + 2]? = some (aI 11 (nA rc1)) ∧ h1[J + 3]? = some (aI 11264 bs1) ∧ h1[u1]? = some (aI 1024 wy1) ∧ h1[v1]? = some (aI 1024 nw1) ∧ h1[P]? = some (oB 4 (lG G P su1 wa1 (nI ve))) ∧ h1[P + 1]? = some (aI 10 pt1) ∧ h1[P + 2]? = some (aZ 10 ce1) ∧ grw 0 0 P (P + 2) h h1 ∧ (J + 4 ≤ u1 ∧ u1 ≤ J + 5) ∧ (J + 4 ≤ v1 ∧ v1 ≤ J + 5) ∧ (u1 ≠ v1 ∧ wZ wy1 nw1) ∧ (∀ j, j < 11 → rc1 j < 1024) ∧ pB pt1 ∧ jK lx (fi a) (fi b) su1 wa1 pt1 ce1 ∧ h1.length = J + 6 ∧ True) := by
  refine cm_ofQ rfl (Nat.le_of_ble_eq_true rfl) [(0, .ref (G.1 + 0)), (1, .int (nI a)), (2, .int (nI b)), (3, .int (nI k))] rfl (fun QF hQF => ?_)
  have tt_a : (nI a).toInt = (a : Int) := nI_toInt (by omega)
  have nn_a : tn (nI a) = a := tn_nI (by omega)
  have tt_b : (nI b).toInt = (b : Int) := nI_toInt (by omega)
  have nn_b : tn (nI b) = b := tn_nI (by omega)
  have hf_a : fi (tn (nI a)) = fi a := by rw [nn_a]
  have hg_a := hfi a (by omega)
  have hf_b : fi (tn (nI b)) = fi b := by rw [nn_b]
  have hg_b := hfi b (by omega)
  have tt_k : (nI k).toInt = (k : Int) := nI_toInt (by omega)
  have nn_k : tn (nI k) = k := tn_nI (by omega)
  refine aw_iload_n 1 dX8_copied_0 rfl rfl ?_
  refine aw_dS [.int (nI a)] [] lX8_81 sX8_isCatalogue mX8_isCatalogue dX8_copied_1 (bX8_isCatalogue (x := (nI a)) ) rfl (Nat.le_of_ble_eq_true rfl) (by decide) (by decide) rfl ?_
  refine aw_if_eq 16 dX8_copied_4 (by decide) (fun c4 => ?_) (fun c4 => ?_)
  · have t4 := ite_0 c4
    exfalso
    omega
  · have t4 := ite_1 c4
    refine aw_aload_n 0 dX8_copied_7 rfl rfl ?_
    refine aw_iload_n 2 dX8_copied_8 rfl rfl ?_
    refine aw_iload_n 3 dX8_copied_9 rfl rfl ?_
    refine aw_dV [.int (nI b), .int (nI k)] [] lX8_107 vX8_isEntry mX8_isEntry dX8_copied_10 (bX8_isEntry (jv := .null) (bv := bv) (fi := fi) (nb := nb) (sp := sp) (fa := fa) (ve := ve) (c := (nI b)) (i := (nI k)) h0 h1 h5 hfi) h0 rfl rfl rfl (Nat.le_of_ble_eq_true rfl) (by decide) (by decide) rfl ?_
    refine aw_if_ne 22 dX8_copied_13 (by decide) (fun c13 => ?_) (fun c13 => ?_)
    · have t13 := ite_1 c13
      refine aw_aload_n 0 dX8_copied_22 rfl rfl ?_
      refine aw_get fX8_20 dX8_copied_23 h0 rfl ?_
      refine aw_get fX8_148 dX8_copied_26 h1 rfl ?_
      refine aw_iload_n 2 dX8_copied_29 rfl rfl ?_
      refine aw_iald b (rfl) (by omega) (by decide) dX8_copied_30 h4 ?_
      refine aw_toe (nI (ye b)) (rfl) ?_
      have b4757 := hye b (by omega)
      refine aw_aload_n 0 dX8_copied_31 rfl rfl ?_
      refine aw_get fX8_20 dX8_copied_32 h0 rfl ?_
      refine aw_get fX8_148 dX8_copied_35 h1 rfl ?_
      refine aw_iload_n 1 dX8_copied_38 rfl rfl ?_
      refine aw_iald a (rfl) (by omega) (by decide) dX8_copied_39 h4 ?_
      refine aw_toe (nI (ye a)) (rfl) ?_
      have b4758 := hye a (by omega)
      refine aw_icmp_gt 50 dX8_copied_40 (by decide) (fun c40 => ?_) (fun c40 => ?_)
      · have d40 := (nv_lt (a := ye a) (b := ye b) (rfl) (rfl) (by omega) (by omega)).mp c40
        refine aw_aload_n 0 dX8_copied_50 rfl rfl ?_
        refine aw_iload_n 1 dX8_copied_51 rfl rfl ?_
        refine aw_iload_n 2 dX8_copied_52 rfl rfl ?_
        refine aw_eV [.int (nI a), .int (nI b)] [] lX8_124 vX8_bestJoining mX8_bestJoining dX8_copied_53 (bJ_n (bv := bv) (P := P) (pv := pv) (su := su) (wa := wa) (pt := pt) (ce := ce) (m := m) (se := se) (ye := ye) (fi := fi) (W := W) (Sn := Sn) (Z := Z) (Ro := Ro) (Co := Co) (Ba := Ba) (nb := nb) (sp := sp) (fa := fa) (ve := ve) (a := a) (b := b) h0 h1 h2 h3 h4 h5 h6 h7 h8 h9 h10 h11 h12 hP hP_1 hP_2 (by omega) hm hse hfi hye (by omega) (by omega) (by omega) (by omega) (by omega) (by omega) (by omega) hlx hlx3 (by omega) (by omega) (by omega)) h0 rfl rfl rfl (Nat.le_of_ble_eq_true rfl) (by decide) (by decide) rfl (fun h4773 q4772 => ?_)
        obtain ⟨u14759, v14760, ro14761, co14762, rc14763, lk14764, bs14765, wy14766, nw14767, su14768, wa14769, pt14770, ce14771, f4774, f4775, f4776, f4777, f4778, f4779, f4780, f4781, f4782, f4783, k4784, p4785, p4786, p4787, p4788, p4789, p4790, p4791⟩ := q4772
        have f4792 := grw_at k4784 (by omega) h1
        have f4793 := grw_at k4784 (by omega) h2
        have f4794 := grw_at k4784 (by omega) h3
        have f4795 := grw_at k4784 (by omega) h4
        have f4796 := grw_at k4784 (by omega) h5
        have f4797 := grw_at k4784 (by omega) h6
        have f4798 := grw_at k4784 (by omega) h7
        have f4799 := grw_at k4784 (by omega) h8
        have f4800 := grw_at k4784 (by omega) h9
        have f4801 := grw_at k4784 (by omega) h10
        have f4802 := grw_at k4784 (by omega) h11
        have f4803 := grw_at k4784 (by omega) h12
        refine aw_astore [(4, .ref (G.1 + P)), (0, .ref (G.1 + 0)), (1, .int (nI a)), (2, .int (nI b)), (3, .int (nI k))] dX8_copied_56 (by decide) rfl ?_
        refine aw_iconst (0) dX8_copied_58 (by decide) ?_
        refine aw_istore [(5, .int 0), (4, .ref (G.1 + P)), (0, .ref (G.1 + 0)), (1, .int (nI a)), (2, .int (nI b)), (3, .int (nI k))] dX8_copied_59 (by decide) rfl ?_
        have hln := p4791
        refine aw_lv [(5, .int 0), (4, .ref (G.1 + P)), (3, .int (nI k)), (2, .int (nI b)), (1, .int (nI a)), (0, .ref (G.1 + 0))] [0, 1, 5, 4, 3, 2] rfl ?_
        suffices L4804 : ∀ (mm : Nat) (i : Nat), fi a - i < mm → (i ≤ fi a) → AW l G yX8_copied cX8_copied 6 (some .int) (xR 6 6 13430) (fun _ _ => True) QF (0 + 6) (0 + 13430) 61 [(5, .int (nI i)), (4, .ref (G.1 + P)), (3, .int (nI k)), (2, .int (nI b)), (1, .int (nI a)), (0, .ref (G.1 + 0))] [] h4773 from L4804 (fi a - 0 + 1) 0 (Nat.lt_succ_self _) (Nat.zero_le _)
        intro mm
        induction mm with
        | zero =>
          intro i hmm hi
          exact absurd hmm (Nat.not_lt_zero _)
        | succ mm ih4804 =>
          intro i hmm hi
          refine aw_iload 0 dX8_copied_61 rfl ?_
          refine aw_aload_n 5 dX8_copied_63 rfl rfl ?_
          refine aw_get fX8_20 dX8_copied_64 f4774 rfl ?_
          refine aw_get fX8_91 dX8_copied_67 f4792 rfl ?_
          refine aw_iload_n 4 dX8_copied_70 rfl rfl ?_
          refine aw_iald a (rfl) (by omega) (by decide) dX8_copied_71 f4796 ?_
          refine aw_toe (nI (fi a)) (rfl) ?_
          have b4805 := hfi a (by omega)
          refine aw_icmp_ge 119 dX8_copied_72 (by decide) (fun c72 => ?_) (fun c72 => ?_)
          · have d72 := (nv_le (a := fi a) (b := i) (rfl) (rfl) (by omega) (by omega)).mp c72
            refine aw_bipush (-9) dX8_copied_119 (by decide) ?_
            subst hQF
            exact aw_iret rfl dX8_copied_121 (by decide) (by decide) ⟨_, rfl, _, _, _, _, _, _, _, _, _, _, _, _, _, f4774, f4775, f4776, f4777, f4778, f4779, f4780, f4781, f4782, f4783, grw_gg (grw_rf 0 0 P (P + 2) h) k4784 (fun j q1 q2 => by omega), p4785, p4786, p4787, p4788, p4789, p4790, hln, trivial⟩
          · have d72 := mt (nv_le (a := fi a) (b := i) (rfl) (rfl) (by omega) (by omega)).mpr c72
            refine aw_aload 1 dX8_copied_75 rfl ?_
            refine aw_get fX8_131 dX8_copied_77 f4781 rfl ?_
            refine aw_iload 0 dX8_copied_80 rfl ?_
            refine aw_iald i (rfl) (by omega) (by decide) dX8_copied_82 f4782 ?_
            refine aw_iload_n 2 dX8_copied_83 rfl rfl ?_
            refine aw_icmp_eq 113 dX8_copied_84 (by decide) (fun c84 => ?_) (fun c84 => ?_)
            · have d84 := (j_eq (a := (pt14770 i).toInt) (b := ((k : Nat) : Int)) (rfl) (i_toNat (rfl) (by omega))).mp c84
              refine aw_iinc (j := 0) (nI (i + 1)) [(5, .int (nI (i + 1))), (4, .ref (G.1 + P)), (3, .int (nI k)), (2, .int (nI b)), (1, .int (nI a)), (0, .ref (G.1 + 0))] dX8_copied_113 rfl (nv_inc (rfl)) (by decide) rfl ?_
              refine aw_goto 61 dX8_copied_116 (by decide) ?_
              refine aw_lv [(5, .int (nI (i + 1))), (4, .ref (G.1 + P)), (3, .int (nI k)), (2, .int (nI b)), (1, .int (nI a)), (0, .ref (G.1 + 0))] [0, 1, 2, 3, 4, 5] rfl ?_
              exact ih4804 (i + 1) (by omega) (by omega)
            · have d84 := mt (j_eq (a := (pt14770 i).toInt) (b := ((k : Nat) : Int)) (rfl) (i_toNat (rfl) (by omega))).mpr c84
              refine aw_aload_n 5 dX8_copied_87 rfl rfl ?_
              refine aw_get fX8_20 dX8_copied_88 f4774 rfl ?_
              refine aw_iload_n 4 dX8_copied_91 rfl rfl ?_
              refine aw_bipush (10) dX8_copied_92 (by decide) ?_
              refine aw_imul dX8_copied_94 ?_
              refine aw_toe (nI (a * 10)) (nv_mul (rfl) (rfl)) ?_
              refine aw_iload 0 dX8_copied_95 rfl ?_
              refine aw_iadd dX8_copied_97 ?_
              refine aw_toe (nI ((a * 10) + i)) (nv_add (rfl) (rfl)) ?_
              refine aw_iload_n 3 dX8_copied_98 rfl rfl ?_
              refine aw_bipush (10) dX8_copied_99 (by decide) ?_
              refine aw_imul dX8_copied_101 ?_
              refine aw_toe (nI (b * 10)) (nv_mul (rfl) (rfl)) ?_
              refine aw_iload_n 2 dX8_copied_102 rfl rfl ?_
              refine aw_iadd dX8_copied_103 ?_
              refine aw_toe (nI ((b * 10) + k)) (nv_add (rfl) (rfl)) ?_
              refine aw_dV [.int (nI ((a * 10) + i)), .int (nI ((b * 10) + k))] [] lX8_151 vX1_isSameText mX1_isSameText dX8_copied_104 (aX1_isSameText (m := m) (se := se) (ye := ye) (fi := fi) (W := W) (Sn := Sn) (Z := Z) (Ro := Ro) (Co := Co) (Ba := Ba) (nb := nb) (sp := sp) (fa := fa) (ve := ve) (e := (a * 10) + i) (f := (b * 10) + k) f4792 f4793 f4794 f4795 f4796 f4797 f4798 f4799 f4800 f4801 f4802 hm hse hfi hye (by omega) (by omega)) f4792 rfl rfl rfl (Nat.le_of_ble_eq_true rfl) (by decide) (by decide) rfl ?_
              refine aw_if_eq 113 dX8_copied_107 (by decide) (fun c107 => ?_) (fun c107 => ?_)
              · have t107 := ite_0 c107
                refine aw_iinc (j := 0) (nI (i + 1)) [(5, .int (nI (i + 1))), (4, .ref (G.1 + P)), (3, .int (nI k)), (2, .int (nI b)), (1, .int (nI a)), (0, .ref (G.1 + 0))] dX8_copied_113 rfl (nv_inc (rfl)) (by decide) rfl ?_
                refine aw_goto 61 dX8_copied_116 (by decide) ?_
                refine aw_lv [(5, .int (nI (i + 1))), (4, .ref (G.1 + P)), (3, .int (nI k)), (2, .int (nI b)), (1, .int (nI a)), (0, .ref (G.1 + 0))] [0, 1, 2, 3, 4, 5] rfl ?_
                exact ih4804 (i + 1) (by omega) (by omega)
              · have t107 := ite_1 c107
                refine aw_iload 0 dX8_copied_110 rfl ?_
                subst hQF
                exact aw_iret rfl dX8_copied_112 (by decide) (by decide) ⟨_, rfl, _, _, _, _, _, _, _, _, _, _, _, _, _, f4774, f4775, f4776, f4777, f4778, f4779, f4780, f4781, f4782, f4783, grw_gg (grw_rf 0 0 P (P + 2) h) k4784 (fun j q1 q2 => by omega), p4785, p4786, p4787, p4788, p4789, p4790, hln, trivial⟩
      · have d40 := mt (nv_lt (a := ye a) (b := ye b) (rfl) (rfl) (by omega) (by omega)).mpr c40
        exfalso
        omega
    · have t13 := ite_0 c13
      exfalso
      omega
