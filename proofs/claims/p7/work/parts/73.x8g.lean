set_option maxHeartbeats 4000000 in
theorem oX8_visitor {l : Launch} {G : xG} {h : List va_E} {jv bv : Value} {rf : Nat → Int32} {so xx yy tr : Nat → Nat} {n : Nat} {s x y t : Int32} (h0 : h[0]? = some (oB 8 (lX G (jv) (bv)))) (h87 : h[87]? = some (aI 7 rf)) (h79 : h[79]? = some (oB 6 (lS G (nI n)))) (h80 : h[80]? = some (aI 40 (nA so))) (h81 : h[81]? = some (aI 40 (nA xx))) (h82 : h[82]? = some (aI 40 (nA yy))) (h83 : h[83]? = some (aI 40 (nA tr))) (hn : n ≤ 40) : CE l G yX8_visitor cX8_visitor 5 (some .int) 2 0 0 [.ref (G.1 + 0), .int s, .int x, .int y, .int t] h (some (.int (spVis n s x y t))) (fun h1 => ∃ rf1 : Nat → Int32, h1[79]? = some (oB 6 (lS G (nI (spN (0 ≤ (spVis n s x y t).toInt) n (n + 1))))) ∧ h1[80]? = some (aI 40 (nA (spUn (0 ≤ (spVis n s x y t).toInt) so n (tn s)))) ∧ h1[81]? = some (aI 40 (nA (spUn (0 ≤ (spVis n s x y t).toInt) xx n (tn x)))) ∧ h1[82]? = some (aI 40 (nA (spUn (0 ≤ (spVis n s x y t).toInt) yy n (if s.toInt < 2 then tn y else tn x)))) ∧ h1[83]? = some (aI 40 (nA (spUn (0 ≤ (spVis n s x y t).toInt) tr n (tn t)))) ∧ h1[87]? = some (aI 7 rf1) ∧ rg2 79 83 87 87 h h1) := by
  refine cm_ofQ rfl (Nat.le_of_ble_eq_true rfl) [(0, .ref (G.1 + 0)), (1, .int s), (2, .int x), (3, .int y), (4, .int t)] rfl (fun QF hQF => ?_)
  refine aw_iload_n 1 dX8_visitor_0 rfl rfl ?_
  refine aw_if_lt 9 dX8_visitor_1 (by decide) (fun c1 => ?_) (fun c1 => ?_)
  · have d1 := (j_lt (a := s.toInt) (b := (0)) (rfl) (rfl)).mp c1
    refine aw_aload_n 0 dX8_visitor_9 rfl rfl ?_
    refine aw_bipush (-2) dX8_visitor_10 (by decide) ?_
    refine aw_eV [.int (-2)] [] lX8_70 vX8_refuse mX8_refuse dX8_visitor_12 (bX8_refuse (jv := jv) (bv := bv) (rf := rf) (x := (-2)) (q := 2) h0 h87 (by decide) (by decide)) h0 rfl rfl rfl (Nat.le_of_ble_eq_true rfl) (by decide) (by decide) rfl (fun h788 q787 => ?_)
    obtain ⟨rf1786, f789, k790⟩ := q787
    have f791 := rng_at k790 (by decide) h0
    have f792 := rng_at k790 (by decide) h79
    have f793 := rng_at k790 (by decide) h80
    have f794 := rng_at k790 (by decide) h81
    have f795 := rng_at k790 (by decide) h82
    have f796 := rng_at k790 (by decide) h83
    subst hQF
    have eS : (spVis n s x y t) = (-2) := by unfold spVis; (repeat' split) <;> first | (exfalso; omega) | rfl
    have ok9 : ¬ 0 ≤ (spVis n s x y t).toInt := by rw [eS]; decide
    exact aw_iret rfl dX8_visitor_15 (by decide) (by decide) ⟨by rw [eS], _, by rw [spN_n ok9]; exact f792, by rw [spUn_n ok9]; exact f793, by rw [spUn_n ok9]; exact f794, by rw [spUn_n ok9]; exact f795, by rw [spUn_n ok9]; exact f796, f789, rg2_tr (rg2_rf 79 83 87 87 h) (rg2_w k790 (by decide))⟩
  · have d1 := mt (j_lt (a := s.toInt) (b := (0)) (rfl) (rfl)).mpr c1
    refine aw_iload_n 1 dX8_visitor_4 rfl rfl ?_
    refine aw_iconst (3) dX8_visitor_5 (by decide) ?_
    refine aw_icmp_le 16 dX8_visitor_6 (by decide) (fun c6 => ?_) (fun c6 => ?_)
    · have d6 := (j_le (a := s.toInt) (b := (3)) (rfl) (rfl)).mp c6
      refine aw_iload_n 2 dX8_visitor_16 rfl rfl ?_
      refine aw_dS [.int x] [] lX8_154 sX8_isThing mX8_isThing dX8_visitor_17 (bX8_isThing (x := x) ) rfl (Nat.le_of_ble_eq_true rfl) (by decide) (by decide) rfl ?_
      refine aw_if_eq 42 dX8_visitor_20 (by decide) (fun c20 => ?_) (fun c20 => ?_)
      · have t20 := ite_0 c20
        refine aw_aload_n 0 dX8_visitor_42 rfl rfl ?_
        refine aw_iconst (-1) dX8_visitor_43 (by decide) ?_
        refine aw_eV [.int (-1)] [] lX8_70 vX8_refuse mX8_refuse dX8_visitor_44 (bX8_refuse (jv := jv) (bv := bv) (rf := rf) (x := (-1)) (q := 1) h0 h87 (by decide) (by decide)) h0 rfl rfl rfl (Nat.le_of_ble_eq_true rfl) (by decide) (by decide) rfl (fun h799 q798 => ?_)
        obtain ⟨rf1797, f800, k801⟩ := q798
        have f802 := rng_at k801 (by decide) h0
        have f803 := rng_at k801 (by decide) h79
        have f804 := rng_at k801 (by decide) h80
        have f805 := rng_at k801 (by decide) h81
        have f806 := rng_at k801 (by decide) h82
        have f807 := rng_at k801 (by decide) h83
        subst hQF
        have eS : (spVis n s x y t) = (-1) := by unfold spVis; (repeat' split) <;> first | (exfalso; omega) | rfl
        have ok9 : ¬ 0 ≤ (spVis n s x y t).toInt := by rw [eS]; decide
        exact aw_iret rfl dX8_visitor_47 (by decide) (by decide) ⟨by rw [eS], _, by rw [spN_n ok9]; exact f803, by rw [spUn_n ok9]; exact f804, by rw [spUn_n ok9]; exact f805, by rw [spUn_n ok9]; exact f806, by rw [spUn_n ok9]; exact f807, f800, rg2_tr (rg2_rf 79 83 87 87 h) (rg2_w k801 (by decide))⟩
      · have t20 := ite_1 c20
        refine aw_iload_n 1 dX8_visitor_23 rfl rfl ?_
        refine aw_dS [.int s] [] lX8_201 sX8_needsTwo mX8_needsTwo dX8_visitor_24 (bX8_needsTwo (x := s) ) rfl (Nat.le_of_ble_eq_true rfl) (by decide) (by decide) rfl ?_
        refine aw_if_eq 48 dX8_visitor_27 (by decide) (fun c27 => ?_) (fun c27 => ?_)
        · have t27 := ite_0 c27
          refine aw_iload 4 dX8_visitor_48 rfl ?_
          refine aw_iconst (1) dX8_visitor_50 (by decide) ?_
          refine aw_icmp_ge 61 dX8_visitor_51 (by decide) (fun c51 => ?_) (fun c51 => ?_)
          · have d51 := (j_le (a := (1)) (b := t.toInt) (rfl) (rfl)).mp c51
            refine aw_iload 4 dX8_visitor_61 rfl ?_
            refine aw_bipush (9) dX8_visitor_63 (by decide) ?_
            refine aw_icmp_gt 80 dX8_visitor_65 (by decide) (fun c65 => ?_) (fun c65 => ?_)
            · have d65 := (j_lt (a := (9)) (b := t.toInt) (rfl) (rfl)).mp c65
              refine aw_aload_n 0 dX8_visitor_80 rfl rfl ?_
              refine aw_bipush (-6) dX8_visitor_81 (by decide) ?_
              refine aw_eV [.int (-6)] [] lX8_70 vX8_refuse mX8_refuse dX8_visitor_83 (bX8_refuse (jv := jv) (bv := bv) (rf := rf) (x := (-6)) (q := 6) h0 h87 (by decide) (by decide)) h0 rfl rfl rfl (Nat.le_of_ble_eq_true rfl) (by decide) (by decide) rfl (fun h810 q809 => ?_)
              obtain ⟨rf1808, f811, k812⟩ := q809
              have f813 := rng_at k812 (by decide) h0
              have f814 := rng_at k812 (by decide) h79
              have f815 := rng_at k812 (by decide) h80
              have f816 := rng_at k812 (by decide) h81
              have f817 := rng_at k812 (by decide) h82
              have f818 := rng_at k812 (by decide) h83
              subst hQF
              have eS : (spVis n s x y t) = (-6) := by unfold spVis; (repeat' split) <;> first | (exfalso; omega) | rfl
              have ok9 : ¬ 0 ≤ (spVis n s x y t).toInt := by rw [eS]; decide
              exact aw_iret rfl dX8_visitor_86 (by decide) (by decide) ⟨by rw [eS], _, by rw [spN_n ok9]; exact f814, by rw [spUn_n ok9]; exact f815, by rw [spUn_n ok9]; exact f816, by rw [spUn_n ok9]; exact f817, by rw [spUn_n ok9]; exact f818, f811, rg2_tr (rg2_rf 79 83 87 87 h) (rg2_w k812 (by decide))⟩
            · have d65 := mt (j_lt (a := (9)) (b := t.toInt) (rfl) (rfl)).mpr c65
              refine aw_aload_n 0 dX8_visitor_68 rfl rfl ?_
              refine aw_get fX8_51 dX8_visitor_69 h0 rfl ?_
              refine aw_get fX8_204 dX8_visitor_72 h79 rfl ?_
              refine aw_bipush (40) dX8_visitor_75 (by decide) ?_
              refine aw_icmp_lt 87 dX8_visitor_77 (by decide) (fun c77 => ?_) (fun c77 => ?_)
              · have d77 := (nv_lt (a := n) (b := 40) (rfl) (rfl) (by omega) (by omega)).mp c77
                obtain ⟨s0, bb_s0, ee_s0⟩ := i_nat (x := s) (N := 4) (by omega) (by omega)
                subst ee_s0
                have tt_s0 : (nI s0).toInt = (s0 : Int) := nI_toInt (by omega)
                have nn_s0 : tn (nI s0) = s0 := tn_nI (by omega)
                obtain ⟨x0, bb_x0, ee_x0⟩ := i_nat (x := x) (N := 12) (by omega) (by omega)
                subst ee_x0
                have tt_x0 : (nI x0).toInt = (x0 : Int) := nI_toInt (by omega)
                have nn_x0 : tn (nI x0) = x0 := tn_nI (by omega)
                obtain ⟨t0, bb_t0, ee_t0⟩ := i_nat (x := t) (N := 10) (by omega) (by omega)
                subst ee_t0
                have tt_t0 : (nI t0).toInt = (t0 : Int) := nI_toInt (by omega)
                have nn_t0 : tn (nI t0) = t0 := tn_nI (by omega)
                refine aw_aload_n 0 dX8_visitor_87 rfl rfl ?_
                refine aw_get fX8_51 dX8_visitor_88 h0 rfl ?_
                refine aw_iload_n 1 dX8_visitor_91 rfl rfl ?_
                refine aw_iload_n 2 dX8_visitor_92 rfl rfl ?_
                refine aw_iload_n 1 dX8_visitor_93 rfl rfl ?_
                refine aw_dS [.int (nI s0)] [.int (nI x0), .int (nI s0), .ref (G.1 + 79)] lX8_201 sX8_needsTwo mX8_needsTwo dX8_visitor_94 (bX8_needsTwo (x := (nI s0)) ) rfl (Nat.le_of_ble_eq_true rfl) (by decide) (by decide) rfl ?_
                refine aw_if_eq 104 dX8_visitor_97 (by decide) (fun c97 => ?_) (fun c97 => ?_)
                · have t97 := ite_0 c97
                  refine aw_iload_n 2 dX8_visitor_104 rfl rfl ?_
                  refine aw_iload 4 dX8_visitor_105 rfl ?_
                  refine aw_eV [.int (nI s0), .int (nI x0), .int (nI x0), .int (nI t0)] [] lX8_205 vX6_addSaying mX6_addSaying dX8_visitor_107 (aX6_addSaying (so := so) (x := xx) (y := yy) (tr := tr) (n := n) (s0 := s0) (x0 := x0) (y0 := x0) (v0 := t0) h79 h80 h81 h82 h83 (by omega)) h79 rfl rfl rfl (Nat.le_of_ble_eq_true rfl) (by decide) (by decide) rfl (fun h820 q819 => ?_)
                  obtain ⟨f821, f822, f823, f824, f825, k826⟩ := q819
                  have f827 := rng_at k826 (by decide) h0
                  have f828 := rng_at k826 (by decide) h87
                  subst hQF
                  have eS : (spVis n (nI s0) (nI x0) y (nI t0)) = (nI n) := by unfold spVis; (repeat' split) <;> first | (exfalso; omega) | rfl
                  have ok9 : 0 ≤ (spVis n (nI s0) (nI x0) y (nI t0)).toInt := by rw [eS, nI_toInt (by omega)]; omega
                  exact aw_iret rfl dX8_visitor_110 (by decide) (by decide) ⟨by rw [eS], _, by rw [spN_y ok9]; exact f821, by rw [spUn_y ok9, nn_s0]; exact f822, by rw [spUn_y ok9, nn_x0]; exact f823, by rw [spUn_y ok9, if_neg (by omega), nn_x0]; exact f824, by rw [spUn_y ok9, nn_t0]; exact f825, f828, rg2_tr (rg2_rf 79 83 87 87 h) (rg2_w k826 (by decide))⟩
                · have t97 := ite_1 c97
                  obtain ⟨y0, bb_y0, ee_y0⟩ := i_nat (x := y) (N := 12) (by omega) (by omega)
                  subst ee_y0
                  have tt_y0 : (nI y0).toInt = (y0 : Int) := nI_toInt (by omega)
                  have nn_y0 : tn (nI y0) = y0 := tn_nI (by omega)
                  refine aw_iload_n 3 dX8_visitor_100 rfl rfl ?_
                  refine aw_goto 105 dX8_visitor_101 (by decide) ?_
                  refine aw_iload 4 dX8_visitor_105 rfl ?_
                  refine aw_eV [.int (nI s0), .int (nI x0), .int (nI y0), .int (nI t0)] [] lX8_205 vX6_addSaying mX6_addSaying dX8_visitor_107 (aX6_addSaying (so := so) (x := xx) (y := yy) (tr := tr) (n := n) (s0 := s0) (x0 := x0) (y0 := y0) (v0 := t0) h79 h80 h81 h82 h83 (by omega)) h79 rfl rfl rfl (Nat.le_of_ble_eq_true rfl) (by decide) (by decide) rfl (fun h830 q829 => ?_)
                  obtain ⟨f831, f832, f833, f834, f835, k836⟩ := q829
                  have f837 := rng_at k836 (by decide) h0
                  have f838 := rng_at k836 (by decide) h87
                  subst hQF
                  have eS : (spVis n (nI s0) (nI x0) (nI y0) (nI t0)) = (nI n) := by unfold spVis; (repeat' split) <;> first | (exfalso; omega) | rfl
                  have ok9 : 0 ≤ (spVis n (nI s0) (nI x0) (nI y0) (nI t0)).toInt := by rw [eS, nI_toInt (by omega)]; omega
                  exact aw_iret rfl dX8_visitor_110 (by decide) (by decide) ⟨by rw [eS], _, by rw [spN_y ok9]; exact f831, by rw [spUn_y ok9, nn_s0]; exact f832, by rw [spUn_y ok9, nn_x0]; exact f833, by rw [spUn_y ok9, if_pos (by omega), nn_y0]; exact f834, by rw [spUn_y ok9, nn_t0]; exact f835, f838, rg2_tr (rg2_rf 79 83 87 87 h) (rg2_w k836 (by decide))⟩
              · have d77 := mt (nv_lt (a := n) (b := 40) (rfl) (rfl) (by omega) (by omega)).mpr c77
                refine aw_aload_n 0 dX8_visitor_80 rfl rfl ?_
                refine aw_bipush (-6) dX8_visitor_81 (by decide) ?_
                refine aw_eV [.int (-6)] [] lX8_70 vX8_refuse mX8_refuse dX8_visitor_83 (bX8_refuse (jv := jv) (bv := bv) (rf := rf) (x := (-6)) (q := 6) h0 h87 (by decide) (by decide)) h0 rfl rfl rfl (Nat.le_of_ble_eq_true rfl) (by decide) (by decide) rfl (fun h841 q840 => ?_)
                obtain ⟨rf1839, f842, k843⟩ := q840
                have f844 := rng_at k843 (by decide) h0
                have f845 := rng_at k843 (by decide) h79
                have f846 := rng_at k843 (by decide) h80
                have f847 := rng_at k843 (by decide) h81
                have f848 := rng_at k843 (by decide) h82
                have f849 := rng_at k843 (by decide) h83
                subst hQF
                have eS : (spVis n s x y t) = (-6) := by unfold spVis; (repeat' split) <;> first | (exfalso; omega) | rfl
                have ok9 : ¬ 0 ≤ (spVis n s x y t).toInt := by rw [eS]; decide
                exact aw_iret rfl dX8_visitor_86 (by decide) (by decide) ⟨by rw [eS], _, by rw [spN_n ok9]; exact f845, by rw [spUn_n ok9]; exact f846, by rw [spUn_n ok9]; exact f847, by rw [spUn_n ok9]; exact f848, by rw [spUn_n ok9]; exact f849, f842, rg2_tr (rg2_rf 79 83 87 87 h) (rg2_w k843 (by decide))⟩
          · have d51 := mt (j_le (a := (1)) (b := t.toInt) (rfl) (rfl)).mpr c51
            refine aw_aload_n 0 dX8_visitor_54 rfl rfl ?_
            refine aw_bipush (-4) dX8_visitor_55 (by decide) ?_
            refine aw_eV [.int (-4)] [] lX8_70 vX8_refuse mX8_refuse dX8_visitor_57 (bX8_refuse (jv := jv) (bv := bv) (rf := rf) (x := (-4)) (q := 4) h0 h87 (by decide) (by decide)) h0 rfl rfl rfl (Nat.le_of_ble_eq_true rfl) (by decide) (by decide) rfl (fun h852 q851 => ?_)
            obtain ⟨rf1850, f853, k854⟩ := q851
            have f855 := rng_at k854 (by decide) h0
            have f856 := rng_at k854 (by decide) h79
            have f857 := rng_at k854 (by decide) h80
            have f858 := rng_at k854 (by decide) h81
            have f859 := rng_at k854 (by decide) h82
            have f860 := rng_at k854 (by decide) h83
            subst hQF
            have eS : (spVis n s x y t) = (-4) := by unfold spVis; (repeat' split) <;> first | (exfalso; omega) | rfl
            have ok9 : ¬ 0 ≤ (spVis n s x y t).toInt := by rw [eS]; decide
            exact aw_iret rfl dX8_visitor_60 (by decide) (by decide) ⟨by rw [eS], _, by rw [spN_n ok9]; exact f856, by rw [spUn_n ok9]; exact f857, by rw [spUn_n ok9]; exact f858, by rw [spUn_n ok9]; exact f859, by rw [spUn_n ok9]; exact f860, f853, rg2_tr (rg2_rf 79 83 87 87 h) (rg2_w k854 (by decide))⟩
        · have t27 := ite_1 c27
          refine aw_iload_n 3 dX8_visitor_30 rfl rfl ?_
          refine aw_dS [.int y] [] lX8_154 sX8_isThing mX8_isThing dX8_visitor_31 (bX8_isThing (x := y) ) rfl (Nat.le_of_ble_eq_true rfl) (by decide) (by decide) rfl ?_
          refine aw_if_eq 42 dX8_visitor_34 (by decide) (fun c34 => ?_) (fun c34 => ?_)
          · have t34 := ite_0 c34
            refine aw_aload_n 0 dX8_visitor_42 rfl rfl ?_
            refine aw_iconst (-1) dX8_visitor_43 (by decide) ?_
            refine aw_eV [.int (-1)] [] lX8_70 vX8_refuse mX8_refuse dX8_visitor_44 (bX8_refuse (jv := jv) (bv := bv) (rf := rf) (x := (-1)) (q := 1) h0 h87 (by decide) (by decide)) h0 rfl rfl rfl (Nat.le_of_ble_eq_true rfl) (by decide) (by decide) rfl (fun h863 q862 => ?_)
            obtain ⟨rf1861, f864, k865⟩ := q862
            have f866 := rng_at k865 (by decide) h0
            have f867 := rng_at k865 (by decide) h79
            have f868 := rng_at k865 (by decide) h80
            have f869 := rng_at k865 (by decide) h81
            have f870 := rng_at k865 (by decide) h82
            have f871 := rng_at k865 (by decide) h83
            subst hQF
            have eS : (spVis n s x y t) = (-1) := by unfold spVis; (repeat' split) <;> first | (exfalso; omega) | rfl
            have ok9 : ¬ 0 ≤ (spVis n s x y t).toInt := by rw [eS]; decide
            exact aw_iret rfl dX8_visitor_47 (by decide) (by decide) ⟨by rw [eS], _, by rw [spN_n ok9]; exact f867, by rw [spUn_n ok9]; exact f868, by rw [spUn_n ok9]; exact f869, by rw [spUn_n ok9]; exact f870, by rw [spUn_n ok9]; exact f871, f864, rg2_tr (rg2_rf 79 83 87 87 h) (rg2_w k865 (by decide))⟩
          · have t34 := ite_1 c34
            refine aw_iload_n 2 dX8_visitor_37 rfl rfl ?_
            refine aw_iload_n 3 dX8_visitor_38 rfl rfl ?_
            refine aw_icmp_ne 48 dX8_visitor_39 (by decide) (fun c39 => ?_) (fun c39 => ?_)
            · have d39 := mt (j_eq (a := x.toInt) (b := y.toInt) (rfl) (rfl)).mpr c39
              refine aw_iload 4 dX8_visitor_48 rfl ?_
              refine aw_iconst (1) dX8_visitor_50 (by decide) ?_
              refine aw_icmp_ge 61 dX8_visitor_51 (by decide) (fun c51 => ?_) (fun c51 => ?_)
              · have d51 := (j_le (a := (1)) (b := t.toInt) (rfl) (rfl)).mp c51
                refine aw_iload 4 dX8_visitor_61 rfl ?_
                refine aw_bipush (9) dX8_visitor_63 (by decide) ?_
                refine aw_icmp_gt 80 dX8_visitor_65 (by decide) (fun c65 => ?_) (fun c65 => ?_)
                · have d65 := (j_lt (a := (9)) (b := t.toInt) (rfl) (rfl)).mp c65
                  refine aw_aload_n 0 dX8_visitor_80 rfl rfl ?_
                  refine aw_bipush (-6) dX8_visitor_81 (by decide) ?_
                  refine aw_eV [.int (-6)] [] lX8_70 vX8_refuse mX8_refuse dX8_visitor_83 (bX8_refuse (jv := jv) (bv := bv) (rf := rf) (x := (-6)) (q := 6) h0 h87 (by decide) (by decide)) h0 rfl rfl rfl (Nat.le_of_ble_eq_true rfl) (by decide) (by decide) rfl (fun h874 q873 => ?_)
                  obtain ⟨rf1872, f875, k876⟩ := q873
                  have f877 := rng_at k876 (by decide) h0
                  have f878 := rng_at k876 (by decide) h79
                  have f879 := rng_at k876 (by decide) h80
                  have f880 := rng_at k876 (by decide) h81
                  have f881 := rng_at k876 (by decide) h82
                  have f882 := rng_at k876 (by decide) h83
                  subst hQF
                  have eS : (spVis n s x y t) = (-6) := by unfold spVis; (repeat' split) <;> first | (exfalso; omega) | rfl
                  have ok9 : ¬ 0 ≤ (spVis n s x y t).toInt := by rw [eS]; decide
                  exact aw_iret rfl dX8_visitor_86 (by decide) (by decide) ⟨by rw [eS], _, by rw [spN_n ok9]; exact f878, by rw [spUn_n ok9]; exact f879, by rw [spUn_n ok9]; exact f880, by rw [spUn_n ok9]; exact f881, by rw [spUn_n ok9]; exact f882, f875, rg2_tr (rg2_rf 79 83 87 87 h) (rg2_w k876 (by decide))⟩
                · have d65 := mt (j_lt (a := (9)) (b := t.toInt) (rfl) (rfl)).mpr c65
                  refine aw_aload_n 0 dX8_visitor_68 rfl rfl ?_
                  refine aw_get fX8_51 dX8_visitor_69 h0 rfl ?_
                  refine aw_get fX8_204 dX8_visitor_72 h79 rfl ?_
                  refine aw_bipush (40) dX8_visitor_75 (by decide) ?_
                  refine aw_icmp_lt 87 dX8_visitor_77 (by decide) (fun c77 => ?_) (fun c77 => ?_)
                  · have d77 := (nv_lt (a := n) (b := 40) (rfl) (rfl) (by omega) (by omega)).mp c77
                    obtain ⟨s0, bb_s0, ee_s0⟩ := i_nat (x := s) (N := 4) (by omega) (by omega)
                    subst ee_s0
                    have tt_s0 : (nI s0).toInt = (s0 : Int) := nI_toInt (by omega)
                    have nn_s0 : tn (nI s0) = s0 := tn_nI (by omega)
                    obtain ⟨x0, bb_x0, ee_x0⟩ := i_nat (x := x) (N := 12) (by omega) (by omega)
                    subst ee_x0
                    have tt_x0 : (nI x0).toInt = (x0 : Int) := nI_toInt (by omega)
                    have nn_x0 : tn (nI x0) = x0 := tn_nI (by omega)
                    obtain ⟨t0, bb_t0, ee_t0⟩ := i_nat (x := t) (N := 10) (by omega) (by omega)
                    subst ee_t0
                    have tt_t0 : (nI t0).toInt = (t0 : Int) := nI_toInt (by omega)
                    have nn_t0 : tn (nI t0) = t0 := tn_nI (by omega)
                    refine aw_aload_n 0 dX8_visitor_87 rfl rfl ?_
                    refine aw_get fX8_51 dX8_visitor_88 h0 rfl ?_
                    refine aw_iload_n 1 dX8_visitor_91 rfl rfl ?_
                    refine aw_iload_n 2 dX8_visitor_92 rfl rfl ?_
                    refine aw_iload_n 1 dX8_visitor_93 rfl rfl ?_
                    refine aw_dS [.int (nI s0)] [.int (nI x0), .int (nI s0), .ref (G.1 + 79)] lX8_201 sX8_needsTwo mX8_needsTwo dX8_visitor_94 (bX8_needsTwo (x := (nI s0)) ) rfl (Nat.le_of_ble_eq_true rfl) (by decide) (by decide) rfl ?_
                    refine aw_if_eq 104 dX8_visitor_97 (by decide) (fun c97 => ?_) (fun c97 => ?_)
                    · have t97 := ite_0 c97
                      refine aw_iload_n 2 dX8_visitor_104 rfl rfl ?_
                      refine aw_iload 4 dX8_visitor_105 rfl ?_
                      refine aw_eV [.int (nI s0), .int (nI x0), .int (nI x0), .int (nI t0)] [] lX8_205 vX6_addSaying mX6_addSaying dX8_visitor_107 (aX6_addSaying (so := so) (x := xx) (y := yy) (tr := tr) (n := n) (s0 := s0) (x0 := x0) (y0 := x0) (v0 := t0) h79 h80 h81 h82 h83 (by omega)) h79 rfl rfl rfl (Nat.le_of_ble_eq_true rfl) (by decide) (by decide) rfl (fun h884 q883 => ?_)
                      obtain ⟨f885, f886, f887, f888, f889, k890⟩ := q883
                      have f891 := rng_at k890 (by decide) h0
                      have f892 := rng_at k890 (by decide) h87
                      subst hQF
                      have eS : (spVis n (nI s0) (nI x0) y (nI t0)) = (nI n) := by unfold spVis; (repeat' split) <;> first | (exfalso; omega) | rfl
                      have ok9 : 0 ≤ (spVis n (nI s0) (nI x0) y (nI t0)).toInt := by rw [eS, nI_toInt (by omega)]; omega
                      exact aw_iret rfl dX8_visitor_110 (by decide) (by decide) ⟨by rw [eS], _, by rw [spN_y ok9]; exact f885, by rw [spUn_y ok9, nn_s0]; exact f886, by rw [spUn_y ok9, nn_x0]; exact f887, by rw [spUn_y ok9, if_neg (by omega), nn_x0]; exact f888, by rw [spUn_y ok9, nn_t0]; exact f889, f892, rg2_tr (rg2_rf 79 83 87 87 h) (rg2_w k890 (by decide))⟩
                    · have t97 := ite_1 c97
                      obtain ⟨y0, bb_y0, ee_y0⟩ := i_nat (x := y) (N := 12) (by omega) (by omega)
                      subst ee_y0
                      have tt_y0 : (nI y0).toInt = (y0 : Int) := nI_toInt (by omega)
                      have nn_y0 : tn (nI y0) = y0 := tn_nI (by omega)
                      refine aw_iload_n 3 dX8_visitor_100 rfl rfl ?_
                      refine aw_goto 105 dX8_visitor_101 (by decide) ?_
                      refine aw_iload 4 dX8_visitor_105 rfl ?_
                      refine aw_eV [.int (nI s0), .int (nI x0), .int (nI y0), .int (nI t0)] [] lX8_205 vX6_addSaying mX6_addSaying dX8_visitor_107 (aX6_addSaying (so := so) (x := xx) (y := yy) (tr := tr) (n := n) (s0 := s0) (x0 := x0) (y0 := y0) (v0 := t0) h79 h80 h81 h82 h83 (by omega)) h79 rfl rfl rfl (Nat.le_of_ble_eq_true rfl) (by decide) (by decide) rfl (fun h894 q893 => ?_)
                      obtain ⟨f895, f896, f897, f898, f899, k900⟩ := q893
                      have f901 := rng_at k900 (by decide) h0
                      have f902 := rng_at k900 (by decide) h87
                      subst hQF
                      have eS : (spVis n (nI s0) (nI x0) (nI y0) (nI t0)) = (nI n) := by unfold spVis; (repeat' split) <;> first | (exfalso; omega) | rfl
                      have ok9 : 0 ≤ (spVis n (nI s0) (nI x0) (nI y0) (nI t0)).toInt := by rw [eS, nI_toInt (by omega)]; omega
                      exact aw_iret rfl dX8_visitor_110 (by decide) (by decide) ⟨by rw [eS], _, by rw [spN_y ok9]; exact f895, by rw [spUn_y ok9, nn_s0]; exact f896, by rw [spUn_y ok9, nn_x0]; exact f897, by rw [spUn_y ok9, if_pos (by omega), nn_y0]; exact f898, by rw [spUn_y ok9, nn_t0]; exact f899, f902, rg2_tr (rg2_rf 79 83 87 87 h) (rg2_w k900 (by decide))⟩
                  · have d77 := mt (nv_lt (a := n) (b := 40) (rfl) (rfl) (by omega) (by omega)).mpr c77
                    refine aw_aload_n 0 dX8_visitor_80 rfl rfl ?_
                    refine aw_bipush (-6) dX8_visitor_81 (by decide) ?_
                    refine aw_eV [.int (-6)] [] lX8_70 vX8_refuse mX8_refuse dX8_visitor_83 (bX8_refuse (jv := jv) (bv := bv) (rf := rf) (x := (-6)) (q := 6) h0 h87 (by decide) (by decide)) h0 rfl rfl rfl (Nat.le_of_ble_eq_true rfl) (by decide) (by decide) rfl (fun h905 q904 => ?_)
                    obtain ⟨rf1903, f906, k907⟩ := q904
                    have f908 := rng_at k907 (by decide) h0
                    have f909 := rng_at k907 (by decide) h79
                    have f910 := rng_at k907 (by decide) h80
                    have f911 := rng_at k907 (by decide) h81
                    have f912 := rng_at k907 (by decide) h82
                    have f913 := rng_at k907 (by decide) h83
                    subst hQF
                    have eS : (spVis n s x y t) = (-6) := by unfold spVis; (repeat' split) <;> first | (exfalso; omega) | rfl
                    have ok9 : ¬ 0 ≤ (spVis n s x y t).toInt := by rw [eS]; decide
                    exact aw_iret rfl dX8_visitor_86 (by decide) (by decide) ⟨by rw [eS], _, by rw [spN_n ok9]; exact f909, by rw [spUn_n ok9]; exact f910, by rw [spUn_n ok9]; exact f911, by rw [spUn_n ok9]; exact f912, by rw [spUn_n ok9]; exact f913, f906, rg2_tr (rg2_rf 79 83 87 87 h) (rg2_w k907 (by decide))⟩
              · have d51 := mt (j_le (a := (1)) (b := t.toInt) (rfl) (rfl)).mpr c51
                refine aw_aload_n 0 dX8_visitor_54 rfl rfl ?_
                refine aw_bipush (-4) dX8_visitor_55 (by decide) ?_
                refine aw_eV [.int (-4)] [] lX8_70 vX8_refuse mX8_refuse dX8_visitor_57 (bX8_refuse (jv := jv) (bv := bv) (rf := rf) (x := (-4)) (q := 4) h0 h87 (by decide) (by decide)) h0 rfl rfl rfl (Nat.le_of_ble_eq_true rfl) (by decide) (by decide) rfl (fun h916 q915 => ?_)
                obtain ⟨rf1914, f917, k918⟩ := q915
                have f919 := rng_at k918 (by decide) h0
                have f920 := rng_at k918 (by decide) h79
                have f921 := rng_at k918 (by decide) h80
                have f922 := rng_at k918 (by decide) h81
                have f923 := rng_at k918 (by decide) h82
                have f924 := rng_at k918 (by decide) h83
                subst hQF
                have eS : (spVis n s x y t) = (-4) := by unfold spVis; (repeat' split) <;> first | (exfalso; omega) | rfl
                have ok9 : ¬ 0 ≤ (spVis n s x y t).toInt := by rw [eS]; decide
                exact aw_iret rfl dX8_visitor_60 (by decide) (by decide) ⟨by rw [eS], _, by rw [spN_n ok9]; exact f920, by rw [spUn_n ok9]; exact f921, by rw [spUn_n ok9]; exact f922, by rw [spUn_n ok9]; exact f923, by rw [spUn_n ok9]; exact f924, f917, rg2_tr (rg2_rf 79 83 87 87 h) (rg2_w k918 (by decide))⟩
            · have d39 := (j_eq (a := x.toInt) (b := y.toInt) (rfl) (rfl)).mp c39
              refine aw_aload_n 0 dX8_visitor_42 rfl rfl ?_
              refine aw_iconst (-1) dX8_visitor_43 (by decide) ?_
              refine aw_eV [.int (-1)] [] lX8_70 vX8_refuse mX8_refuse dX8_visitor_44 (bX8_refuse (jv := jv) (bv := bv) (rf := rf) (x := (-1)) (q := 1) h0 h87 (by decide) (by decide)) h0 rfl rfl rfl (Nat.le_of_ble_eq_true rfl) (by decide) (by decide) rfl (fun h927 q926 => ?_)
              obtain ⟨rf1925, f928, k929⟩ := q926
              have f930 := rng_at k929 (by decide) h0
              have f931 := rng_at k929 (by decide) h79
              have f932 := rng_at k929 (by decide) h80
              have f933 := rng_at k929 (by decide) h81
              have f934 := rng_at k929 (by decide) h82
              have f935 := rng_at k929 (by decide) h83
              subst hQF
              have eS : (spVis n s x y t) = (-1) := by unfold spVis; (repeat' split) <;> first | (exfalso; omega) | rfl
              have ok9 : ¬ 0 ≤ (spVis n s x y t).toInt := by rw [eS]; decide
              exact aw_iret rfl dX8_visitor_47 (by decide) (by decide) ⟨by rw [eS], _, by rw [spN_n ok9]; exact f931, by rw [spUn_n ok9]; exact f932, by rw [spUn_n ok9]; exact f933, by rw [spUn_n ok9]; exact f934, by rw [spUn_n ok9]; exact f935, f928, rg2_tr (rg2_rf 79 83 87 87 h) (rg2_w k929 (by decide))⟩
    · have d6 := mt (j_le (a := s.toInt) (b := (3)) (rfl) (rfl)).mpr c6
      refine aw_aload_n 0 dX8_visitor_9 rfl rfl ?_
      refine aw_bipush (-2) dX8_visitor_10 (by decide) ?_
      refine aw_eV [.int (-2)] [] lX8_70 vX8_refuse mX8_refuse dX8_visitor_12 (bX8_refuse (jv := jv) (bv := bv) (rf := rf) (x := (-2)) (q := 2) h0 h87 (by decide) (by decide)) h0 rfl rfl rfl (Nat.le_of_ble_eq_true rfl) (by decide) (by decide) rfl (fun h938 q937 => ?_)
      obtain ⟨rf1936, f939, k940⟩ := q937
      have f941 := rng_at k940 (by decide) h0
      have f942 := rng_at k940 (by decide) h79
      have f943 := rng_at k940 (by decide) h80
      have f944 := rng_at k940 (by decide) h81
      have f945 := rng_at k940 (by decide) h82
      have f946 := rng_at k940 (by decide) h83
      subst hQF
      have eS : (spVis n s x y t) = (-2) := by unfold spVis; (repeat' split) <;> first | (exfalso; omega) | rfl
      have ok9 : ¬ 0 ≤ (spVis n s x y t).toInt := by rw [eS]; decide
      exact aw_iret rfl dX8_visitor_15 (by decide) (by decide) ⟨by rw [eS], _, by rw [spN_n ok9]; exact f942, by rw [spUn_n ok9]; exact f943, by rw [spUn_n ok9]; exact f944, by rw [spUn_n ok9]; exact f945, by rw [spUn_n ok9]; exact f946, f939, rg2_tr (rg2_rf 79 83 87 87 h) (rg2_w k940 (by decide))⟩
