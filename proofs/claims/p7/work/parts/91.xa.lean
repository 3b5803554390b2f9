set_option maxHeartbeats 4000000 in
theorem oX8_holds {l : Launch} {G : xG} {h : List va_E} {jv bv : Value} {rf : Nat → Int32} {th ot dy so kn go od : Nat → Nat} {n : Nat} {wd : Int32} {l0 o0 w0 z0 : Int32} {LE0 : Nat → Int32} {t d k v : Int32} (h0 : h[0]? = some (oB 8 (lX G (jv) (bv)))) (h87 : h[87]? = some (aI 7 rf)) (h77 : h[77]? = some (oB 2 (lH G l0 o0 w0 z0))) (h78 : h[78]? = some (aI 60 LE0)) (h69 : h[69]? = some (oB 5 (lR G 69 (nI n) wd))) (h70 : h[70]? = some (aI 60 (nA th))) (h71 : h[71]? = some (aI 60 (nA ot))) (h72 : h[72]? = some (aI 60 (nA dy))) (h73 : h[73]? = some (aI 60 (nA so))) (h74 : h[74]? = some (aI 60 (nA kn))) (h75 : h[75]? = some (aI 60 (nA go))) (h76 : h[76]? = some (aI 60 (nA od))) (hn : n ≤ 60) (hod : srt dy od n) (bth : ∀ j, j < 60 → th j < 12) (bkn : ∀ j, j < 60 → kn j ≤ 80000) (bgo : ∀ j, j < 60 → go j ≤ 80001) (bdy : ∀ j, j < 60 → dy j ≤ 80000) (bso : ∀ j, j < 60 → so j < 5) : CU l G yX8_holds cX8_holds 6 (some .int) 3 0 0 [.ref (G.1 + 0), .int t, .int d, .int k, .int v] h (fun r h1 => ∃ l1 : Int32, ∃ o1 : Int32, ∃ w1 : Int32, ∃ z1 : Int32, ∃ LE1 : Nat → Int32, ∃ rf1 : Nat → Int32, h1[77]? = some (oB 2 (lH G l1 o1 w1 z1)) ∧ h1[78]? = some (aI 60 LE1) ∧ h1[87]? = some (aI 7 rf1) ∧ rg2 77 78 87 87 h h1 ∧ r = (if (0 ≤ t.toInt ∧ t.toInt < 12) then (if v.toInt < 0 ∨ 2 < v.toInt then -2 else if dyF d k = 0 then (if v.toInt = 0 then (rpF th ot dy so kn go od (tn t) (tn d) (tn k) n).2.1 else if v.toInt = 1 then (rpF th ot dy so kn go od (tn t) (tn d) (tn k) n).2.2.1 else if (rpF th ot dy so kn go od (tn t) (tn d) (tn k) n).2.2.2 = 0 then 0 else 1) else dyF d k) else -1)) := by
  refine cm_ofQ rfl (Nat.le_of_ble_eq_true rfl) [(0, .ref (G.1 + 0)), (1, .int t), (2, .int d), (3, .int k), (4, .int v)] rfl (fun QF hQF => ?_)
  refine aw_iload_n 1 dX8_holds_0 rfl rfl ?_
  refine aw_dS [.int t] [] lX8_154 sX8_isThing mX8_isThing dX8_holds_1 (bX8_isThing (x := t) ) rfl (Nat.le_of_ble_eq_true rfl) (by decide) (by decide) rfl ?_
  refine aw_if_ne 13 dX8_holds_4 (by decide) (fun c4 => ?_) (fun c4 => ?_)
  · have t4 := ite_1 c4
    refine aw_iload 4 dX8_holds_13 rfl ?_
    refine aw_if_lt 24 dX8_holds_15 (by decide) (fun c15 => ?_) (fun c15 => ?_)
    · have d15 := (j_lt (a := v.toInt) (b := (0)) (rfl) (rfl)).mp c15
      refine aw_aload_n 0 dX8_holds_24 rfl rfl ?_
      refine aw_bipush (-2) dX8_holds_25 (by decide) ?_
      refine aw_eV [.int (-2)] [] lX8_70 vX8_refuse mX8_refuse dX8_holds_27 (bX8_refuse (jv := jv) (bv := bv) (rf := rf) (x := (-2)) (q := 2) h0 h87 (by decide) (by decide)) h0 rfl rfl rfl (Nat.le_of_ble_eq_true rfl) (by decide) (by decide) rfl (fun h3818 q3817 => ?_)
      obtain ⟨rf13816, f3819, k3820⟩ := q3817
      have f3821 := rng_at k3820 (by decide) h0
      have f3822 := rng_at k3820 (by decide) h77
      have f3823 := rng_at k3820 (by decide) h78
      have f3824 := rng_at k3820 (by decide) h69
      have f3825 := rng_at k3820 (by decide) h70
      have f3826 := rng_at k3820 (by decide) h71
      have f3827 := rng_at k3820 (by decide) h72
      have f3828 := rng_at k3820 (by decide) h73
      have f3829 := rng_at k3820 (by decide) h74
      have f3830 := rng_at k3820 (by decide) h75
      have f3831 := rng_at k3820 (by decide) h76
      subst hQF
      exact aw_iret rfl dX8_holds_30 (by decide) (by decide) ⟨_, rfl, _, _, _, _, _, _, f3822, f3823, f3819, rg2_tr (rg2_rf 77 78 87 87 h) (rg2_w k3820 (by decide)), by rw [if_pos (by omega), if_pos (by omega)]⟩
    · have d15 := mt (j_lt (a := v.toInt) (b := (0)) (rfl) (rfl)).mpr c15
      refine aw_iload 4 dX8_holds_18 rfl ?_
      refine aw_iconst (2) dX8_holds_20 (by decide) ?_
      refine aw_icmp_le 31 dX8_holds_21 (by decide) (fun c21 => ?_) (fun c21 => ?_)
      · have d21 := (j_le (a := v.toInt) (b := (2)) (rfl) (rfl)).mp c21
        refine aw_iload_n 2 dX8_holds_31 rfl rfl ?_
        refine aw_iload_n 3 dX8_holds_32 rfl rfl ?_
        refine aw_dS [.int d, .int k] [] lX8_157 sX8_daysRefusal mX8_daysRefusal dX8_holds_33 (bX8_daysRefusal (x := d) (k := k) ) rfl (Nat.le_of_ble_eq_true rfl) (by decide) (by decide) rfl ?_
        refine aw_istore [(5, .int (dyF d k)), (0, .ref (G.1 + 0)), (1, .int t), (2, .int d), (3, .int k), (4, .int v)] dX8_holds_36 (by decide) rfl ?_
        refine aw_iload 0 dX8_holds_38 rfl ?_
        refine aw_if_eq 50 dX8_holds_40 (by decide) (fun c40 => ?_) (fun c40 => ?_)
        · have d40 := (j_eq (a := (dyF d k).toInt) (b := (0)) (rfl) (rfl)).mp c40
          have hdd := dyF_0 c40
          obtain ⟨t0, bb_t0, ee_t0⟩ := i_nat (x := t) (N := 12) (by omega) (by omega)
          subst ee_t0
          have tt_t0 : (nI t0).toInt = (t0 : Int) := nI_toInt (by omega)
          have nn_t0 : tn (nI t0) = t0 := tn_nI (by omega)
          obtain ⟨d0, bb_d0, ee_d0⟩ := i_nat (x := d) (N := 80001) (by omega) (by omega)
          subst ee_d0
          have tt_d0 : (nI d0).toInt = (d0 : Int) := nI_toInt (by omega)
          have nn_d0 : tn (nI d0) = d0 := tn_nI (by omega)
          obtain ⟨k0, bb_k0, ee_k0⟩ := i_nat (x := k) (N := 80001) (by omega) (by omega)
          subst ee_k0
          have tt_k0 : (nI k0).toInt = (k0 : Int) := nI_toInt (by omega)
          have nn_k0 : tn (nI k0) = k0 := tn_nI (by omega)
          refine aw_aload_n 1 dX8_holds_50 rfl rfl ?_
          refine aw_get fX8_44 dX8_holds_51 h0 rfl ?_
          refine aw_aload_n 1 dX8_holds_54 rfl rfl ?_
          refine aw_get fX8_38 dX8_holds_55 h0 rfl ?_
          refine aw_iload_n 2 dX8_holds_58 rfl rfl ?_
          refine aw_iload_n 3 dX8_holds_59 rfl rfl ?_
          refine aw_iload_n 4 dX8_holds_60 rfl rfl ?_
          refine aw_eW [.ref (G.1 + 69), .int (nI t0), .int (nI d0), .int (nI k0)] [] lX8_183 vX2_replay mX2_replay dX8_holds_61 (aX2_replay (th := th) (ot := ot) (dy := dy) (so := so) (kn := kn) (go := go) (od := od) (n := n) (wd := wd) (l0 := l0) (o0 := o0) (w0 := w0) (z0 := z0) (LE0 := LE0) (t := t0) (d := d0) (k := k0) h77 h78 h69 h70 h71 h72 h73 h74 h75 h76 (by omega) hod bth bkn bgo bdy bso (by omega) (by omega) (by omega)) h77 rfl rfl rfl (Nat.le_of_ble_eq_true rfl) (by decide) (by decide) rfl (fun h3834 q3833 => ?_)
          obtain ⟨LE13832, f3835, f3836, k3837⟩ := q3833
          have f3838 := rng_at k3837 (by decide) h0
          have f3839 := rng_at k3837 (by decide) h87
          have f3840 := rng_at k3837 (by decide) h69
          have f3841 := rng_at k3837 (by decide) h70
          have f3842 := rng_at k3837 (by decide) h71
          have f3843 := rng_at k3837 (by decide) h72
          have f3844 := rng_at k3837 (by decide) h73
          have f3845 := rng_at k3837 (by decide) h74
          have f3846 := rng_at k3837 (by decide) h75
          have f3847 := rng_at k3837 (by decide) h76
          refine aw_iload 5 dX8_holds_64 rfl ?_
          refine aw_if_ne 77 dX8_holds_66 (by decide) (fun c66 => ?_) (fun c66 => ?_)
          · have d66 := mt (j_eq (a := v.toInt) (b := (0)) (rfl) (rfl)).mpr c66
            refine aw_iload 5 dX8_holds_77 rfl ?_
            refine aw_iconst (1) dX8_holds_79 (by decide) ?_
            refine aw_icmp_ne 91 dX8_holds_80 (by decide) (fun c80 => ?_) (fun c80 => ?_)
            · have d80 := mt (j_eq (a := v.toInt) (b := (1)) (rfl) (rfl)).mpr c80
              refine aw_aload_n 1 dX8_holds_91 rfl rfl ?_
              refine aw_get fX8_44 dX8_holds_92 f3838 rfl ?_
              refine aw_get fX8_193 dX8_holds_95 f3835 rfl ?_
              refine aw_if_eq 105 dX8_holds_98 (by decide) (fun c98 => ?_) (fun c98 => ?_)
              · have d98 := (j_eq (a := ((rpF th ot dy so kn go od t0 d0 k0 n).2.2.2).toInt) (b := (0)) (rfl) (rfl)).mp c98
                refine aw_iconst (0) dX8_holds_105 (by decide) ?_
                subst hQF
                exact aw_iret rfl dX8_holds_106 (by decide) (by decide) ⟨_, rfl, _, _, _, _, _, _, f3835, f3836, f3839, rg2_tr (rg2_rf 77 78 87 87 h) (rg2_w k3837 (by decide)), by rw [if_pos (by omega), if_neg (by omega), if_pos c40, if_neg (by omega), if_neg (by omega), nn_t0, nn_d0, nn_k0, if_pos c98]⟩
              · have d98 := mt (j_eq (a := ((rpF th ot dy so kn go od t0 d0 k0 n).2.2.2).toInt) (b := (0)) (rfl) (rfl)).mpr c98
                refine aw_iconst (1) dX8_holds_101 (by decide) ?_
                refine aw_goto 106 dX8_holds_102 (by decide) ?_
                subst hQF
                exact aw_iret rfl dX8_holds_106 (by decide) (by decide) ⟨_, rfl, _, _, _, _, _, _, f3835, f3836, f3839, rg2_tr (rg2_rf 77 78 87 87 h) (rg2_w k3837 (by decide)), by rw [if_pos (by omega), if_neg (by omega), if_pos c40, if_neg (by omega), if_neg (by omega), nn_t0, nn_d0, nn_k0, if_neg c98]⟩
            · have d80 := (j_eq (a := v.toInt) (b := (1)) (rfl) (rfl)).mp c80
              refine aw_aload_n 1 dX8_holds_83 rfl rfl ?_
              refine aw_get fX8_44 dX8_holds_84 f3838 rfl ?_
              refine aw_get fX8_190 dX8_holds_87 f3835 rfl ?_
              subst hQF
              exact aw_iret rfl dX8_holds_90 (by decide) (by decide) ⟨_, rfl, _, _, _, _, _, _, f3835, f3836, f3839, rg2_tr (rg2_rf 77 78 87 87 h) (rg2_w k3837 (by decide)), by rw [if_pos (by omega), if_neg (by omega), if_pos c40, if_neg (by omega), if_pos (by omega), nn_t0, nn_d0, nn_k0]⟩
          · have d66 := (j_eq (a := v.toInt) (b := (0)) (rfl) (rfl)).mp c66
            refine aw_aload_n 1 dX8_holds_69 rfl rfl ?_
            refine aw_get fX8_44 dX8_holds_70 f3838 rfl ?_
            refine aw_get fX8_187 dX8_holds_73 f3835 rfl ?_
            subst hQF
            exact aw_iret rfl dX8_holds_76 (by decide) (by decide) ⟨_, rfl, _, _, _, _, _, _, f3835, f3836, f3839, rg2_tr (rg2_rf 77 78 87 87 h) (rg2_w k3837 (by decide)), by rw [if_pos (by omega), if_neg (by omega), if_pos c40, if_pos (by omega), nn_t0, nn_d0, nn_k0]⟩
        · have d40 := mt (j_eq (a := (dyF d k).toInt) (b := (0)) (rfl) (rfl)).mpr c40
          refine aw_aload_n 1 dX8_holds_43 rfl rfl ?_
          refine aw_iload 0 dX8_holds_44 rfl ?_
          obtain ⟨q3848, bq3848, eq3848⟩ := Or.resolve_left (dyF_q d k) (by assumption)
          refine aw_eV [.int (dyF d k)] [] lX8_70 vX8_refuse mX8_refuse dX8_holds_46 (bX8_refuse (jv := jv) (bv := bv) (rf := rf) (x := (dyF d k)) (q := q3848) h0 h87 bq3848 eq3848) h0 rfl rfl rfl (Nat.le_of_ble_eq_true rfl) (by decide) (by decide) rfl (fun h3851 q3850 => ?_)
          obtain ⟨rf13849, f3852, k3853⟩ := q3850
          have f3854 := rng_at k3853 (by decide) h0
          have f3855 := rng_at k3853 (by decide) h77
          have f3856 := rng_at k3853 (by decide) h78
          have f3857 := rng_at k3853 (by decide) h69
          have f3858 := rng_at k3853 (by decide) h70
          have f3859 := rng_at k3853 (by decide) h71
          have f3860 := rng_at k3853 (by decide) h72
          have f3861 := rng_at k3853 (by decide) h73
          have f3862 := rng_at k3853 (by decide) h74
          have f3863 := rng_at k3853 (by decide) h75
          have f3864 := rng_at k3853 (by decide) h76
          subst hQF
          exact aw_iret rfl dX8_holds_49 (by decide) (by decide) ⟨_, rfl, _, _, _, _, _, _, f3855, f3856, f3852, rg2_tr (rg2_rf 77 78 87 87 h) (rg2_w k3853 (by decide)), by rw [if_pos (by omega), if_neg (by omega), if_neg c40]⟩
      · have d21 := mt (j_le (a := v.toInt) (b := (2)) (rfl) (rfl)).mpr c21
        refine aw_aload_n 0 dX8_holds_24 rfl rfl ?_
        refine aw_bipush (-2) dX8_holds_25 (by decide) ?_
        refine aw_eV [.int (-2)] [] lX8_70 vX8_refuse mX8_refuse dX8_holds_27 (bX8_refuse (jv := jv) (bv := bv) (rf := rf) (x := (-2)) (q := 2) h0 h87 (by decide) (by decide)) h0 rfl rfl rfl (Nat.le_of_ble_eq_true rfl) (by decide) (by decide) rfl (fun h3867 q3866 => ?_)
        obtain ⟨rf13865, f3868, k3869⟩ := q3866
        have f3870 := rng_at k3869 (by decide) h0
        have f3871 := rng_at k3869 (by decide) h77
        have f3872 := rng_at k3869 (by decide) h78
        have f3873 := rng_at k3869 (by decide) h69
        have f3874 := rng_at k3869 (by decide) h70
        have f3875 := rng_at k3869 (by decide) h71
        have f3876 := rng_at k3869 (by decide) h72
        have f3877 := rng_at k3869 (by decide) h73
        have f3878 := rng_at k3869 (by decide) h74
        have f3879 := rng_at k3869 (by decide) h75
        have f3880 := rng_at k3869 (by decide) h76
        subst hQF
        exact aw_iret rfl dX8_holds_30 (by decide) (by decide) ⟨_, rfl, _, _, _, _, _, _, f3871, f3872, f3868, rg2_tr (rg2_rf 77 78 87 87 h) (rg2_w k3869 (by decide)), by rw [if_pos (by omega), if_pos (by omega)]⟩
  · have t4 := ite_0 c4
    refine aw_aload_n 0 dX8_holds_7 rfl rfl ?_
    refine aw_iconst (-1) dX8_holds_8 (by decide) ?_
    refine aw_eV [.int (-1)] [] lX8_70 vX8_refuse mX8_refuse dX8_holds_9 (bX8_refuse (jv := jv) (bv := bv) (rf := rf) (x := (-1)) (q := 1) h0 h87 (by decide) (by decide)) h0 rfl rfl rfl (Nat.le_of_ble_eq_true rfl) (by decide) (by decide) rfl (fun h3883 q3882 => ?_)
    obtain ⟨rf13881, f3884, k3885⟩ := q3882
    have f3886 := rng_at k3885 (by decide) h0
    have f3887 := rng_at k3885 (by decide) h77
    have f3888 := rng_at k3885 (by decide) h78
    have f3889 := rng_at k3885 (by decide) h69
    have f3890 := rng_at k3885 (by decide) h70
    have f3891 := rng_at k3885 (by decide) h71
    have f3892 := rng_at k3885 (by decide) h72
    have f3893 := rng_at k3885 (by decide) h73
    have f3894 := rng_at k3885 (by decide) h74
    have f3895 := rng_at k3885 (by decide) h75
    have f3896 := rng_at k3885 (by decide) h76
    subst hQF
    exact aw_iret rfl dX8_holds_12 (by decide) (by decide) ⟨_, rfl, _, _, _, _, _, _, f3887, f3888, f3884, rg2_tr (rg2_rf 77 78 87 87 h) (rg2_w k3885 (by decide)), by rw [if_neg (by omega)]⟩
