set_option maxHeartbeats 4000000 in
theorem oX9_holds {l : Launch} {G : xG} {h : List va_E} {sp fa nb ns nm nv sh : Nat} {ho ow sl : Int32} {rg : Nat → Int32} {th ot dy kn go : Nat → Nat} {so ln : Nat → Nat} {lt : Nat → Int32} {t d k v : Int32} (h88 : h[88]? = some (oB 9 (lM G (nI sp) (nI fa) (nI nb) (nI ns) (nI nm) ho ow sl (nI nv) (nI sh)))) (h89 : h[89]? = some (aI 7 rg)) (h108 : h[108]? = some (aI 60 (nA th))) (h109 : h[109]? = some (aI 60 (nA ot))) (h110 : h[110]? = some (aI 60 (nA dy))) (h111 : h[111]? = some (aI 60 (nA so))) (h112 : h[112]? = some (aI 60 (nA kn))) (h113 : h[113]? = some (aI 60 (nA (gM go)))) (h114 : h[114]? = some (aI 60 (nA ln))) (h115 : h[115]? = some (aI 60 lt)) (bth : ∀ j, j < 60 → th j < 12) (bkn : ∀ j, j < 60 → kn j ≤ 80000) (bgo : ∀ j, j < 60 → go j ≤ 80001) (bdy : ∀ j, j < 60 → dy j ≤ 80000) (hln : ∀ j, j < 60 → ln j < 60) (hn : nm ≤ 60) (bso : ∀ j, j < 60 → so j < 5) : CE l G yX9_holds cX9_holds 6 (some .int) 2 0 0 [.ref (G.1 + 88), .int t, .int d, .int k, .int v] h (some (.int (if (0 ≤ t.toInt ∧ t.toInt < 12) then (if v.toInt < 0 ∨ 2 < v.toInt then -2 else if dyF d k = 0 then (if v.toInt = 0 then (gVS th ot dy so kn go (tn t) (tn d) (tn k) nm).2.1 else if v.toInt = 1 then (gVS th ot dy so kn go (tn t) (tn d) (tn k) nm).2.2.1 else (gVS th ot dy so kn go (tn t) (tn d) (tn k) nm).2.2.2) else dyF d k) else -1))) (fun h1 => ∃ ho1 : Int32, ∃ ow1 : Int32, ∃ sl1 : Int32, ∃ ln1 : Nat → Nat, ∃ lt1 : Nat → Int32, ∃ rg1 : Nat → Int32, h1[88]? = some (oB 9 (lM G (nI sp) (nI fa) (nI nb) (nI ns) (nI nm) ho1 ow1 sl1 (nI nv) (nI sh))) ∧ h1[114]? = some (aI 60 (nA ln1)) ∧ h1[115]? = some (aI 60 lt1) ∧ h1[89]? = some (aI 7 rg1) ∧ rg2 88 89 114 115 h h1 ∧ (∀ j, j < 60 → ln1 j < 60)) := by
  refine cm_ofQ rfl (Nat.le_of_ble_eq_true rfl) [(0, .ref (G.1 + 88)), (1, .int t), (2, .int d), (3, .int k), (4, .int v)] rfl (fun QF hQF => ?_)
  refine aw_iload_n 1 dX9_holds_0 rfl rfl ?_
  refine aw_bipush (12) dX9_holds_1 (by decide) ?_
  refine aw_dS [.int t, .int 12] [] lX9_126 sX9_isIn mX9_isIn dX9_holds_3 (bX9_isIn (x := t) (n := 12) (by omega)) rfl (Nat.le_of_ble_eq_true rfl) (by decide) (by decide) rfl ?_
  refine aw_if_ne 13 dX9_holds_6 (by decide) (fun c6 => ?_) (fun c6 => ?_)
  · have t6 := ite_1 c6
    refine aw_iload 4 dX9_holds_13 rfl ?_
    refine aw_iconst (3) dX9_holds_15 (by decide) ?_
    refine aw_dS [.int v, .int 3] [] lX9_126 sX9_isIn mX9_isIn dX9_holds_16 (bX9_isIn (x := v) (n := 3) (by omega)) rfl (Nat.le_of_ble_eq_true rfl) (by decide) (by decide) rfl ?_
    refine aw_if_ne 27 dX9_holds_19 (by decide) (fun c19 => ?_) (fun c19 => ?_)
    · have t19 := ite_1 c19
      refine aw_iload_n 2 dX9_holds_27 rfl rfl ?_
      refine aw_iload_n 3 dX9_holds_28 rfl rfl ?_
      refine aw_dS [.int d, .int k] [] lX9_195 sX9_wrongDays mX9_wrongDays dX9_holds_29 (bX9_wrongDays (x := d) (k := k) ) rfl (Nat.le_of_ble_eq_true rfl) (by decide) (by decide) rfl ?_
      refine aw_istore [(5, .int (dyF d k)), (0, .ref (G.1 + 88)), (1, .int t), (2, .int d), (3, .int k), (4, .int v)] dX9_holds_32 (by decide) rfl ?_
      refine aw_iload 0 dX9_holds_34 rfl ?_
      refine aw_if_eq 46 dX9_holds_36 (by decide) (fun c36 => ?_) (fun c36 => ?_)
      · have d36 := (j_eq (a := (dyF d k).toInt) (b := (0)) (rfl) (rfl)).mp c36
        have hdd := dyF_0 c36
        obtain ⟨t0, bb_t0, ee_t0⟩ := i_nat (x := t) (N := 12) (by omega) (by omega)
        subst ee_t0
        have tt_t0 : (nI t0).toInt = (t0 : Int) := nI_toInt (by omega)
        have nn_t0 : tn (nI t0) = t0 := tn_nI (by omega)
        obtain ⟨d0, bb_d0, ee_d0⟩ := i_nat (x := d) (N := 80001) (by omega) (by omega)
        subst ee_d0
        have tt_d0 : (nI d0).toInt = (d0 : Int) := nI_toInt (by omega)
        have nn_d0 : tn (nI d0) = d0 := tn_nI (by omega)
        obtain ⟨k0, bb_k0, ee_k0⟩ := i_nat (x := k) (N := 80001) (by omega) (by omega)
        subst ee_k0
        have tt_k0 : (nI k0).toInt = (k0 : Int) := nI_toInt (by omega)
        have nn_k0 : tn (nI k0) = k0 := tn_nI (by omega)
        refine aw_aload_n 1 dX9_holds_46 rfl rfl ?_
        refine aw_iload_n 2 dX9_holds_47 rfl rfl ?_
        refine aw_iload_n 3 dX9_holds_48 rfl rfl ?_
        refine aw_iload_n 4 dX9_holds_49 rfl rfl ?_
        refine aw_eW [.int (nI t0), .int (nI d0), .int (nI k0)] [] lX9_220 vX9_goes mX9_goes dX9_holds_50 (bX9_goes (sp := sp) (fa := fa) (nb := nb) (ns := ns) (nm := nm) (nv := nv) (sh := sh) (ho := ho) (ow := ow) (sl := sl) (th := th) (ot := ot) (dy := dy) (kn := kn) (so := so) (ln := ln) (lt := lt) (t := t0) (d := d0) (k := k0) h88 h108 h109 h110 h111 h112 h113 h114 h115 bth bkn bgo bdy hln (by omega) bso (by omega) (by omega) (by omega)) h88 rfl rfl rfl (Nat.le_of_ble_eq_true rfl) (by decide) (by decide) rfl (fun h2845 q2844 => ?_)
        obtain ⟨ho12839, ow12840, sl12841, ln12842, lt12843, f2846, f2847, f2848, k2849, p2850, p2851⟩ := q2844
        have f2852 := rg2_at k2849 (by decide) h89
        have f2853 := rg2_at k2849 (by decide) h108
        have f2854 := rg2_at k2849 (by decide) h109
        have f2855 := rg2_at k2849 (by decide) h110
        have f2856 := rg2_at k2849 (by decide) h111
        have f2857 := rg2_at k2849 (by decide) h112
        have f2858 := rg2_at k2849 (by decide) h113
        refine aw_iload 5 dX9_holds_53 rfl ?_
        refine aw_if_ne 65 dX9_holds_55 (by decide) (fun c55 => ?_) (fun c55 => ?_)
        · have d55 := mt (j_eq (a := v.toInt) (b := (0)) (rfl) (rfl)).mpr c55
          refine aw_iload 5 dX9_holds_65 rfl ?_
          refine aw_iconst (1) dX9_holds_67 (by decide) ?_
          refine aw_icmp_ne 78 dX9_holds_68 (by decide) (fun c68 => ?_) (fun c68 => ?_)
          · have d68 := mt (j_eq (a := v.toInt) (b := (1)) (rfl) (rfl)).mpr c68
            refine aw_aload_n 1 dX9_holds_78 rfl rfl ?_
            refine aw_get fX9_217 dX9_holds_79 f2846 rfl ?_
            subst hQF
            exact aw_iret rfl dX9_holds_82 (by decide) (by decide) ⟨by rw [if_pos ⟨by omega, by omega⟩, if_neg (by omega), if_pos c36, if_neg (by omega), if_neg (by omega), nn_t0, nn_d0, nn_k0, p2851.2.2], _, _, _, _, _, _, f2846, f2847, f2848, f2852, rg2_tr (rg2_rf 88 89 114 115 h) (rg2_w2 k2849 (by decide) (by decide)), p2850⟩
          · have d68 := (j_eq (a := v.toInt) (b := (1)) (rfl) (rfl)).mp c68
            refine aw_aload_n 1 dX9_holds_71 rfl rfl ?_
            refine aw_get fX9_214 dX9_holds_72 f2846 rfl ?_
            refine aw_goto 82 dX9_holds_75 (by decide) ?_
            subst hQF
            exact aw_iret rfl dX9_holds_82 (by decide) (by decide) ⟨by rw [if_pos ⟨by omega, by omega⟩, if_neg (by omega), if_pos c36, if_neg (by omega), if_pos (by omega), nn_t0, nn_d0, nn_k0, p2851.2.1], _, _, _, _, _, _, f2846, f2847, f2848, f2852, rg2_tr (rg2_rf 88 89 114 115 h) (rg2_w2 k2849 (by decide) (by decide)), p2850⟩
        · have d55 := (j_eq (a := v.toInt) (b := (0)) (rfl) (rfl)).mp c55
          refine aw_aload_n 1 dX9_holds_58 rfl rfl ?_
          refine aw_get fX9_211 dX9_holds_59 f2846 rfl ?_
          refine aw_goto 82 dX9_holds_62 (by decide) ?_
          subst hQF
          exact aw_iret rfl dX9_holds_82 (by decide) (by decide) ⟨by rw [if_pos ⟨by omega, by omega⟩, if_neg (by omega), if_pos c36, if_pos (by omega), nn_t0, nn_d0, nn_k0, p2851.1], _, _, _, _, _, _, f2846, f2847, f2848, f2852, rg2_tr (rg2_rf 88 89 114 115 h) (rg2_w2 k2849 (by decide) (by decide)), p2850⟩
      · have d36 := mt (j_eq (a := (dyF d k).toInt) (b := (0)) (rfl) (rfl)).mpr c36
        refine aw_aload_n 1 dX9_holds_39 rfl rfl ?_
        refine aw_iload 0 dX9_holds_40 rfl ?_
        obtain ⟨q2859, bq2859, eq2859⟩ := Or.resolve_left (dyF_q d k) (by assumption)
        refine aw_eV [.int (dyF d k)] [] lX9_130 vX9_refuse mX9_refuse dX9_holds_42 (bX9_refuse (sp := sp) (fa := fa) (nb := nb) (ns := ns) (nm := nm) (nv := nv) (sh := sh) (ho := ho) (ow := ow) (sl := sl) (rg := rg) (x := (dyF d k)) (q := q2859) h88 h89 bq2859 eq2859) h88 rfl rfl rfl (Nat.le_of_ble_eq_true rfl) (by decide) (by decide) rfl (fun h2862 q2861 => ?_)
        obtain ⟨rg12860, f2863, k2864⟩ := q2861
        have f2865 := rng_at k2864 (by decide) h88
        have f2866 := rng_at k2864 (by decide) h108
        have f2867 := rng_at k2864 (by decide) h109
        have f2868 := rng_at k2864 (by decide) h110
        have f2869 := rng_at k2864 (by decide) h111
        have f2870 := rng_at k2864 (by decide) h112
        have f2871 := rng_at k2864 (by decide) h113
        have f2872 := rng_at k2864 (by decide) h114
        have f2873 := rng_at k2864 (by decide) h115
        subst hQF
        exact aw_iret rfl dX9_holds_45 (by decide) (by decide) ⟨by rw [if_pos (by omega), if_neg (by omega), if_neg c36], _, _, _, _, _, _, f2865, f2872, f2873, f2863, rg2_tr (rg2_rf 88 89 114 115 h) (rg2_w k2864 (by decide)), hln⟩
    · have t19 := ite_0 c19
      refine aw_bipush (-2) dX9_holds_22 (by decide) ?_
      refine aw_goto 32 dX9_holds_24 (by decide) ?_
      refine aw_istore [(5, .int (-2)), (0, .ref (G.1 + 88)), (1, .int t), (2, .int d), (3, .int k), (4, .int v)] dX9_holds_32 (by decide) rfl ?_
      refine aw_iload 0 dX9_holds_34 rfl ?_
      refine aw_if_eq 46 dX9_holds_36 (by decide) (fun c36 => absurd c36 (by decide)) (fun c36 => ?_)
      refine aw_aload_n 1 dX9_holds_39 rfl rfl ?_
      refine aw_iload 0 dX9_holds_40 rfl ?_
      refine aw_eV [.int (-2)] [] lX9_130 vX9_refuse mX9_refuse dX9_holds_42 (bX9_refuse (sp := sp) (fa := fa) (nb := nb) (ns := ns) (nm := nm) (nv := nv) (sh := sh) (ho := ho) (ow := ow) (sl := sl) (rg := rg) (x := (-2)) (q := 2) h88 h89 (by decide) (by decide)) h88 rfl rfl rfl (Nat.le_of_ble_eq_true rfl) (by decide) (by decide) rfl (fun h2876 q2875 => ?_)
      obtain ⟨rg12874, f2877, k2878⟩ := q2875
      have f2879 := rng_at k2878 (by decide) h88
      have f2880 := rng_at k2878 (by decide) h108
      have f2881 := rng_at k2878 (by decide) h109
      have f2882 := rng_at k2878 (by decide) h110
      have f2883 := rng_at k2878 (by decide) h111
      have f2884 := rng_at k2878 (by decide) h112
      have f2885 := rng_at k2878 (by decide) h113
      have f2886 := rng_at k2878 (by decide) h114
      have f2887 := rng_at k2878 (by decide) h115
      subst hQF
      exact aw_iret rfl dX9_holds_45 (by decide) (by decide) ⟨by rw [if_pos (by omega), if_pos (by omega)], _, _, _, _, _, _, f2879, f2886, f2887, f2877, rg2_tr (rg2_rf 88 89 114 115 h) (rg2_w k2878 (by decide)), hln⟩
  · have t6 := ite_0 c6
    refine aw_iconst (-1) dX9_holds_9 (by decide) ?_
    refine aw_goto 32 dX9_holds_10 (by decide) ?_
    refine aw_istore [(5, .int (-1)), (0, .ref (G.1 + 88)), (1, .int t), (2, .int d), (3, .int k), (4, .int v)] dX9_holds_32 (by decide) rfl ?_
    refine aw_iload 0 dX9_holds_34 rfl ?_
    refine aw_if_eq 46 dX9_holds_36 (by decide) (fun c36 => absurd c36 (by decide)) (fun c36 => ?_)
    refine aw_aload_n 1 dX9_holds_39 rfl rfl ?_
    refine aw_iload 0 dX9_holds_40 rfl ?_
    refine aw_eV [.int (-1)] [] lX9_130 vX9_refuse mX9_refuse dX9_holds_42 (bX9_refuse (sp := sp) (fa := fa) (nb := nb) (ns := ns) (nm := nm) (nv := nv) (sh := sh) (ho := ho) (ow := ow) (sl := sl) (rg := rg) (x := (-1)) (q := 1) h88 h89 (by decide) (by decide)) h88 rfl rfl rfl (Nat.le_of_ble_eq_true rfl) (by decide) (by decide) rfl (fun h2890 q2889 => ?_)
    obtain ⟨rg12888, f2891, k2892⟩ := q2889
    have f2893 := rng_at k2892 (by decide) h88
    have f2894 := rng_at k2892 (by decide) h108
    have f2895 := rng_at k2892 (by decide) h109
    have f2896 := rng_at k2892 (by decide) h110
    have f2897 := rng_at k2892 (by decide) h111
    have f2898 := rng_at k2892 (by decide) h112
    have f2899 := rng_at k2892 (by decide) h113
    have f2900 := rng_at k2892 (by decide) h114
    have f2901 := rng_at k2892 (by decide) h115
    subst hQF
    exact aw_iret rfl dX9_holds_45 (by decide) (by decide) ⟨by rw [if_neg (by omega)], _, _, _, _, _, _, f2893, f2900, f2901, f2891, rg2_tr (rg2_rf 88 89 114 115 h) (rg2_w k2892 (by decide)), hln⟩
