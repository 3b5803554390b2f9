set_option maxHeartbeats 4000000 in
theorem oX9_since {l : Launch} {G : xG} {h : List va_E} {sp fa nb ns nm nv sh : Nat} {ho ow sl : Int32} {rg : Nat → Int32} {th ot dy kn go : Nat → Nat} {so ln : Nat → Nat} {lt : Nat → Int32} {t d k : Int32} (h88 : h[88]? = some (oB 9 (lM G (nI sp) (nI fa) (nI nb) (nI ns) (nI nm) ho ow sl (nI nv) (nI sh)))) (h89 : h[89]? = some (aI 7 rg)) (h108 : h[108]? = some (aI 60 (nA th))) (h109 : h[109]? = some (aI 60 (nA ot))) (h110 : h[110]? = some (aI 60 (nA dy))) (h111 : h[111]? = some (aI 60 (nA so))) (h112 : h[112]? = some (aI 60 (nA kn))) (h113 : h[113]? = some (aI 60 (nA (gM go)))) (h114 : h[114]? = some (aI 60 (nA ln))) (h115 : h[115]? = some (aI 60 lt)) (bth : ∀ j, j < 60 → th j < 12) (bkn : ∀ j, j < 60 → kn j ≤ 80000) (bgo : ∀ j, j < 60 → go j ≤ 80001) (bdy : ∀ j, j < 60 → dy j ≤ 80000) (hln : ∀ j, j < 60 → ln j < 60) (hn : nm ≤ 60) (bso : ∀ j, j < 60 → so j < 5) : CE l G yX9_since cX9_since 7 (some .int) 2 0 0 [.ref (G.1 + 88), .int t, .int d, .int k] h (some (.int (if (0 ≤ t.toInt ∧ t.toInt < 12) then (if dyF d k = 0 then nI (siS th ot dy so kn go (tn t) (tn d) (tn k) nm) else dyF d k) else -1))) (fun h1 => ∃ ho1 : Int32, ∃ ow1 : Int32, ∃ sl1 : Int32, ∃ ln1 : Nat → Nat, ∃ lt1 : Nat → Int32, ∃ rg1 : Nat → Int32, h1[88]? = some (oB 9 (lM G (nI sp) (nI fa) (nI nb) (nI ns) (nI nm) ho1 ow1 sl1 (nI nv) (nI sh))) ∧ h1[114]? = some (aI 60 (nA ln1)) ∧ h1[115]? = some (aI 60 lt1) ∧ h1[89]? = some (aI 7 rg1) ∧ rg2 88 89 114 115 h h1 ∧ (∀ j, j < 60 → ln1 j < 60)) := by
  refine cm_ofQ rfl (Nat.le_of_ble_eq_true rfl) [(0, .ref (G.1 + 88)), (1, .int t), (2, .int d), (3, .int k)] rfl (fun QF hQF => ?_)
  refine aw_iload_n 1 dX9_since_0 rfl rfl ?_
  refine aw_bipush (12) dX9_since_1 (by decide) ?_
  refine aw_dS [.int t, .int 12] [] lX9_126 sX9_isIn mX9_isIn dX9_since_3 (bX9_isIn (x := t) (n := 12) (by omega)) rfl (Nat.le_of_ble_eq_true rfl) (by decide) (by decide) rfl ?_
  refine aw_if_eq 17 dX9_since_6 (by decide) (fun c6 => ?_) (fun c6 => ?_)
  · have t6 := ite_0 c6
    refine aw_iconst (-1) dX9_since_17 (by decide) ?_
    refine aw_istore [(4, .int (-1)), (0, .ref (G.1 + 88)), (1, .int t), (2, .int d), (3, .int k)] dX9_since_18 (by decide) rfl ?_
    refine aw_iload 0 dX9_since_20 rfl ?_
    refine aw_if_eq 32 dX9_since_22 (by decide) (fun c22 => absurd c22 (by decide)) (fun c22 => ?_)
    refine aw_aload_n 1 dX9_since_25 rfl rfl ?_
    refine aw_iload 0 dX9_since_26 rfl ?_
    refine aw_eV [.int (-1)] [] lX9_130 vX9_refuse mX9_refuse dX9_since_28 (bX9_refuse (sp := sp) (fa := fa) (nb := nb) (ns := ns) (nm := nm) (nv := nv) (sh := sh) (ho := ho) (ow := ow) (sl := sl) (rg := rg) (x := (-1)) (q := 1) h88 h89 (by decide) (by decide)) h88 rfl rfl rfl (Nat.le_of_ble_eq_true rfl) (by decide) (by decide) rfl (fun h2912 q2911 => ?_)
    obtain ⟨rg12910, f2913, k2914⟩ := q2911
    have f2915 := rng_at k2914 (by decide) h88
    have f2916 := rng_at k2914 (by decide) h108
    have f2917 := rng_at k2914 (by decide) h109
    have f2918 := rng_at k2914 (by decide) h110
    have f2919 := rng_at k2914 (by decide) h111
    have f2920 := rng_at k2914 (by decide) h112
    have f2921 := rng_at k2914 (by decide) h113
    have f2922 := rng_at k2914 (by decide) h114
    have f2923 := rng_at k2914 (by decide) h115
    subst hQF
    exact aw_iret rfl dX9_since_31 (by decide) (by decide) ⟨by rw [if_neg (by omega)], _, _, _, _, _, _, f2915, f2922, f2923, f2913, rg2_tr (rg2_rf 88 89 114 115 h) (rg2_w k2914 (by decide)), hln⟩
  · have t6 := ite_1 c6
    refine aw_iload_n 2 dX9_since_9 rfl rfl ?_
    refine aw_iload_n 3 dX9_since_10 rfl rfl ?_
    refine aw_dS [.int d, .int k] [] lX9_195 sX9_wrongDays mX9_wrongDays dX9_since_11 (bX9_wrongDays (x := d) (k := k) ) rfl (Nat.le_of_ble_eq_true rfl) (by decide) (by decide) rfl ?_
    refine aw_goto 18 dX9_since_14 (by decide) ?_
    refine aw_istore [(4, .int (dyF d k)), (0, .ref (G.1 + 88)), (1, .int t), (2, .int d), (3, .int k)] dX9_since_18 (by decide) rfl ?_
    refine aw_iload 0 dX9_since_20 rfl ?_
    refine aw_if_eq 32 dX9_since_22 (by decide) (fun c22 => ?_) (fun c22 => ?_)
    · have d22 := (j_eq (a := (dyF d k).toInt) (b := (0)) (rfl) (rfl)).mp c22
      have hdd := dyF_0 c22
      obtain ⟨t0, bb_t0, ee_t0⟩ := i_nat (x := t) (N := 12) (by omega) (by omega)
      subst ee_t0
      have tt_t0 : (nI t0).toInt = (t0 : Int) := nI_toInt (by omega)
      have nn_t0 : tn (nI t0) = t0 := tn_nI (by omega)
      obtain ⟨d0, bb_d0, ee_d0⟩ := i_nat (x := d) (N := 80001) (by omega) (by omega)
      subst ee_d0
      have tt_d0 : (nI d0).toInt = (d0 : Int) := nI_toInt (by omega)
      have nn_d0 : tn (nI d0) = d0 := tn_nI (by omega)
      obtain ⟨k0, bb_k0, ee_k0⟩ := i_nat (x := k) (N := 80001) (by omega) (by omega)
      subst ee_k0
      have tt_k0 : (nI k0).toInt = (k0 : Int) := nI_toInt (by omega)
      have nn_k0 : tn (nI k0) = k0 := tn_nI (by omega)
      refine aw_aload_n 1 dX9_since_32 rfl rfl ?_
      refine aw_iload_n 2 dX9_since_33 rfl rfl ?_
      refine aw_iload_n 3 dX9_since_34 rfl rfl ?_
      refine aw_iload_n 4 dX9_since_35 rfl rfl ?_
      refine aw_eW [.int (nI t0), .int (nI d0), .int (nI k0)] [] lX9_220 vX9_goes mX9_goes dX9_since_36 (bX9_goes (sp := sp) (fa := fa) (nb := nb) (ns := ns) (nm := nm) (nv := nv) (sh := sh) (ho := ho) (ow := ow) (sl := sl) (th := th) (ot := ot) (dy := dy) (kn := kn) (so := so) (ln := ln) (lt := lt) (t := t0) (d := d0) (k := k0) h88 h108 h109 h110 h111 h112 h113 h114 h115 bth bkn bgo bdy hln (by omega) bso (by omega) (by omega) (by omega)) h88 rfl rfl rfl (Nat.le_of_ble_eq_true rfl) (by decide) (by decide) rfl (fun h2930 q2929 => ?_)
      obtain ⟨ho12924, ow12925, sl12926, ln12927, lt12928, f2931, f2932, f2933, k2934, p2935, p2936⟩ := q2929
      have f2937 := rg2_at k2934 (by decide) h89
      have f2938 := rg2_at k2934 (by decide) h108
      have f2939 := rg2_at k2934 (by decide) h109
      have f2940 := rg2_at k2934 (by decide) h110
      have f2941 := rg2_at k2934 (by decide) h111
      have f2942 := rg2_at k2934 (by decide) h112
      have f2943 := rg2_at k2934 (by decide) h113
      refine aw_aload_n 1 dX9_since_39 rfl rfl ?_
      refine aw_get fX9_211 dX9_since_40 f2931 rfl ?_
      refine aw_istore [(5, .int ho12924), (4, .int (dyF (nI d0) (nI k0))), (0, .ref (G.1 + 88)), (1, .int (nI t0)), (2, .int (nI d0)), (3, .int (nI k0))] dX9_since_43 (by decide) rfl ?_
      refine aw_aload_n 2 dX9_since_45 rfl rfl ?_
      refine aw_iload_n 3 dX9_since_46 rfl rfl ?_
      refine aw_iload_n 5 dX9_since_47 rfl rfl ?_
      refine aw_dV [.int (nI t0), .int (nI k0)] [] lX9_224 vX9_changed mX9_changed dX9_since_48 (bX9_changed (sp := sp) (fa := fa) (nb := nb) (ns := ns) (nm := nm) (nv := nv) (sh := sh) (ho := ho12924) (ow := ow12925) (sl := sl12926) (th := th) (kn := kn) (t := t0) (k := k0) f2931 f2938 f2942 f2943 bth bkn bgo (by omega) (by omega) (by omega)) f2931 rfl rfl rfl (Nat.le_of_ble_eq_true rfl) (by decide) (by decide) rfl ?_
      refine aw_istore [(6, .int (nI (lcF th kn go t0 k0 nm))), (5, .int ho12924), (4, .int (dyF (nI d0) (nI k0))), (0, .ref (G.1 + 88)), (1, .int (nI t0)), (2, .int (nI d0)), (3, .int (nI k0))] dX9_since_51 (by decide) rfl ?_
      have b7 := lcF_le (th := th) (kn := kn) (go := go) (t := t0) (k := k0) nm
      refine aw_lv [(6, .int (nI (lcF th kn go t0 k0 nm))), (5, .int ho12924), (3, .int (nI k0)), (2, .int (nI d0)), (1, .int (nI t0)), (0, .ref (G.1 + 88))] [0, 1, 6, 5, 4, 3] rfl ?_
      suffices L2956 : ∀ (mm : Nat) (f : Nat) (nw : Int32) (ho2 : Int32) (ow2 : Int32) (sl2 : Int32) (ln2 : Nat → Nat) (lt2 : Nat → Int32) (h2944 : List va_E), f < mm → (f ≤ 80000) → (∀ j, j < 60 → ln2 j < 60) → (hzF (fun x => lcF th kn go t0 x nm) (fun x => (gVS th ot dy so kn go t0 d0 x nm).2.1) nw k0 = if f = 0 then 0 else if (gVS th ot dy so kn go t0 d0 (f - 1) nm).2.1 = nw then hzF (fun x => lcF th kn go t0 x nm) (fun x => (gVS th ot dy so kn go t0 d0 x nm).2.1) nw (f - 1) else f) → (nw = (gVS th ot dy so kn go t0 d0 k0 nm).2.1) → h2944[88]? = some (oB 9 (lM G (nI sp) (nI fa) (nI nb) (nI ns) (nI nm) ho2 ow2 sl2 (nI nv) (nI sh))) → h2944[114]? = some (aI 60 (nA ln2)) → h2944[115]? = some (aI 60 lt2) → h2944[89]? = some (aI 7 rg) → h2944[108]? = some (aI 60 (nA th)) → h2944[109]? = some (aI 60 (nA ot)) → h2944[110]? = some (aI 60 (nA dy)) → h2944[111]? = some (aI 60 (nA so)) → h2944[112]? = some (aI 60 (nA kn)) → h2944[113]? = some (aI 60 (nA (gM go))) → rg2 88 89 114 115 h h2944 → AW l G yX9_since cX9_since 7 (some .int) (xR 2 0 0) (fun _ _ => True) QF 0 0 53 [(6, .int (nI f)), (5, .int nw), (3, .int (nI k0)), (2, .int (nI d0)), (1, .int (nI t0)), (0, .ref (G.1 + 88))] [] h2944 from L2956 ((lcF th kn go t0 k0 nm) + 1) (lcF th kn go t0 k0 nm) ho12924 ho12924 ow12925 sl12926 ln12927 lt12928 _ (Nat.lt_succ_self _) (by omega) (p2935) (hz_s (fun x => lcF_le nm) _) (p2936.1) f2931 f2932 f2933 f2937 f2938 f2939 f2940 f2941 f2942 f2943 (rg2_tr (rg2_rf 88 89 114 115 h) (rg2_w2 k2934 (by decide) (by decide)))
      intro mm
      induction mm with
      | zero =>
        intro f nw ho2 ow2 sl2 ln2 lt2 h2944 hmm hf hl2 hz hnw f2945 f2946 f2947 f2948 f2949 f2950 f2951 f2952 f2953 f2954 k2955
        exact absurd hmm (Nat.not_lt_zero _)
      | succ mm ih2956 =>
        intro f nw ho2 ow2 sl2 ln2 lt2 h2944 hmm hf hl2 hz hnw f2945 f2946 f2947 f2948 f2949 f2950 f2951 f2952 f2953 f2954 k2955
        refine aw_iload 0 dX9_since_53 rfl ?_
        refine aw_if_le 94 dX9_since_55 (by decide) (fun c55 => ?_) (fun c55 => ?_)
        · have d55 := (nv_le (a := f) (b := 0) (rfl) (rfl) (by omega) (by omega)).mp c55
          refine aw_iconst (0) dX9_since_94 (by decide) ?_
          subst hQF
          exact aw_iret rfl dX9_since_95 (by decide) (by decide) ⟨by rw [if_pos ⟨by omega, by omega⟩, if_pos c22, nn_t0, nn_d0, nn_k0, siS, ← hnw, hz, if_pos (by omega)]; rfl, _, _, _, _, _, _, f2945, f2946, f2947, f2948, k2955, hl2⟩
        · have d55 := mt (nv_le (a := f) (b := 0) (rfl) (rfl) (by omega) (by omega)).mpr c55
          refine aw_aload_n 5 dX9_since_58 rfl rfl ?_
          refine aw_iload_n 4 dX9_since_59 rfl rfl ?_
          refine aw_iload_n 3 dX9_since_60 rfl rfl ?_
          refine aw_iload 0 dX9_since_61 rfl ?_
          refine aw_iconst (1) dX9_since_63 (by decide) ?_
          refine aw_isub dX9_since_64 ?_
          refine aw_toe (nI (f - 1)) (nv_sub (rfl) (rfl) (by omega)) ?_
          refine aw_eW [.int (nI t0), .int (nI d0), .int (nI (f - 1))] [] lX9_220 vX9_goes mX9_goes dX9_since_65 (bX9_goes (sp := sp) (fa := fa) (nb := nb) (ns := ns) (nm := nm) (nv := nv) (sh := sh) (ho := ho2) (ow := ow2) (sl := sl2) (th := th) (ot := ot) (dy := dy) (kn := kn) (so := so) (ln := ln2) (lt := lt2) (t := t0) (d := d0) (k := f - 1) f2945 f2949 f2950 f2951 f2952 f2953 f2954 f2946 f2947 bth bkn bgo bdy hl2 (by omega) bso (by omega) (by omega) (by omega)) f2945 rfl rfl rfl (Nat.le_of_ble_eq_true rfl) (by decide) (by decide) rfl (fun h2963 q2962 => ?_)
          obtain ⟨ho12957, ow12958, sl12959, ln12960, lt12961, f2964, f2965, f2966, k2967, p2968, p2969⟩ := q2962
          have f2970 := rg2_at k2967 (by decide) f2948
          have f2971 := rg2_at k2967 (by decide) f2949
          have f2972 := rg2_at k2967 (by decide) f2950
          have f2973 := rg2_at k2967 (by decide) f2951
          have f2974 := rg2_at k2967 (by decide) f2952
          have f2975 := rg2_at k2967 (by decide) f2953
          have f2976 := rg2_at k2967 (by decide) f2954
          refine aw_aload_n 5 dX9_since_68 rfl rfl ?_
          refine aw_get fX9_211 dX9_since_69 f2964 rfl ?_
          refine aw_iload 1 dX9_since_72 rfl ?_
          refine aw_icmp_eq 80 dX9_since_74 (by decide) (fun c74 => ?_) (fun c74 => ?_)
          · have d74 := (j_eq (a := ho12957.toInt) (b := nw.toInt) (rfl) (rfl)).mp c74
            refine aw_aload_n 5 dX9_since_80 rfl rfl ?_
            refine aw_iload_n 4 dX9_since_81 rfl rfl ?_
            refine aw_iload 0 dX9_since_82 rfl ?_
            refine aw_iconst (1) dX9_since_84 (by decide) ?_
            refine aw_isub dX9_since_85 ?_
            refine aw_toe (nI (f - 1)) (nv_sub (rfl) (rfl) (by omega)) ?_
            refine aw_dV [.int (nI t0), .int (nI (f - 1))] [] lX9_224 vX9_changed mX9_changed dX9_since_86 (bX9_changed (sp := sp) (fa := fa) (nb := nb) (ns := ns) (nm := nm) (nv := nv) (sh := sh) (ho := ho12957) (ow := ow12958) (sl := sl12959) (th := th) (kn := kn) (t := t0) (k := f - 1) f2964 f2971 f2975 f2976 bth bkn bgo (by omega) (by omega) (by omega)) f2964 rfl rfl rfl (Nat.le_of_ble_eq_true rfl) (by decide) (by decide) rfl ?_
            refine aw_istore [(6, .int (nI (lcF th kn go t0 (f - 1) nm))), (5, .int nw), (3, .int (nI k0)), (2, .int (nI d0)), (1, .int (nI t0)), (0, .ref (G.1 + 88))] dX9_since_89 (by decide) rfl ?_
            refine aw_goto 53 dX9_since_91 (by decide) ?_
            refine aw_lv [(6, .int (nI (lcF th kn go t0 (f - 1) nm))), (5, .int nw), (3, .int (nI k0)), (2, .int (nI d0)), (1, .int (nI t0)), (0, .ref (G.1 + 88))] [0, 1, 2, 3, 4, 5] rfl ?_
            have b8 := lcF_le (th := th) (kn := kn) (go := go) (t := t0) (k := f - 1) nm
            exact ih2956 (lcF th kn go t0 (f - 1) nm) nw ho12957 ow12958 sl12959 ln12960 lt12961 _ (by omega) (by omega) (p2968) (by rw [hz, if_neg (by omega), if_pos (by rw [← p2969.1]; exact c74)]; exact hz_s (fun x => lcF_le nm) _) (hnw) f2964 f2965 f2966 f2970 f2971 f2972 f2973 f2974 f2975 f2976 (rg2_tr (k2955) (rg2_w2 k2967 (by decide) (by decide)))
          · have d74 := mt (j_eq (a := ho12957.toInt) (b := nw.toInt) (rfl) (rfl)).mpr c74
            refine aw_iload 0 dX9_since_77 rfl ?_
            subst hQF
            exact aw_iret rfl dX9_since_79 (by decide) (by decide) ⟨by rw [if_pos ⟨by omega, by omega⟩, if_pos c22, nn_t0, nn_d0, nn_k0, siS, ← hnw, hz, if_neg (by omega), if_neg (by rw [← p2969.1]; exact c74)], _, _, _, _, _, _, f2964, f2965, f2966, f2970, rg2_tr (k2955) (rg2_w2 k2967 (by decide) (by decide)), p2968⟩
    · have d22 := mt (j_eq (a := (dyF d k).toInt) (b := (0)) (rfl) (rfl)).mpr c22
      refine aw_aload_n 1 dX9_since_25 rfl rfl ?_
      refine aw_iload 0 dX9_since_26 rfl ?_
      obtain ⟨q2977, bq2977, eq2977⟩ := Or.resolve_left (dyF_q d k) (by assumption)
      refine aw_eV [.int (dyF d k)] [] lX9_130 vX9_refuse mX9_refuse dX9_since_28 (bX9_refuse (sp := sp) (fa := fa) (nb := nb) (ns := ns) (nm := nm) (nv := nv) (sh := sh) (ho := ho) (ow := ow) (sl := sl) (rg := rg) (x := (dyF d k)) (q := q2977) h88 h89 bq2977 eq2977) h88 rfl rfl rfl (Nat.le_of_ble_eq_true rfl) (by decide) (by decide) rfl (fun h2980 q2979 => ?_)
      obtain ⟨rg12978, f2981, k2982⟩ := q2979
      have f2983 := rng_at k2982 (by decide) h88
      have f2984 := rng_at k2982 (by decide) h108
      have f2985 := rng_at k2982 (by decide) h109
      have f2986 := rng_at k2982 (by decide) h110
      have f2987 := rng_at k2982 (by decide) h111
      have f2988 := rng_at k2982 (by decide) h112
      have f2989 := rng_at k2982 (by decide) h113
      have f2990 := rng_at k2982 (by decide) h114
      have f2991 := rng_at k2982 (by decide) h115
      subst hQF
      exact aw_iret rfl dX9_since_31 (by decide) (by decide) ⟨by rw [if_pos (by omega), if_neg c22], _, _, _, _, _, _, f2983, f2990, f2991, f2981, rg2_tr (rg2_rf 88 89 114 115 h) (rg2_w k2982 (by decide)), hln⟩
