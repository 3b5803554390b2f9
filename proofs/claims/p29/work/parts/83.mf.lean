set_option maxHeartbeats 4000000 in
theorem oX9_since {l : Launch} {G : xG} {h : List va_E} {sp fa nb ns nm nv sh : Nat} {ho ow sl : Int32} {rg : Nat → Int32} {th ot dy kn go : Nat → Nat} {so ln : Nat → Nat} {lt : Nat → Int32} {t d k : Int32} (h88 : h[88]? = some (oB 9 (lM G (nI sp) (nI fa) (nI nb) (nI ns) (nI nm) ho ow sl (nI nv) (nI sh)))) (h89 : h[89]? = some (aI 7 rg)) (h108 : h[108]? = some (aI 60 (nA th))) (h109 : h[109]? = some (aI 60 (nA ot))) (h110 : h[110]? = some (aI 60 (nA dy))) (h111 : h[111]? = some (aI 60 (nA so))) (h112 : h[112]? = some (aI 60 (nA kn))) (h113 : h[113]? = some (aI 60 (nA (gM go)))) (h114 : h[114]? = some (aI 60 (nA ln))) (h115 : h[115]? = some (aI 60 lt)) (bth : ∀ j, j < 60 → th j < 12) (bkn : ∀ j, j < 60 → kn j ≤ 80000) (bgo : ∀ j, j < 60 → go j ≤ 80001) (bdy : ∀ j, j < 60 → dy j ≤ 80000) (hln : ∀ j, j < 60 → ln j < 60) (hn : nm ≤ 60) (bso : ∀ j, j < 60 → so j < 5) : CE l G yX9_since cX9_since 7 (some .int) 2 0 0 [.ref (G.1 + 88), .int t, .int d, .int k] h (some (.int (if (0 ≤ t.toInt ∧ t.toInt < 12) then (if dyF d k = 0 then nI (siS th ot dy so kn go (tn t) (tn d) (tn k) nm) else dyF d k) else -1))) (fun h1 => ∃ ho1 : Int32, ∃ ow1 : Int32, ∃ sl1 : Int32, ∃ ln1 : Nat → Nat, ∃ lt1 : Nat → Int32, ∃ rg1 : Nat → Int32, h1[88]? = some (oB 9 (lM G (nI sp) (nI fa) (nI nb) (nI ns) (nI nm) ho1 ow1 sl1 (nI nv) (nI sh))) ∧ h1[114]? = some (aI 60 (nA ln1)) ∧ h1[115]? = some (aI 60 lt1) ∧ h1[89]? = some (aI 7 rg1) ∧ rg2 88 89 114 115 h h1 ∧ (∀ j, j < 60 → ln1 j < 60)) := by
  refine cm_ofQ rfl (Nat.le_of_ble_eq_true rfl) [(0, .ref (G.1 + 88)), (1, .int t), (2, .int d), (3, .int k)] rfl (fun QF hQF => ?_)
  refine aw_iload_n 1 dX9_since_0 rfl rfl ?_
  refine aw_bipush (12) dX9_since_1 (by decide) ?_
  refine aw_dS [.int t, .int 12] [] lX9_126 sX9_isIn mX9_isIn dX9_since_3 (bX9_isIn (x := t) (n := 12) (by omega)) rfl (Nat.le_of_ble_eq_true rfl) (by decide) (by decide) rfl ?_
  refine aw_if_eq 17 dX9_since_6 (by decide) (fun c6 => ?_) (fun c6 => ?_)
  · have t6 := ite_0 c6
    refine aw_iconst (-1) dX9_since_17 (by decide) ?_
    refine aw_istore [(4, .int (-1)), (0, .ref (G.1 + 88)), (1, .int t), (2, .int d), (3, .int k)] dX9_since_18 (by decide) rfl ?_
    refine aw_iload 0 dX9_since_20 rfl ?_
    refine aw_if_eq 32 dX9_since_22 (by decide) (fun c22 => absurd c22 (by decide)) (fun c22 => ?_)
    refine aw_aload_n 1 dX9_since_25 rfl rfl ?_
    refine aw_iload 0 dX9_since_26 rfl ?_
    refine aw_eV [.int (-1)] [] lX9_130 vX9_refuse mX9_refuse dX9_since_28 (bX9_refuse (sp := sp) (fa := fa) (nb := nb) (ns := ns) (nm := nm) (nv := nv) (sh := sh) (ho := ho) (ow := ow) (sl := sl) (rg := rg) (x := (-1)) (q := 1) h88 h89 (by decide) (by decide)) h88 rfl rfl rfl (Nat.le_of_ble_eq_true rfl) (by decide) (by decide) rfl (fun h2912 q2911 => ?_)
    obtain ⟨rg12910, f2913, k2914⟩ := q2911
    have f2915 := rng_at k2914 (by decide) h88
    have f2916 := rng_at k2914 (by decide) h108
    have f2917 := rng_at k2914 (by decide) h109
    have f2918 := rng_at k2914 (by decide) h110
    have f2919 := rng_at k2914 (by decide) h111
    have f2920 := rng_at k2914 (by decide) h112
    have f2921 := rng_at k2914 (by decide) h113
    have f2922 := rng_at k2914 (by decide) h114
    have f2923 := rng_at k2914 (by decide) h115
    subst hQF
    exact aw_iret rfl dX9_since_31 (by decide) (by decide) ⟨by rw [if_neg (by omega)], _, _, _, _, _, _, f2915, f2922, f2923, f2913, rg2_tr (rg2_rf 88 89 114 115 h) (rg2_w k2914 (by decide)), hln⟩
  · have t6 := ite_1 c6
    refine aw_iload_n 2 dX9_since_9 rfl rfl ?_
    refine aw_iload_n 3 dX9_since_10 rfl rfl ?_
    refine aw_dS [.int d, .int k] [] lX9_195 sX9_wrongDays mX9_wrongDays dX9_since_11 (bX9_wrongDays (x := d) (k := k) ) rfl (Nat.le_of_ble_eq_true rfl) (by decide) (by decide) rfl ?_
    refine aw_goto 18 dX9_since_14 (by decide) ?_
    refine aw_istore [(4, .int (dyF d k)), (0, .ref (G.1 + 88)), (1, .int t), (2, .int d), (3, .int k)] dX9_since_18 (by decide) rfl ?_
    refine aw_iload 0 dX9_since_20 rfl ?_
    refine aw_if_eq 32 dX9_since_22 (by decide) (fun c22 => ?_) (fun c22 => ?_)
    · have d22 := (j_eq (a := (dyF d k).toInt) (b := (0)) (rfl) (rfl)).mp c22
      have hdd := dyF_0 c22
      obtain ⟨t0, bb_t0, ee_t0⟩ := i_nat (x := t) (N := 12) (by omega) (by omega)
      subst ee_t0
      have tt_t0 : (nI t0).toInt = (t0 : Int) := nI_toInt (by omega)
      have nn_t0 : tn (nI t0) = t0 := tn_nI (by omega)
      obtain ⟨d0, bb_d0, ee_d0⟩ := i_nat (x := d) (N := 80001) (by omega) (by omega)
      subst ee_d0
      have tt_d0 : (nI d0).toInt = (d0 : Int) := nI_toInt (by omega)
      have nn_d0 : tn (nI d0) = d0 := tn_nI (by omega)
      obtain ⟨k0, bb_k0, ee_k0⟩ := i_nat (x := k) (N := 80001) (by omega) (by omega)
      subst ee_k0
      have tt_k0 : (nI k0).toInt = (k0 : Int) := nI_toInt (by omega)
      have nn_k0 : tn (nI k0) = k0 := tn_nI (by omega)
      refine aw_aload_n 1 dX9_since_32 rfl rfl ?_
      refine aw_iload_n 2 dX9_since_33 rfl rfl ?_
      refine aw_iload_n 3 dX9_since_34 rfl rfl ?_
      refine aw_iload_n 4 dX9_since_35 rfl rfl ?_
      refine aw_eW [.int (nI t0), .int (nI d0), .int (nI k0)] [] lX9_220 vX9_goes mX9_goes dX9_since_36 (bX9_goes (sp := sp) (fa := fa) (nb := nb) (ns := ns) (nm := nm) (nv := nv) (sh := sh) (ho := ho) (ow := ow) (sl := sl) (th := th) (ot := ot) (dy := dy) (kn := kn) (so := so) (ln := ln) (lt := lt) (t := t0) (d := d0) (k := k0) h88 h108 h109 h110 h111 h112 h113 h114 h115 bth bkn bgo bdy hln (by omega) bso (by omega) (by omega) (by omega)) h88 rfl rfl rfl (Nat.le_of_ble_eq_true rfl) (by decide) (by decide) rfl (fun h2930 q2929 => ?_)
      obtain ⟨ho12924, ow12925, sl12926, ln12927, lt12928, f2931, f2932, f2933, k2934, p2935, p2936⟩ := q2929
      have f2937 := rg2_at k2934 (by decide) h89
      have f2938 := rg2_at k2934 (by decide) h108
      have f2939 := rg2_at k2934 (by decide) h109
      have f2940 := rg2_at k2934 (by decide) h110
      have f2941 := rg2_at k2934 (by decide) h111
      have f2942 := rg2_at k2934 (by decide) h112
      have f2943 := rg2_at k2934 (by decide) h113
      refine aw_aload_n 1 dX9_since_39 rfl rfl ?_
      refine aw_get fX9_211 dX9_since_40 f2931 rfl ?_
      refine aw_istore [(5, .int ho12924), (4, .int (dyF (nI d0) (nI k0))), (0, .ref (G.1 + 88)), (1, .int (nI t0)), (2, .int (nI d0)), (3, .int (nI k0))] dX9_since_43 (by decide) rfl ?_
      refine aw_aload_n 2 dX9_since_45 rfl rfl ?_
      refine aw_iload_n 3 dX9_since_46 rfl rfl ?_
      refine aw_iload_n 5 dX9_since_47 rfl rfl ?_
      refine aw_dV [.int (nI t0), .int (nI k0)] [] lX9_224 vX9_changed mX9_changed dX9_since_48 (bX9_changed (sp := sp) (fa := fa) (nb := nb) (ns := ns) (nm := nm) (nv := nv) (sh := sh) (ho := ho12924) (ow := ow12925) (sl := sl12926) (th := th) (kn := kn) (t := t0) (k := k0) f2931 f2938 f2942 f2943 bth bkn bgo (by omega) (by omega) (by omega)) f2931 rfl rfl rfl (Nat.le_of_ble_eq_true rfl) (by decide) (by decide) rfl ?_
      refine aw_istore [(6, .int (nI (lcF th kn go t0 k0 nm))), (5, .int ho12924), (4, .int (dyF (nI d0) (nI k0))), (0, .ref (G.1 + 88)), (1, .int (nI t0)), (2, .int (nI d0)), (3, .int (nI k0))] dX9_since_51 (by decide) rfl ?_
      have b7 := lcF_le (th := th) (kn := kn) (go := go) (t := t0) (k := k0) nm
      refine aw_lv [(6, .int (nI (lcF th kn go t0 k0 nm))), (5, .int ho12924), (3, .int (nI k0)), (2, .int (nI d0)), (1, .int (nI t0)), (0, .ref (G.1 + 88))] [0, 1, 6, 5, 4, 3] rfl ?_
      suffices L2956 : ∀ (mm : Nat) (f : Nat) (nw : Int32) (ho2 : Int32) (ow2 : Int32) (sl2 : Int32) (ln2 : Nat → Nat) (lt2 : Nat → Int32) (h2944 : List va_E), f < mm → (f ≤ 80000) → (∀ j, j < 60 → ln2 j < 60) → (hzF (fun x => lcF th kn go t0 x nm) (fun x => (gVS th ot dy so kn go t0 d0 x nm).2.1) nw k0 = if f = 0 then 0 else if (gVS th ot dy so kn go t0 d0 (f - 1) nm).2.1 = nw then hzF (fun x => lcF th kn go t0 x nm) (fun x => (gVS th ot dy so kn go t0 d0 x nm).2.1) nw (f - 1) else f) → (nw = (gVS th ot dy so kn go t0 d0 k0 nm).2.1) → h2944[88]? = some (oB 9 (lM G (nI sp) (nI fa) (nI nb) (nI ns) (nI nm) ho2 ow2 sl2 (nI nv) (nI sh))) → h2944[114]? = some (aI 60 (nA ln2)) → h2944[115]? = some (aI 60 lt2) → h2944[89]? = some (aI 7 rg) → h2944[108]? = some (aI 60 (nA th)) → h2944[109]? = some (aI 60 (nA ot)) → h2944[110]? = some (aI 60 (nA dy)) → h2944[111]? = some (aI 60 (nA so)) → h2944[112]? = some (aI 60 (nA kn)) → h2944[113]? = some (aI 60 (nA (gM go))) → rg2 88 89 114 115 h h2944 → AW l G yX9_since cX9_since 7 (some .int) (xR 2 0 0) (fun _ _ => True) QF 0 0 53 [(6, .int (nI f)), (5, .int nw), (3, .int (nI k0)), (2, .int (nI d0)), (1, .int (nI t0)), (0, .ref (G.1 + 88))] [] h2944 from L2956 ((lcF th kn go t0 k0 nm) + 1) (lcF th kn go t0 k0 nm) ho12924 ho12924 ow12925 sl12926 ln12927 lt12928 _ (Nat.lt_succ_self _) (by omega) (p2935) (hz_s (fun x => lcF_le nm) _) (p2936.1) f2931 f2932 f2933 f2937 f2938 f2939 f2940 f2941 f2942 f2943 (rg2_tr (rg2_rf 88 89 114 115 h) (rg2_w2 k2934 (by decide) (by decide)))
      intro mm
      induction mm with
      | zero =>
        intro f nw ho2 ow2 sl2 ln2 lt2 h2944 hmm hf hl2 hz hnw f2945 f2946 f2947 f2948 f2949 f2950 f2951 f2952 f2953 f2954 k2955
        exact absurd hmm (Nat.not_lt_zero _)
      | succ mm ih2956 =>
        intro f nw ho2 ow2 sl2 ln2 lt2 h2944 hmm hf hl2 hz hnw f2945 f2946 f2947 f2948 f2949 f2950 f2951 f2952 f2953 f2954 k2955
        refine aw_iload 0 dX9_since_53 rfl ?_
        refine aw_if_le 94 dX9_since_55 (by decide) (fun c55 => ?_) (fun c55 => ?_)
        · have d55 := (nv_le (a := f) (b := 0) (rfl) (rfl) (by omega) (by omega)).mp c55
          refine aw_iconst (0) dX9_since_94 (by decide) ?_
          subst hQF
          exact aw_iret rfl dX9_since_95 (by decide) (by decide) ⟨by rw [if_pos ⟨by omega, by omega⟩, if_pos c22, nn_t0, nn_d0, nn_k0, siS, ← hnw, hz, if_pos (by omega)]; rfl, _, _, _, _, _, _, f2945, f2946, f2947, f2948, k2955, hl2⟩
        · have d55 := mt (nv_le (a := f) (b := 0) (rfl) (rfl) (by omega) (by omega)).mpr c55
          refine aw_aload_n 5 dX9_since_58 rfl rfl ?_
          refine aw_iload_n 4 dX9_since_59 rfl rfl ?_
          refine aw_iload_n 3 dX9_since_60 rfl rfl ?_
          refine aw_iload 0 dX9_since_61 rfl ?_
          refine aw_iconst (1) dX9_since_63 (by decide) ?_
          refine aw_isub dX9_since_64 ?_
          refine aw_toe (nI (f - 1)) (nv_sub (rfl) (rfl) (by omega)) ?_
          refine aw_eW [.int (nI t0), .int (nI d0), .int (nI (f - 1))] [] lX9_220 vX9_goes mX9_goes dX9_since_65 (bX9_goes (sp := sp) (fa := fa) (nb := nb) (ns := ns) (nm := nm) (nv := nv) (sh := sh) (ho := ho2) (ow := ow2) (sl := sl2) (th := th) (ot := ot) (dy := dy) (kn := kn) (so := so) (ln := ln2) (lt := lt2) (t := t0) (d := d0) (k := f - 1) f2945 f2949 f2950 f2951 f2952 f2953 f2954 f2946 f2947 bth bkn bgo bdy hl2 (by omega) bso (by omega) (by omega) (by omega)) f2945 rfl rfl rfl (Nat.le_of_ble_eq_true rfl) (by decide) (by decide) rfl (fun h2963 q2962 => ?_)
          obtain ⟨ho12957, ow12958, sl12959, ln12960, lt12961, f2964, f2965, f2966, k2967, p2968, p2969⟩ := q2962
          have f2970 := rg2_at k2967 (by decide) f2948
          have f2971 := rg2_at k2967 (by decide) f2949
          have f2972 := rg2_at k2967 (by decide) f2950
          have f2973 := rg2_at k2967 (by decide) f2951
          have f2974 := rg2_at k2967 (by decide) f2952
          have f2975 := rg2_at k2967 (by decide) f2953
          have f2976 := rg2_at k2967 (by decide) f2954
          refine aw_aload_n 5 dX9_since_68 rfl rfl ?_
          refine aw_get fX9_211 dX9_since_69 f2964 rfl ?_
          refine aw_iload 1 dX9_since_72 rfl ?_
          refine aw_icmp_eq 80 dX9_since_74 (by decide) (fun c74 => ?_) (fun c74 => ?_)
          · have d74 := (j_eq (a := ho12957.toInt) (b := nw.toInt) (rfl) (rfl)).mp c74
            refine aw_aload_n 5 dX9_since_80 rfl rfl ?_
            refine aw_iload_n 4 dX9_since_81 rfl rfl ?_
            refine aw_iload 0 dX9_since_82 rfl ?_
            refine aw_iconst (1) dX9_since_84 (by decide) ?_
            refine aw_isub dX9_since_85 ?_
            refine aw_toe (nI (f - 1)) (nv_sub (rfl) (rfl) (by omega)) ?_
            refine aw_dV [.int (nI t0), .int (nI (f - 1))] [] lX9_224 vX9_changed mX9_changed dX9_since_86 (bX9_changed (sp := sp) (fa := fa) (nb := nb) (ns := ns) (nm := nm) (nv := nv) (sh := sh) (ho := ho12957) (ow := ow12958) (sl := sl12959) (th := th) (kn := kn) (t := t0) (k := f - 1) f2964 f2971 f2975 f2976 bth bkn bgo (by omega) (by omega) (by omega)) f2964 rfl rfl rfl (Nat.le_of_ble_eq_true rfl) (by decide) (by decide) rfl ?_
            refine aw_istore [(6, .int (nI (lcF th kn go t0 (f - 1) nm))), (5, .int nw), (3, .int (nI k0)), (2, .int (nI d0)), (1, .int (nI t0)), (0, .ref (G.1 + 88))] dX9_since_89 (by decide) rfl ?_
            refine aw_goto 53 dX9_since_91 (by decide) ?_
            refine aw_lv [(6, .int (nI (lcF th kn go t0 (f - 1) nm))), (5, .int nw), (3, .int (nI k0)), (2, .int (nI d0)), (1, .int (nI t0)), (0, .ref (G.1 + 88))] [0, 1, 2, 3, 4, 5] rfl ?_
            have b8 := lcF_le (th := th) (kn := kn) (go := go) (t := t0) (k := f - 1) nm
            exact ih2956 (lcF th kn go t0 (f - 1) nm) nw ho12957 ow12958 sl12959 ln12960 lt12961 _ (by omega) (by omega) (p2968) (by rw [hz, if_neg (by omega), if_pos (by rw [← p2969.1]; exact c74)]; exact hz_s (fun x => lcF_le nm) _) (hnw) f2964 f2965 f2966 f2970 f2971 f2972 f2973 f2974 f2975 f2976 (rg2_tr (k2955) (rg2_w2 k2967 (by decide) (by decide)))
          · have d74 := mt (j_eq (a := ho12957.toInt) (b := nw.toInt) (rfl) (rfl)).mpr c74
            refine aw_iload 0 dX9_since_77 rfl ?_
            subst hQF
            exact aw_iret rfl dX9_since_79 (by decide) (by decide) ⟨by rw [if_pos ⟨by omega, by omega⟩, if_pos c22, nn_t0, nn_d0, nn_k0, siS, ← hnw, hz, if_neg (by omega), if_neg (by rw [← p2969.1]; exact c74)], _, _, _, _, _, _, f2964, f2965, f2966, f2970, rg2_tr (k2955) (rg2_w2 k2967 (by decide) (by decide)), p2968⟩
    · have d22 := mt (j_eq (a := (dyF d k).toInt) (b := (0)) (rfl) (rfl)).mpr c22
      refine aw_aload_n 1 dX9_since_25 rfl rfl ?_
      refine aw_iload 0 dX9_since_26 rfl ?_
      obtain ⟨q2977, bq2977, eq2977⟩ := Or.resolve_left (dyF_q d k) (by assumption)
      refine aw_eV [.int (dyF d k)] [] lX9_130 vX9_refuse mX9_refuse dX9_since_28 (bX9_refuse (sp := sp) (fa := fa) (nb := nb) (ns := ns) (nm := nm) (nv := nv) (sh := sh) (ho := ho) (ow := ow) (sl := sl) (rg := rg) (x := (dyF d k)) (q := q2977) h88 h89 bq2977 eq2977) h88 rfl rfl rfl (Nat.le_of_ble_eq_true rfl) (by decide) (by decide) rfl (fun h2980 q2979 => ?_)
      obtain ⟨rg12978, f2981, k2982⟩ := q2979
      have f2983 := rng_at k2982 (by decide) h88
      have f2984 := rng_at k2982 (by decide) h108
      have f2985 := rng_at k2982 (by decide) h109
      have f2986 := rng_at k2982 (by decide) h110
      have f2987 := rng_at k2982 (by decide) h111
      have f2988 := rng_at k2982 (by decide) h112
      have f2989 := rng_at k2982 (by decide) h113
      have f2990 := rng_at k2982 (by decide) h114
      have f2991 := rng_at k2982 (by decide) h115
      subst hQF
      exact aw_iret rfl dX9_since_31 (by decide) (by decide) ⟨by rw [if_pos (by omega), if_neg c22], _, _, _, _, _, _, f2983, f2990, f2991, f2981, rg2_tr (rg2_rf 88 89 114 115 h) (rg2_w k2982 (by decide)), hln⟩
/-- the things of a shelf, as the reference reads them: how many, which -/
def rdF (st : Nat) (tg : Nat → Nat) : Nat → Nat × (Nat → Nat)
  | 0 => (0, tg)
  | t + 1 => if st.testBit t = true then ((rdF st tg t).1 + 1, un (rdF st tg t).2 (rdF st tg t).1 t) else rdF st tg t
theorem rdF_len {st : Nat} {tg : Nat → Nat} : ∀ t, (rdF st tg t).1 = (thL st t).length := by
  intro t
  induction t with
  | zero => rfl
  | succ t ih =>
    simp only [rdF]
    cases h : st.testBit t
    · rw [if_neg (by simp), thL_f h, ih]
    · rw [if_pos rfl, thL_t h]; simp [ih]
theorem rdF_b {st : Nat} {tg : Nat → Nat} (ht : ∀ j, j < 8 → tg j < 12) : ∀ t, t ≤ 12 → ∀ j, j < 8 → (rdF st tg t).2 j < 12 := by
  intro t
  induction t with
  | zero => intro _; exact ht
  | succ t ih =>
    intro h
    simp only [rdF]
    split
    · exact un_lt (ih (by omega)) (by omega)
    · exact ih (by omega)
/-- does a thing stand already -/
def sdF (tg : Nat → Nat) (p t : Nat) : Nat → Bool
  | 0 => false
  | k + 1 => sdF tg p t k || decide (p.testBit k = true ∧ tg k = t)
theorem sdF_t {tg : Nat → Nat} {p t k : Nat} (h : sdF tg p t k = true ∨ (p.testBit k = true ∧ tg k = t)) : (1 : Int32) = if sdF tg p t (k + 1) = true then 1 else 0 := by
  rw [if_pos]
  simp only [sdF, Bool.or_eq_true, decide_eq_true_eq]
  exact h
theorem sdF_f {tg : Nat → Nat} {p t k : Nat} (h : ¬ sdF tg p t k = true) (h2 : ¬ (p.testBit k = true ∧ tg k = t)) : (0 : Int32) = if sdF tg p t (k + 1) = true then 1 else 0 := by
  rw [if_neg]
  simp only [sdF, Bool.or_eq_true, decide_eq_true_eq]
  exact fun q => q.elim h h2
/-- does a visitor's word hold that the next thing decides (L: the last one's place, and one more) -/
def wnC (st : Nat) (so xx yy tg : Nat → Nat) (sh p L nx k : Nat) : Prop :=
  st.testBit (xx k) = true ∧ (2 ≤ so k ∨ st.testBit (yy k) = true) ∧
    ((so k = 0 ∧ yy k = tg nx ∧ sdF tg p (xx k) sh = true) ∨ (so k = 1 ∧ 0 < L ∧ ((xx k = tg nx ∧ yy k = tg (L - 1)) ∨ (yy k = tg nx ∧ xx k = tg (L - 1)))) ∨ (so k = 2 ∧ xx k = tg nx ∧ p = 0) ∨ (so k = 3 ∧ xx k = tg nx ∧ p ||| 2 ^ nx = 2 ^ sh - 1))
def wnB (st : Nat) (so xx yy tg : Nat → Nat) (sh p L nx k : Nat) : Bool := decide (st.testBit (xx k) = true ∧ (2 ≤ so k ∨ st.testBit (yy k) = true) ∧
    ((so k = 0 ∧ yy k = tg nx ∧ sdF tg p (xx k) sh = true) ∨ (so k = 1 ∧ 0 < L ∧ ((xx k = tg nx ∧ yy k = tg (L - 1)) ∨ (yy k = tg nx ∧ xx k = tg (L - 1)))) ∨ (so k = 2 ∧ xx k = tg nx ∧ p = 0) ∨ (so k = 3 ∧ xx k = tg nx ∧ p ||| 2 ^ nx = 2 ^ sh - 1)))
theorem wnB_i {st : Nat} {so xx yy tg : Nat → Nat} {sh p L nx k : Nat} : wnB st so xx yy tg sh p L nx k = true ↔ wnC st so xx yy tg sh p L nx k := by
  unfold wnB wnC; exact decide_eq_true_iff
def wnF (st : Nat) (so xx yy tr tg : Nat → Nat) (sh p L nx : Nat) : Nat → Nat
  | 0 => 0
  | k + 1 => wnF st so xx yy tr tg sh p L nx k + (if wnB st so xx yy tg sh p L nx k = true then tr k else 0)
theorem wnF_le {st : Nat} {so xx yy tr tg : Nat → Nat} {sh p L nx : Nat} (ht : ∀ j, j < 40 → tr j ≤ 9) : ∀ k, k ≤ 40 → wnF st so xx yy tr tg sh p L nx k ≤ 9 * k := by
  intro k
  induction k with
  | zero => intro _; exact Nat.le_refl _
  | succ k ih =>
    intro h
    have a := ih (by omega)
    have b := ht k (by omega)
    simp only [wnF]
    split <;> omega
theorem wnF_y {st : Nat} {so xx yy tr tg : Nat → Nat} {sh p L nx k w : Nat} (hw : w = wnF st so xx yy tr tg sh p L nx k) (h : wnC st so xx yy tg sh p L nx k) : w + tr k = wnF st so xx yy tr tg sh p L nx (k + 1) := by
  simp only [wnF]; rw [if_pos (wnB_i.mpr h), hw]
theorem wnF_n {st : Nat} {so xx yy tr tg : Nat → Nat} {sh p L nx k w : Nat} (hw : w = wnF st so xx yy tr tg sh p L nx k) (h : ¬ wnC st so xx yy tg sh p L nx k) : w = wnF st so xx yy tr tg sh p L nx (k + 1) := by
  simp only [wnF]; rw [if_neg (fun q => h (wnB_i.mp q)), hw]; omega
theorem pc_pop0 : (List.range 4096).all (fun n => decide (pcF 20 n = popN n)) = true := by decide +kernel
theorem pc_pop {n : Nat} (h : n < 4096) : pcF 20 n = popN n := co_dec pc_pop0 h
set_option maxHeartbeats 4000000 in
theorem bX9_stands {l : Launch} {G : xG} {h : List va_E} {sp fa nb ns nm nv sh : Nat} {ho ow sl : Int32} {tg : Nat → Nat} {p t : Nat} (h88 : h[88]? = some (oB 9 (lM G (nI sp) (nI fa) (nI nb) (nI ns) (nI nm) ho ow sl (nI nv) (nI sh)))) (h120 : h[120]? = some (aI 8 (nA tg))) (htg : ∀ j, j < 8 → tg j < 12) (hsh : sh ≤ 8) (bp : p < 256) (bt : t < 12) : CD l G yX9_stands cX9_stands 5 (some .boolean) 0 0 0 [.ref (G.1 + 88), .int (nI p), .int (nI t)] h (some (.int (if (sdF tg p t sh = true) then 1 else 0))) h := by
  refine cm_ofQ rfl (Nat.le_of_ble_eq_true rfl) [(0, .ref (G.1 + 88)), (1, .int (nI p)), (2, .int (nI t))] rfl (fun QF hQF => ?_)
  refine aw_iconst (0) dX9_stands_0 (by decide) ?_
  refine aw_istore_n [(3, .int 0), (0, .ref (G.1 + 88)), (1, .int (nI p)), (2, .int (nI t))] dX9_stands_1 rfl (by decide) rfl ?_
  refine aw_iconst (0) dX9_stands_2 (by decide) ?_
  refine aw_istore [(4, .int 0), (3, .int 0), (0, .ref (G.1 + 88)), (1, .int (nI p)), (2, .int (nI t))] dX9_stands_3 (by decide) rfl ?_
  refine aw_lv [(4, .int 0), (3, .int 0), (2, .int (nI t)), (1, .int (nI p)), (0, .ref (G.1 + 88))] [0, 1, 4, 3, 2] rfl ?_
  suffices L3289 : ∀ (mm : Nat) (k : Nat) (bv : Int32), sh - k < mm → (k ≤ sh) → (bv = if (sdF tg p t k = true) then 1 else 0) → AW l G yX9_stands cX9_stands 5 (some .boolean) (xR 0 0 0) (fun _ _ => True) QF 0 0 5 [(4, .int (nI k)), (3, .int bv), (2, .int (nI t)), (1, .int (nI p)), (0, .ref (G.1 + 88))] [] h from L3289 (sh - 0 + 1) 0 0 (Nat.lt_succ_self _) (Nat.zero_le _) (rfl)
  intro mm
  induction mm with
  | zero =>
    intro k bv hmm hk hb
    exact absurd hmm (Nat.not_lt_zero _)
  | succ mm ih3289 =>
    intro k bv hmm hk hb
    subst hb
    · refine aw_iload 0 dX9_stands_5 rfl ?_
      refine aw_aload_n 4 dX9_stands_7 rfl rfl ?_
      refine aw_get fX9_233 dX9_stands_8 h88 rfl ?_
      refine aw_icmp_ge 51 dX9_stands_11 (by decide) (fun c11 => ?_) (fun c11 => ?_)
      · have d11 := (nv_le (a := sh) (b := k) (rfl) (rfl) (by omega) (by omega)).mp c11
        refine aw_iload_n 1 dX9_stands_51 rfl rfl ?_
        subst hQF
        exact aw_zret rfl (by first | rfl | (split <;> rfl)) dX9_stands_52 (by decide) (by decide) ⟨by rw [show k = sh by omega], rfl⟩
      · have d11 := mt (nv_le (a := sh) (b := k) (rfl) (rfl) (by omega) (by omega)).mpr c11
        refine aw_iload_n 1 dX9_stands_14 rfl rfl ?_
        refine aw_if_ne 39 dX9_stands_15 (by decide) (fun c15 => ?_) (fun c15 => ?_)
        · have t15 := ite_1 c15
          refine aw_iconst (1) dX9_stands_39 (by decide) ?_
          refine aw_goto 44 dX9_stands_40 (by decide) ?_
          refine aw_istore_n [(3, .int 1), (4, .int (nI k)), (2, .int (nI t)), (1, .int (nI p)), (0, .ref (G.1 + 88))] dX9_stands_44 rfl (by decide) rfl ?_
          refine aw_iinc (j := 1) (nI (k + 1)) [(4, .int (nI (k + 1))), (3, .int 1), (2, .int (nI t)), (1, .int (nI p)), (0, .ref (G.1 + 88))] dX9_stands_45 rfl (nv_inc (rfl)) (by decide) rfl ?_
          refine aw_goto 5 dX9_stands_48 (by decide) ?_
          refine aw_lv [(4, .int (nI (k + 1))), (3, .int 1), (2, .int (nI t)), (1, .int (nI p)), (0, .ref (G.1 + 88))] [0, 1, 2, 3, 4] rfl ?_
          exact ih3289 (k + 1) 1 (by omega) (by omega) (sdF_t (Or.inl t15))
        · have t15 := ite_0 c15
          refine aw_iload_n 3 dX9_stands_18 rfl rfl ?_
          refine aw_iload 0 dX9_stands_19 rfl ?_
          refine aw_ishr dX9_stands_21 ?_
          refine aw_iconst (1) dX9_stands_22 (by decide) ?_
          refine aw_iand dX9_stands_23 ?_
          refine aw_toe (if p.testBit k = true then 1 else 0) (nv_bit (rfl) (rfl) (by omega) (by omega)) ?_
          refine aw_iconst (1) dX9_stands_24 (by decide) ?_
          refine aw_icmp_ne 43 dX9_stands_25 (by decide) (fun c25 => ?_) (fun c25 => ?_)
          · have t25 := ite_0e c25
            refine aw_iconst (0) dX9_stands_43 (by decide) ?_
            refine aw_istore_n [(3, .int 0), (4, .int (nI k)), (2, .int (nI t)), (1, .int (nI p)), (0, .ref (G.1 + 88))] dX9_stands_44 rfl (by decide) rfl ?_
            refine aw_iinc (j := 1) (nI (k + 1)) [(4, .int (nI (k + 1))), (3, .int 0), (2, .int (nI t)), (1, .int (nI p)), (0, .ref (G.1 + 88))] dX9_stands_45 rfl (nv_inc (rfl)) (by decide) rfl ?_
            refine aw_goto 5 dX9_stands_48 (by decide) ?_
            refine aw_lv [(4, .int (nI (k + 1))), (3, .int 0), (2, .int (nI t)), (1, .int (nI p)), (0, .ref (G.1 + 88))] [0, 1, 2, 3, 4] rfl ?_
            exact ih3289 (k + 1) 0 (by omega) (by omega) (sdF_f t15 (fun q => t25 q.1))
          · have t25 := ite_1e c25
            refine aw_aload_n 4 dX9_stands_28 rfl rfl ?_
            refine aw_get fX9_110 dX9_stands_29 h88 rfl ?_
            refine aw_iload 0 dX9_stands_32 rfl ?_
            refine aw_iald k (rfl) (by omega) (by decide) dX9_stands_34 h120 ?_
            refine aw_toe (nI (tg k)) (rfl) ?_
            have b3290 := htg k (by omega)
            refine aw_iload_n 2 dX9_stands_35 rfl rfl ?_
            refine aw_icmp_ne 43 dX9_stands_36 (by decide) (fun c36 => ?_) (fun c36 => ?_)
            · have d36 := mt (nv_eq (a := tg k) (b := t) (rfl) (rfl) (by omega) (by omega)).mpr c36
              refine aw_iconst (0) dX9_stands_43 (by decide) ?_
              refine aw_istore_n [(3, .int 0), (4, .int (nI k)), (2, .int (nI t)), (1, .int (nI p)), (0, .ref (G.1 + 88))] dX9_stands_44 rfl (by decide) rfl ?_
              refine aw_iinc (j := 1) (nI (k + 1)) [(4, .int (nI (k + 1))), (3, .int 0), (2, .int (nI t)), (1, .int (nI p)), (0, .ref (G.1 + 88))] dX9_stands_45 rfl (nv_inc (rfl)) (by decide) rfl ?_
              refine aw_goto 5 dX9_stands_48 (by decide) ?_
              refine aw_lv [(4, .int (nI (k + 1))), (3, .int 0), (2, .int (nI t)), (1, .int (nI p)), (0, .ref (G.1 + 88))] [0, 1, 2, 3, 4] rfl ?_
              exact ih3289 (k + 1) 0 (by omega) (by omega) (sdF_f t15 (fun q => d36 q.2))
            · have d36 := (nv_eq (a := tg k) (b := t) (rfl) (rfl) (by omega) (by omega)).mp c36
              refine aw_iconst (1) dX9_stands_39 (by decide) ?_
              refine aw_goto 44 dX9_stands_40 (by decide) ?_
              refine aw_istore_n [(3, .int 1), (4, .int (nI k)), (2, .int (nI t)), (1, .int (nI p)), (0, .ref (G.1 + 88))] dX9_stands_44 rfl (by decide) rfl ?_
              refine aw_iinc (j := 1) (nI (k + 1)) [(4, .int (nI (k + 1))), (3, .int 1), (2, .int (nI t)), (1, .int (nI p)), (0, .ref (G.1 + 88))] dX9_stands_45 rfl (nv_inc (rfl)) (by decide) rfl ?_
              refine aw_goto 5 dX9_stands_48 (by decide) ?_
              refine aw_lv [(4, .int (nI (k + 1))), (3, .int 1), (2, .int (nI t)), (1, .int (nI p)), (0, .ref (G.1 + 88))] [0, 1, 2, 3, 4] rfl ?_
              exact ih3289 (k + 1) 1 (by omega) (by omega) (sdF_t (Or.inr ⟨t25, d36⟩))
set_option maxHeartbeats 4000000 in
theorem bX9_wins0 {l : Launch} {G : xG} {h : List va_E} {sp fa nb ns nm nv sh : Nat} {ho ow sl : Int32} {so xx yy tr tg : Nat → Nat} {yM : Nat → Int32} {st p nx : Nat} (h88 : h[88]? = some (oB 9 (lM G (nI sp) (nI fa) (nI nb) (nI ns) (nI nm) ho ow sl (nI nv) (nI sh)))) (h116 : h[116]? = some (aI 40 (nA so))) (h117 : h[117]? = some (aI 40 (nA xx))) (h118 : h[118]? = some (aI 40 yM)) (h119 : h[119]? = some (aI 40 (nA tr))) (h120 : h[120]? = some (aI 8 (nA tg))) (htg : ∀ j, j < 8 → tg j < 12) (hsh : sh ≤ 8) (hnv : nv ≤ 40) (bso : ∀ j, j < 40 → so j < 4) (bxx : ∀ j, j < 40 → xx j < 12) (byy : ∀ j, j < 40 → yy j < 12) (btr : ∀ j, j < 40 → tr j ≤ 9) (hyM : ∀ j, j < nv → so j < 2 → yM j = nI (yy j)) (bst : st < 4096) (bp : p < 256) (bnx : nx < sh) : CD l G yX9_wins cX9_wins 10 (some .int) 1 0 0 [.ref (G.1 + 88), .int (nI st), .int (nI p), .int (-1), .int (nI nx)] h (some (.int (nI (wnF st so xx yy tr tg sh p 0 nx nv)))) h := by
  refine cm_ofQ rfl (Nat.le_of_ble_eq_true rfl) [(0, .ref (G.1 + 88)), (1, .int (nI st)), (2, .int (nI p)), (3, .int (-1)), (4, .int (nI nx))] rfl (fun QF hQF => ?_)
  refine aw_aload_n 0 dX9_wins_0 rfl rfl ?_
  refine aw_get fX9_110 dX9_wins_1 h88 rfl ?_
  refine aw_iload 4 dX9_wins_4 rfl ?_
  refine aw_iald nx (rfl) (by omega) (by decide) dX9_wins_6 h120 ?_
  refine aw_toe (nI (tg nx)) (rfl) ?_
  have b3291 := htg nx (by omega)
  refine aw_istore [(5, .int (nI (tg nx))), (0, .ref (G.1 + 88)), (1, .int (nI st)), (2, .int (nI p)), (3, .int (-1)), (4, .int (nI nx))] dX9_wins_7 (by decide) rfl ?_
  refine aw_iconst (0) dX9_wins_9 (by decide) ?_
  refine aw_istore [(6, .int 0), (5, .int (nI (tg nx))), (0, .ref (G.1 + 88)), (1, .int (nI st)), (2, .int (nI p)), (3, .int (-1)), (4, .int (nI nx))] dX9_wins_10 (by decide) rfl ?_
  refine aw_iconst (0) dX9_wins_12 (by decide) ?_
  refine aw_istore [(7, .int 0), (6, .int 0), (5, .int (nI (tg nx))), (0, .ref (G.1 + 88)), (1, .int (nI st)), (2, .int (nI p)), (3, .int (-1)), (4, .int (nI nx))] dX9_wins_13 (by decide) rfl ?_
  refine aw_lv [(7, .int 0), (6, .int 0), (5, .int (nI (tg nx))), (4, .int (nI nx)), (3, .int (-1)), (2, .int (nI p)), (1, .int (nI st)), (0, .ref (G.1 + 88))] [0, 1, 2, 7, 6, 5, 4, 3] rfl ?_
  suffices L3292 : ∀ (mm : Nat) (k : Nat) (wv : Nat), nv - k < mm → (k ≤ nv) → (wv = wnF st so xx yy tr tg sh p 0 nx k) → AW l G yX9_wins cX9_wins 10 (some .int) (xR 1 0 0) (fun _ _ => True) QF 0 0 15 [(7, .int (nI k)), (6, .int (nI wv)), (5, .int (nI (tg nx))), (4, .int (nI nx)), (3, .int (-1)), (2, .int (nI p)), (1, .int (nI st)), (0, .ref (G.1 + 88))] [] h from L3292 (nv - 0 + 1) 0 0 (Nat.lt_succ_self _) (Nat.zero_le _) (rfl)
  intro mm
  induction mm with
  | zero =>
    intro k wv hmm hk hw
    exact absurd hmm (Nat.not_lt_zero _)
  | succ mm ih3292 =>
    intro k wv hmm hk hw
    have b9 := wnF_le (st := st) (so := so) (xx := xx) (yy := yy) (tg := tg) (sh := sh) (p := p) (L := 0) (nx := nx) btr k (by omega)
    refine aw_iload 0 dX9_wins_15 rfl ?_
    refine aw_aload_n 7 dX9_wins_17 rfl rfl ?_
    refine aw_get fX9_227 dX9_wins_18 h88 rfl ?_
    refine aw_icmp_ge 308 dX9_wins_21 (by decide) (fun c21 => ?_) (fun c21 => ?_)
    · have d21 := (nv_le (a := nv) (b := k) (rfl) (rfl) (by omega) (by omega)).mp c21
      refine aw_iload 1 dX9_wins_308 rfl ?_
      subst hQF
      exact aw_iret rfl dX9_wins_310 (by decide) (by decide) ⟨by rw [hw, show k = nv by omega], rfl⟩
    · have d21 := mt (nv_le (a := nv) (b := k) (rfl) (rfl) (by omega) (by omega)).mpr c21
      refine aw_iload_n 6 dX9_wins_24 rfl rfl ?_
      refine aw_aload_n 7 dX9_wins_25 rfl rfl ?_
      refine aw_get fX9_101 dX9_wins_26 h88 rfl ?_
      refine aw_iload 0 dX9_wins_29 rfl ?_
      refine aw_iald k (rfl) (by omega) (by decide) dX9_wins_31 h117 ?_
      refine aw_toe (nI (xx k)) (rfl) ?_
      have b3293 := bxx k (by omega)
      refine aw_ishr dX9_wins_32 ?_
      refine aw_iconst (1) dX9_wins_33 (by decide) ?_
      refine aw_iand dX9_wins_34 ?_
      refine aw_toe (if st.testBit (xx k) = true then 1 else 0) (nv_bit (rfl) (rfl) (by omega) (by omega)) ?_
      refine aw_iconst (1) dX9_wins_35 (by decide) ?_
      refine aw_icmp_ne 69 dX9_wins_36 (by decide) (fun c36 => ?_) (fun c36 => ?_)
      · have t36 := ite_0e c36
        refine aw_iconst (0) dX9_wins_69 (by decide) ?_
        refine aw_istore [(8, .int 0), (7, .int (nI k)), (6, .int (nI wv)), (5, .int (nI (tg nx))), (4, .int (nI nx)), (3, .int (-1)), (2, .int (nI p)), (1, .int (nI st)), (0, .ref (G.1 + 88))] dX9_wins_70 (by decide) rfl ?_
        refine aw_iload 0 dX9_wins_72 rfl ?_
        refine aw_if_ne 80 dX9_wins_74 (by decide) (fun c74 => absurd (by decide) c74) (fun c74 => ?_)
        refine aw_goto 302 dX9_wins_77 (by decide) ?_
        refine aw_iinc (j := 1) (nI (k + 1)) [(7, .int (nI (k + 1))), (8, .int 0), (6, .int (nI wv)), (5, .int (nI (tg nx))), (4, .int (nI nx)), (3, .int (-1)), (2, .int (nI p)), (1, .int (nI st)), (0, .ref (G.1 + 88))] dX9_wins_302 rfl (nv_inc (rfl)) (by decide) rfl ?_
        refine aw_goto 15 dX9_wins_305 (by decide) ?_
        refine aw_lv [(7, .int (nI (k + 1))), (6, .int (nI wv)), (5, .int (nI (tg nx))), (4, .int (nI nx)), (3, .int (-1)), (2, .int (nI p)), (1, .int (nI st)), (0, .ref (G.1 + 88))] [0, 2, 3, 4, 5, 6, 7, 8] rfl ?_
        exact ih3292 (k + 1) wv (by omega) (by omega) (wnF_n hw (fun q => t36 q.1))
      · have t36 := ite_1e c36
        refine aw_aload_n 7 dX9_wins_39 rfl rfl ?_
        refine aw_get fX9_98 dX9_wins_40 h88 rfl ?_
        refine aw_iload 0 dX9_wins_43 rfl ?_
        refine aw_iald k (rfl) (by omega) (by decide) dX9_wins_45 h116 ?_
        refine aw_toe (nI (so k)) (rfl) ?_
        have b3294 := bso k (by omega)
        refine aw_iconst (1) dX9_wins_46 (by decide) ?_
        refine aw_icmp_gt 65 dX9_wins_47 (by decide) (fun c47 => ?_) (fun c47 => ?_)
        · have d47 := (nv_lt (a := 1) (b := so k) (rfl) (rfl) (by omega) (by omega)).mp c47
          refine aw_iconst (1) dX9_wins_65 (by decide) ?_
          refine aw_goto 70 dX9_wins_66 (by decide) ?_
          refine aw_istore [(8, .int 1), (7, .int (nI k)), (6, .int (nI wv)), (5, .int (nI (tg nx))), (4, .int (nI nx)), (3, .int (-1)), (2, .int (nI p)), (1, .int (nI st)), (0, .ref (G.1 + 88))] dX9_wins_70 (by decide) rfl ?_
          refine aw_iload 0 dX9_wins_72 rfl ?_
          refine aw_if_ne 80 dX9_wins_74 (by decide) (fun c74 => ?_) (fun c74 => absurd c74 (by decide))
          refine aw_aload_n 8 dX9_wins_80 rfl rfl ?_
          refine aw_get fX9_98 dX9_wins_81 h88 rfl ?_
          refine aw_iload 1 dX9_wins_84 rfl ?_
          refine aw_iald k (rfl) (by omega) (by decide) dX9_wins_86 h116 ?_
          refine aw_toe (nI (so k)) (rfl) ?_
          have b3295 := bso k (by omega)
          rcases (show so k = 0 ∨ so k = 1 ∨ so k = 2 ∨ so k = 3 by omega) with e0 | e0 | e0 | e0
          · refine aw_toe 0 (by rw [e0]; rfl) ?_
            refine aw_tableIn 112 dX9_wins_87 (by decide) (by decide) rfl (by decide) ?_
            refine aw_aload_n 8 dX9_wins_112 rfl rfl ?_
            refine aw_get fX9_104 dX9_wins_113 h88 rfl ?_
            refine aw_iload 1 dX9_wins_116 rfl ?_
            refine aw_iald k (rfl) (by omega) (by decide) dX9_wins_118 h118 ?_
            refine aw_toe (nI (yy k)) (hyM k (by omega) (by omega)) ?_
            have b3296 := byy k (by omega)
            refine aw_iload 3 dX9_wins_119 rfl ?_
            refine aw_icmp_ne 143 dX9_wins_121 (by decide) (fun c121 => ?_) (fun c121 => ?_)
            · have d121 := mt (nv_eq (a := yy k) (b := tg nx) (rfl) (rfl) (by omega) (by omega)).mpr c121
              refine aw_iconst (0) dX9_wins_143 (by decide) ?_
              refine aw_istore [(9, .int 0), (8, .int 1), (7, .int (nI k)), (6, .int (nI wv)), (5, .int (nI (tg nx))), (4, .int (nI nx)), (3, .int (-1)), (2, .int (nI p)), (1, .int (nI st)), (0, .ref (G.1 + 88))] dX9_wins_144 (by decide) rfl ?_
              refine aw_goto 281 dX9_wins_146 (by decide) ?_
              refine aw_iload 3 dX9_wins_281 rfl ?_
              refine aw_iload 0 dX9_wins_283 rfl ?_
              refine aw_if_eq 298 dX9_wins_285 (by decide) (fun c285 => ?_) (fun c285 => absurd (by decide) c285)
              refine aw_iconst (0) dX9_wins_298 (by decide) ?_
              refine aw_iadd dX9_wins_299 ?_
              refine aw_toe (nI (wv + 0)) (nv_add (rfl) (rfl)) ?_
              refine aw_istore [(6, .int (nI (wv + 0))), (9, .int 0), (8, .int 1), (7, .int (nI k)), (5, .int (nI (tg nx))), (4, .int (nI nx)), (3, .int (-1)), (2, .int (nI p)), (1, .int (nI st)), (0, .ref (G.1 + 88))] dX9_wins_300 (by decide) rfl ?_
              refine aw_iinc (j := 3) (nI (k + 1)) [(7, .int (nI (k + 1))), (6, .int (nI (wv + 0))), (9, .int 0), (8, .int 1), (5, .int (nI (tg nx))), (4, .int (nI nx)), (3, .int (-1)), (2, .int (nI p)), (1, .int (nI st)), (0, .ref (G.1 + 88))] dX9_wins_302 rfl (nv_inc (rfl)) (by decide) rfl ?_
              refine aw_goto 15 dX9_wins_305 (by decide) ?_
              refine aw_lv [(7, .int (nI (k + 1))), (6, .int (nI (wv + 0))), (5, .int (nI (tg nx))), (4, .int (nI nx)), (3, .int (-1)), (2, .int (nI p)), (1, .int (nI st)), (0, .ref (G.1 + 88))] [0, 1, 4, 5, 6, 7, 8, 9] rfl ?_
              exact ih3292 (k + 1) (wv + 0) (by omega) (by omega) (wnF_n hw (fun q => by rcases q with ⟨qa, qb, ⟨e, q1, q2⟩ | ⟨e, q1, q2⟩ | ⟨e, q1, q2⟩ | ⟨e, q1, q2⟩⟩ <;> first | omega | exact absurd q2 (by assumption)))
            · have d121 := (nv_eq (a := yy k) (b := tg nx) (rfl) (rfl) (by omega) (by omega)).mp c121
              refine aw_aload_n 8 dX9_wins_124 rfl rfl ?_
              refine aw_iload_n 6 dX9_wins_125 rfl rfl ?_
              refine aw_aload_n 8 dX9_wins_126 rfl rfl ?_
              refine aw_get fX9_101 dX9_wins_127 h88 rfl ?_
              refine aw_iload 1 dX9_wins_130 rfl ?_
              refine aw_iald k (rfl) (by omega) (by decide) dX9_wins_132 h117 ?_
              refine aw_toe (nI (xx k)) (rfl) ?_
              have b3297 := bxx k (by omega)
              refine aw_dV [.int (nI p), .int (nI (xx k))] [] lX9_230 vX9_stands mX9_stands dX9_wins_133 (bX9_stands (sp := sp) (fa := fa) (nb := nb) (ns := ns) (nm := nm) (nv := nv) (sh := sh) (ho := ho) (ow := ow) (sl := sl) (tg := tg) (p := p) (t := xx k) h88 h120 htg (by omega) (by omega) (by omega)) h88 rfl rfl rfl (Nat.le_of_ble_eq_true rfl) (by decide) (by decide) rfl ?_
              refine aw_if_eq 143 dX9_wins_136 (by decide) (fun c136 => ?_) (fun c136 => ?_)
              · have t136 := ite_0 c136
                refine aw_iconst (0) dX9_wins_143 (by decide) ?_
                refine aw_istore [(9, .int 0), (8, .int 1), (7, .int (nI k)), (6, .int (nI wv)), (5, .int (nI (tg nx))), (4, .int (nI nx)), (3, .int (-1)), (2, .int (nI p)), (1, .int (nI st)), (0, .ref (G.1 + 88))] dX9_wins_144 (by decide) rfl ?_
                refine aw_goto 281 dX9_wins_146 (by decide) ?_
                refine aw_iload 3 dX9_wins_281 rfl ?_
                refine aw_iload 0 dX9_wins_283 rfl ?_
                refine aw_if_eq 298 dX9_wins_285 (by decide) (fun c285 => ?_) (fun c285 => absurd (by decide) c285)
                refine aw_iconst (0) dX9_wins_298 (by decide) ?_
                refine aw_iadd dX9_wins_299 ?_
                refine aw_toe (nI (wv + 0)) (nv_add (rfl) (rfl)) ?_
                refine aw_istore [(6, .int (nI (wv + 0))), (9, .int 0), (8, .int 1), (7, .int (nI k)), (5, .int (nI (tg nx))), (4, .int (nI nx)), (3, .int (-1)), (2, .int (nI p)), (1, .int (nI st)), (0, .ref (G.1 + 88))] dX9_wins_300 (by decide) rfl ?_
                refine aw_iinc (j := 3) (nI (k + 1)) [(7, .int (nI (k + 1))), (6, .int (nI (wv + 0))), (9, .int 0), (8, .int 1), (5, .int (nI (tg nx))), (4, .int (nI nx)), (3, .int (-1)), (2, .int (nI p)), (1, .int (nI st)), (0, .ref (G.1 + 88))] dX9_wins_302 rfl (nv_inc (rfl)) (by decide) rfl ?_
                refine aw_goto 15 dX9_wins_305 (by decide) ?_
                refine aw_lv [(7, .int (nI (k + 1))), (6, .int (nI (wv + 0))), (5, .int (nI (tg nx))), (4, .int (nI nx)), (3, .int (-1)), (2, .int (nI p)), (1, .int (nI st)), (0, .ref (G.1 + 88))] [0, 1, 4, 5, 6, 7, 8, 9] rfl ?_
                exact ih3292 (k + 1) (wv + 0) (by omega) (by omega) (wnF_n hw (fun q => by rcases q with ⟨qa, qb, ⟨e, q1, q2⟩ | ⟨e, q1, q2⟩ | ⟨e, q1, q2⟩ | ⟨e, q1, q2⟩⟩ <;> first | omega | exact absurd q2 (by assumption)))
              · have t136 := ite_1 c136
                refine aw_iconst (1) dX9_wins_139 (by decide) ?_
                refine aw_goto 144 dX9_wins_140 (by decide) ?_
                refine aw_istore [(9, .int 1), (8, .int 1), (7, .int (nI k)), (6, .int (nI wv)), (5, .int (nI (tg nx))), (4, .int (nI nx)), (3, .int (-1)), (2, .int (nI p)), (1, .int (nI st)), (0, .ref (G.1 + 88))] dX9_wins_144 (by decide) rfl ?_
                refine aw_goto 281 dX9_wins_146 (by decide) ?_
                refine aw_iload 3 dX9_wins_281 rfl ?_
                refine aw_iload 0 dX9_wins_283 rfl ?_
                refine aw_if_eq 298 dX9_wins_285 (by decide) (fun c285 => absurd c285 (by decide)) (fun c285 => ?_)
                refine aw_aload_n 9 dX9_wins_288 rfl rfl ?_
                refine aw_get fX9_107 dX9_wins_289 h88 rfl ?_
                refine aw_iload 2 dX9_wins_292 rfl ?_
                refine aw_iald k (rfl) (by omega) (by decide) dX9_wins_294 h119 ?_
                refine aw_toe (nI (tr k)) (rfl) ?_
                have b3298 := btr k (by omega)
                refine aw_goto 299 dX9_wins_295 (by decide) ?_
                refine aw_iadd dX9_wins_299 ?_
                refine aw_toe (nI (wv + (tr k))) (nv_add (rfl) (rfl)) ?_
                refine aw_istore [(6, .int (nI (wv + (tr k)))), (9, .int 1), (8, .int 1), (7, .int (nI k)), (5, .int (nI (tg nx))), (4, .int (nI nx)), (3, .int (-1)), (2, .int (nI p)), (1, .int (nI st)), (0, .ref (G.1 + 88))] dX9_wins_300 (by decide) rfl ?_
                refine aw_iinc (j := 3) (nI (k + 1)) [(7, .int (nI (k + 1))), (6, .int (nI (wv + (tr k)))), (9, .int 1), (8, .int 1), (5, .int (nI (tg nx))), (4, .int (nI nx)), (3, .int (-1)), (2, .int (nI p)), (1, .int (nI st)), (0, .ref (G.1 + 88))] dX9_wins_302 rfl (nv_inc (rfl)) (by decide) rfl ?_
                refine aw_goto 15 dX9_wins_305 (by decide) ?_
                refine aw_lv [(7, .int (nI (k + 1))), (6, .int (nI (wv + (tr k)))), (5, .int (nI (tg nx))), (4, .int (nI nx)), (3, .int (-1)), (2, .int (nI p)), (1, .int (nI st)), (0, .ref (G.1 + 88))] [0, 1, 4, 5, 6, 7, 8, 9] rfl ?_
                exact ih3292 (k + 1) (wv + (tr k)) (by omega) (by omega) (wnF_y hw ⟨t36, Or.inl (by omega), Or.inl ⟨e0, by omega, t136⟩⟩)
          · refine aw_toe 1 (by rw [e0]; rfl) ?_
            refine aw_tableIn 149 dX9_wins_87 (by decide) (by decide) rfl (by decide) ?_
            refine aw_iload_n 5 dX9_wins_149 rfl rfl ?_
            refine aw_if_lt 213 dX9_wins_150 (by decide) (fun c150 => ?_) (fun c150 => absurd (by decide) c150)
            refine aw_iconst (0) dX9_wins_213 (by decide) ?_
            refine aw_istore [(9, .int 0), (8, .int 1), (7, .int (nI k)), (6, .int (nI wv)), (5, .int (nI (tg nx))), (4, .int (nI nx)), (3, .int (-1)), (2, .int (nI p)), (1, .int (nI st)), (0, .ref (G.1 + 88))] dX9_wins_214 (by decide) rfl ?_
            refine aw_goto 281 dX9_wins_216 (by decide) ?_
            refine aw_iload 3 dX9_wins_281 rfl ?_
            refine aw_iload 0 dX9_wins_283 rfl ?_
            refine aw_if_eq 298 dX9_wins_285 (by decide) (fun c285 => ?_) (fun c285 => absurd (by decide) c285)
            refine aw_iconst (0) dX9_wins_298 (by decide) ?_
            refine aw_iadd dX9_wins_299 ?_
            refine aw_toe (nI (wv + 0)) (nv_add (rfl) (rfl)) ?_
            refine aw_istore [(6, .int (nI (wv + 0))), (9, .int 0), (8, .int 1), (7, .int (nI k)), (5, .int (nI (tg nx))), (4, .int (nI nx)), (3, .int (-1)), (2, .int (nI p)), (1, .int (nI st)), (0, .ref (G.1 + 88))] dX9_wins_300 (by decide) rfl ?_
            refine aw_iinc (j := 3) (nI (k + 1)) [(7, .int (nI (k + 1))), (6, .int (nI (wv + 0))), (9, .int 0), (8, .int 1), (5, .int (nI (tg nx))), (4, .int (nI nx)), (3, .int (-1)), (2, .int (nI p)), (1, .int (nI st)), (0, .ref (G.1 + 88))] dX9_wins_302 rfl (nv_inc (rfl)) (by decide) rfl ?_
            refine aw_goto 15 dX9_wins_305 (by decide) ?_
            refine aw_lv [(7, .int (nI (k + 1))), (6, .int (nI (wv + 0))), (5, .int (nI (tg nx))), (4, .int (nI nx)), (3, .int (-1)), (2, .int (nI p)), (1, .int (nI st)), (0, .ref (G.1 + 88))] [0, 1, 4, 5, 6, 7, 8, 9] rfl ?_
            exact ih3292 (k + 1) (wv + 0) (by omega) (by omega) (wnF_n hw (fun q => by rcases q with ⟨qa, qb, ⟨e, q1, q2⟩ | ⟨e, q1, q2⟩ | ⟨e, q1, q2⟩ | ⟨e, q1, q2⟩⟩ <;> first | omega | exact absurd q2 (by assumption)))
          · refine aw_toe 2 (by rw [e0]; rfl) ?_
            refine aw_tableIn 219 dX9_wins_87 (by decide) (by decide) rfl (by decide) ?_
            refine aw_aload_n 8 dX9_wins_219 rfl rfl ?_
            refine aw_get fX9_101 dX9_wins_220 h88 rfl ?_
            refine aw_iload 1 dX9_wins_223 rfl ?_
            refine aw_iald k (rfl) (by omega) (by decide) dX9_wins_225 h117 ?_
            refine aw_toe (nI (xx k)) (rfl) ?_
            have b3299 := bxx k (by omega)
            refine aw_iload 3 dX9_wins_226 rfl ?_
            refine aw_icmp_ne 239 dX9_wins_228 (by decide) (fun c228 => ?_) (fun c228 => ?_)
            · have d228 := mt (nv_eq (a := xx k) (b := tg nx) (rfl) (rfl) (by omega) (by omega)).mpr c228
              refine aw_iconst (0) dX9_wins_239 (by decide) ?_
              refine aw_istore [(9, .int 0), (8, .int 1), (7, .int (nI k)), (6, .int (nI wv)), (5, .int (nI (tg nx))), (4, .int (nI nx)), (3, .int (-1)), (2, .int (nI p)), (1, .int (nI st)), (0, .ref (G.1 + 88))] dX9_wins_240 (by decide) rfl ?_
              refine aw_goto 281 dX9_wins_242 (by decide) ?_
              refine aw_iload 3 dX9_wins_281 rfl ?_
              refine aw_iload 0 dX9_wins_283 rfl ?_
              refine aw_if_eq 298 dX9_wins_285 (by decide) (fun c285 => ?_) (fun c285 => absurd (by decide) c285)
              refine aw_iconst (0) dX9_wins_298 (by decide) ?_
              refine aw_iadd dX9_wins_299 ?_
              refine aw_toe (nI (wv + 0)) (nv_add (rfl) (rfl)) ?_
              refine aw_istore [(6, .int (nI (wv + 0))), (9, .int 0), (8, .int 1), (7, .int (nI k)), (5, .int (nI (tg nx))), (4, .int (nI nx)), (3, .int (-1)), (2, .int (nI p)), (1, .int (nI st)), (0, .ref (G.1 + 88))] dX9_wins_300 (by decide) rfl ?_
              refine aw_iinc (j := 3) (nI (k + 1)) [(7, .int (nI (k + 1))), (6, .int (nI (wv + 0))), (9, .int 0), (8, .int 1), (5, .int (nI (tg nx))), (4, .int (nI nx)), (3, .int (-1)), (2, .int (nI p)), (1, .int (nI st)), (0, .ref (G.1 + 88))] dX9_wins_302 rfl (nv_inc (rfl)) (by decide) rfl ?_
              refine aw_goto 15 dX9_wins_305 (by decide) ?_
              refine aw_lv [(7, .int (nI (k + 1))), (6, .int (nI (wv + 0))), (5, .int (nI (tg nx))), (4, .int (nI nx)), (3, .int (-1)), (2, .int (nI p)), (1, .int (nI st)), (0, .ref (G.1 + 88))] [0, 1, 4, 5, 6, 7, 8, 9] rfl ?_
              exact ih3292 (k + 1) (wv + 0) (by omega) (by omega) (wnF_n hw (fun q => by rcases q with ⟨qa, qb, ⟨e, q1, q2⟩ | ⟨e, q1, q2⟩ | ⟨e, q1, q2⟩ | ⟨e, q1, q2⟩⟩ <;> first | omega | exact absurd q2 (by assumption)))
            · have d228 := (nv_eq (a := xx k) (b := tg nx) (rfl) (rfl) (by omega) (by omega)).mp c228
              refine aw_iload_n 6 dX9_wins_231 rfl rfl ?_
              refine aw_if_ne 239 dX9_wins_232 (by decide) (fun c232 => ?_) (fun c232 => ?_)
              · have d232 := mt (nv_eq (a := p) (b := 0) (rfl) (rfl) (by omega) (by omega)).mpr c232
                refine aw_iconst (0) dX9_wins_239 (by decide) ?_
                refine aw_istore [(9, .int 0), (8, .int 1), (7, .int (nI k)), (6, .int (nI wv)), (5, .int (nI (tg nx))), (4, .int (nI nx)), (3, .int (-1)), (2, .int (nI p)), (1, .int (nI st)), (0, .ref (G.1 + 88))] dX9_wins_240 (by decide) rfl ?_
                refine aw_goto 281 dX9_wins_242 (by decide) ?_
                refine aw_iload 3 dX9_wins_281 rfl ?_
                refine aw_iload 0 dX9_wins_283 rfl ?_
                refine aw_if_eq 298 dX9_wins_285 (by decide) (fun c285 => ?_) (fun c285 => absurd (by decide) c285)
                refine aw_iconst (0) dX9_wins_298 (by decide) ?_
                refine aw_iadd dX9_wins_299 ?_
                refine aw_toe (nI (wv + 0)) (nv_add (rfl) (rfl)) ?_
                refine aw_istore [(6, .int (nI (wv + 0))), (9, .int 0), (8, .int 1), (7, .int (nI k)), (5, .int (nI (tg nx))), (4, .int (nI nx)), (3, .int (-1)), (2, .int (nI p)), (1, .int (nI st)), (0, .ref (G.1 + 88))] dX9_wins_300 (by decide) rfl ?_
                refine aw_iinc (j := 3) (nI (k + 1)) [(7, .int (nI (k + 1))), (6, .int (nI (wv + 0))), (9, .int 0), (8, .int 1), (5, .int (nI (tg nx))), (4, .int (nI nx)), (3, .int (-1)), (2, .int (nI p)), (1, .int (nI st)), (0, .ref (G.1 + 88))] dX9_wins_302 rfl (nv_inc (rfl)) (by decide) rfl ?_
                refine aw_goto 15 dX9_wins_305 (by decide) ?_
                refine aw_lv [(7, .int (nI (k + 1))), (6, .int (nI (wv + 0))), (5, .int (nI (tg nx))), (4, .int (nI nx)), (3, .int (-1)), (2, .int (nI p)), (1, .int (nI st)), (0, .ref (G.1 + 88))] [0, 1, 4, 5, 6, 7, 8, 9] rfl ?_
                exact ih3292 (k + 1) (wv + 0) (by omega) (by omega) (wnF_n hw (fun q => by rcases q with ⟨qa, qb, ⟨e, q1, q2⟩ | ⟨e, q1, q2⟩ | ⟨e, q1, q2⟩ | ⟨e, q1, q2⟩⟩ <;> first | omega | exact absurd q2 (by assumption)))
              · have d232 := (nv_eq (a := p) (b := 0) (rfl) (rfl) (by omega) (by omega)).mp c232
                refine aw_iconst (1) dX9_wins_235 (by decide) ?_
                refine aw_goto 240 dX9_wins_236 (by decide) ?_
                refine aw_istore [(9, .int 1), (8, .int 1), (7, .int (nI k)), (6, .int (nI wv)), (5, .int (nI (tg nx))), (4, .int (nI nx)), (3, .int (-1)), (2, .int (nI p)), (1, .int (nI st)), (0, .ref (G.1 + 88))] dX9_wins_240 (by decide) rfl ?_
                refine aw_goto 281 dX9_wins_242 (by decide) ?_
                refine aw_iload 3 dX9_wins_281 rfl ?_
                refine aw_iload 0 dX9_wins_283 rfl ?_
                refine aw_if_eq 298 dX9_wins_285 (by decide) (fun c285 => absurd c285 (by decide)) (fun c285 => ?_)
                refine aw_aload_n 9 dX9_wins_288 rfl rfl ?_
                refine aw_get fX9_107 dX9_wins_289 h88 rfl ?_
                refine aw_iload 2 dX9_wins_292 rfl ?_
                refine aw_iald k (rfl) (by omega) (by decide) dX9_wins_294 h119 ?_
                refine aw_toe (nI (tr k)) (rfl) ?_
                have b3300 := btr k (by omega)
                refine aw_goto 299 dX9_wins_295 (by decide) ?_
                refine aw_iadd dX9_wins_299 ?_
                refine aw_toe (nI (wv + (tr k))) (nv_add (rfl) (rfl)) ?_
                refine aw_istore [(6, .int (nI (wv + (tr k)))), (9, .int 1), (8, .int 1), (7, .int (nI k)), (5, .int (nI (tg nx))), (4, .int (nI nx)), (3, .int (-1)), (2, .int (nI p)), (1, .int (nI st)), (0, .ref (G.1 + 88))] dX9_wins_300 (by decide) rfl ?_
                refine aw_iinc (j := 3) (nI (k + 1)) [(7, .int (nI (k + 1))), (6, .int (nI (wv + (tr k)))), (9, .int 1), (8, .int 1), (5, .int (nI (tg nx))), (4, .int (nI nx)), (3, .int (-1)), (2, .int (nI p)), (1, .int (nI st)), (0, .ref (G.1 + 88))] dX9_wins_302 rfl (nv_inc (rfl)) (by decide) rfl ?_
                refine aw_goto 15 dX9_wins_305 (by decide) ?_
                refine aw_lv [(7, .int (nI (k + 1))), (6, .int (nI (wv + (tr k)))), (5, .int (nI (tg nx))), (4, .int (nI nx)), (3, .int (-1)), (2, .int (nI p)), (1, .int (nI st)), (0, .ref (G.1 + 88))] [0, 1, 4, 5, 6, 7, 8, 9] rfl ?_
                exact ih3292 (k + 1) (wv + (tr k)) (by omega) (by omega) (wnF_y hw ⟨t36, Or.inl (by omega), Or.inr (Or.inr (Or.inl ⟨e0, by omega, by omega⟩))⟩)
          · refine aw_toe 3 (by rw [e0]; rfl) ?_
            refine aw_tableOut 245 dX9_wins_87 (by decide) (by decide) ?_
            refine aw_aload_n 8 dX9_wins_245 rfl rfl ?_
            refine aw_get fX9_101 dX9_wins_246 h88 rfl ?_
            refine aw_iload 1 dX9_wins_249 rfl ?_
            refine aw_iald k (rfl) (by omega) (by decide) dX9_wins_251 h117 ?_
            refine aw_toe (nI (xx k)) (rfl) ?_
            have b3301 := bxx k (by omega)
            refine aw_iload 3 dX9_wins_252 rfl ?_
            refine aw_icmp_ne 278 dX9_wins_254 (by decide) (fun c254 => ?_) (fun c254 => ?_)
            · have d254 := mt (nv_eq (a := xx k) (b := tg nx) (rfl) (rfl) (by omega) (by omega)).mpr c254
              refine aw_iconst (0) dX9_wins_278 (by decide) ?_
              refine aw_istore [(9, .int 0), (8, .int 1), (7, .int (nI k)), (6, .int (nI wv)), (5, .int (nI (tg nx))), (4, .int (nI nx)), (3, .int (-1)), (2, .int (nI p)), (1, .int (nI st)), (0, .ref (G.1 + 88))] dX9_wins_279 (by decide) rfl ?_
              refine aw_iload 3 dX9_wins_281 rfl ?_
              refine aw_iload 0 dX9_wins_283 rfl ?_
              refine aw_if_eq 298 dX9_wins_285 (by decide) (fun c285 => ?_) (fun c285 => absurd (by decide) c285)
              refine aw_iconst (0) dX9_wins_298 (by decide) ?_
              refine aw_iadd dX9_wins_299 ?_
              refine aw_toe (nI (wv + 0)) (nv_add (rfl) (rfl)) ?_
              refine aw_istore [(6, .int (nI (wv + 0))), (9, .int 0), (8, .int 1), (7, .int (nI k)), (5, .int (nI (tg nx))), (4, .int (nI nx)), (3, .int (-1)), (2, .int (nI p)), (1, .int (nI st)), (0, .ref (G.1 + 88))] dX9_wins_300 (by decide) rfl ?_
              refine aw_iinc (j := 3) (nI (k + 1)) [(7, .int (nI (k + 1))), (6, .int (nI (wv + 0))), (9, .int 0), (8, .int 1), (5, .int (nI (tg nx))), (4, .int (nI nx)), (3, .int (-1)), (2, .int (nI p)), (1, .int (nI st)), (0, .ref (G.1 + 88))] dX9_wins_302 rfl (nv_inc (rfl)) (by decide) rfl ?_
              refine aw_goto 15 dX9_wins_305 (by decide) ?_
              refine aw_lv [(7, .int (nI (k + 1))), (6, .int (nI (wv + 0))), (5, .int (nI (tg nx))), (4, .int (nI nx)), (3, .int (-1)), (2, .int (nI p)), (1, .int (nI st)), (0, .ref (G.1 + 88))] [0, 1, 4, 5, 6, 7, 8, 9] rfl ?_
              exact ih3292 (k + 1) (wv + 0) (by omega) (by omega) (wnF_n hw (fun q => by rcases q with ⟨qa, qb, ⟨e, q1, q2⟩ | ⟨e, q1, q2⟩ | ⟨e, q1, q2⟩ | ⟨e, q1, q2⟩⟩ <;> first | omega | exact absurd q2 (by assumption)))
            · have d254 := (nv_eq (a := xx k) (b := tg nx) (rfl) (rfl) (by omega) (by omega)).mp c254
              refine aw_iload_n 6 dX9_wins_257 rfl rfl ?_
              refine aw_iconst (1) dX9_wins_258 (by decide) ?_
              refine aw_iload 4 dX9_wins_259 rfl ?_
              refine aw_ishl dX9_wins_261 ?_
              refine aw_toe (nI (2 ^ nx)) (nv_shl1 (rfl) (by omega)) ?_
              refine aw_ior dX9_wins_262 ?_
              refine aw_toe (nI (p ||| (2 ^ nx))) (nv_or (rfl) (rfl)) ?_
              have pw := pw8 sh hsh
              have bq := or_lt8 (a := p) (b := nx) bp (by omega)
              refine aw_iconst (1) dX9_wins_263 (by decide) ?_
              refine aw_aload_n 8 dX9_wins_264 rfl rfl ?_
              refine aw_get fX9_233 dX9_wins_265 h88 rfl ?_
              refine aw_ishl dX9_wins_268 ?_
              refine aw_toe (nI (2 ^ sh)) (nv_shl1 (rfl) (by omega)) ?_
              refine aw_iconst (1) dX9_wins_269 (by decide) ?_
              refine aw_isub dX9_wins_270 ?_
              refine aw_toe (nI ((2 ^ sh) - 1)) (nv_sub (rfl) (rfl) (by omega)) ?_
              refine aw_icmp_ne 278 dX9_wins_271 (by decide) (fun c271 => ?_) (fun c271 => ?_)
              · have d271 := mt (nv_eq (a := p ||| (2 ^ nx)) (b := (2 ^ sh) - 1) (rfl) (rfl) (by omega) (by omega)).mpr c271
                refine aw_iconst (0) dX9_wins_278 (by decide) ?_
                refine aw_istore [(9, .int 0), (8, .int 1), (7, .int (nI k)), (6, .int (nI wv)), (5, .int (nI (tg nx))), (4, .int (nI nx)), (3, .int (-1)), (2, .int (nI p)), (1, .int (nI st)), (0, .ref (G.1 + 88))] dX9_wins_279 (by decide) rfl ?_
                refine aw_iload 3 dX9_wins_281 rfl ?_
                refine aw_iload 0 dX9_wins_283 rfl ?_
                refine aw_if_eq 298 dX9_wins_285 (by decide) (fun c285 => ?_) (fun c285 => absurd (by decide) c285)
                refine aw_iconst (0) dX9_wins_298 (by decide) ?_
                refine aw_iadd dX9_wins_299 ?_
                refine aw_toe (nI (wv + 0)) (nv_add (rfl) (rfl)) ?_
                refine aw_istore [(6, .int (nI (wv + 0))), (9, .int 0), (8, .int 1), (7, .int (nI k)), (5, .int (nI (tg nx))), (4, .int (nI nx)), (3, .int (-1)), (2, .int (nI p)), (1, .int (nI st)), (0, .ref (G.1 + 88))] dX9_wins_300 (by decide) rfl ?_
                refine aw_iinc (j := 3) (nI (k + 1)) [(7, .int (nI (k + 1))), (6, .int (nI (wv + 0))), (9, .int 0), (8, .int 1), (5, .int (nI (tg nx))), (4, .int (nI nx)), (3, .int (-1)), (2, .int (nI p)), (1, .int (nI st)), (0, .ref (G.1 + 88))] dX9_wins_302 rfl (nv_inc (rfl)) (by decide) rfl ?_
                refine aw_goto 15 dX9_wins_305 (by decide) ?_
                refine aw_lv [(7, .int (nI (k + 1))), (6, .int (nI (wv + 0))), (5, .int (nI (tg nx))), (4, .int (nI nx)), (3, .int (-1)), (2, .int (nI p)), (1, .int (nI st)), (0, .ref (G.1 + 88))] [0, 1, 4, 5, 6, 7, 8, 9] rfl ?_
                exact ih3292 (k + 1) (wv + 0) (by omega) (by omega) (wnF_n hw (fun q => by rcases q with ⟨qa, qb, ⟨e, q1, q2⟩ | ⟨e, q1, q2⟩ | ⟨e, q1, q2⟩ | ⟨e, q1, q2⟩⟩ <;> first | omega | exact absurd q2 (by assumption)))
              · have d271 := (nv_eq (a := p ||| (2 ^ nx)) (b := (2 ^ sh) - 1) (rfl) (rfl) (by omega) (by omega)).mp c271
                refine aw_iconst (1) dX9_wins_274 (by decide) ?_
                refine aw_goto 279 dX9_wins_275 (by decide) ?_
                refine aw_istore [(9, .int 1), (8, .int 1), (7, .int (nI k)), (6, .int (nI wv)), (5, .int (nI (tg nx))), (4, .int (nI nx)), (3, .int (-1)), (2, .int (nI p)), (1, .int (nI st)), (0, .ref (G.1 + 88))] dX9_wins_279 (by decide) rfl ?_
                refine aw_iload 3 dX9_wins_281 rfl ?_
                refine aw_iload 0 dX9_wins_283 rfl ?_
                refine aw_if_eq 298 dX9_wins_285 (by decide) (fun c285 => absurd c285 (by decide)) (fun c285 => ?_)
                refine aw_aload_n 9 dX9_wins_288 rfl rfl ?_
                refine aw_get fX9_107 dX9_wins_289 h88 rfl ?_
                refine aw_iload 2 dX9_wins_292 rfl ?_
                refine aw_iald k (rfl) (by omega) (by decide) dX9_wins_294 h119 ?_
                refine aw_toe (nI (tr k)) (rfl) ?_
                have b3302 := btr k (by omega)
                refine aw_goto 299 dX9_wins_295 (by decide) ?_
                refine aw_iadd dX9_wins_299 ?_
                refine aw_toe (nI (wv + (tr k))) (nv_add (rfl) (rfl)) ?_
                refine aw_istore [(6, .int (nI (wv + (tr k)))), (9, .int 1), (8, .int 1), (7, .int (nI k)), (5, .int (nI (tg nx))), (4, .int (nI nx)), (3, .int (-1)), (2, .int (nI p)), (1, .int (nI st)), (0, .ref (G.1 + 88))] dX9_wins_300 (by decide) rfl ?_
                refine aw_iinc (j := 3) (nI (k + 1)) [(7, .int (nI (k + 1))), (6, .int (nI (wv + (tr k)))), (9, .int 1), (8, .int 1), (5, .int (nI (tg nx))), (4, .int (nI nx)), (3, .int (-1)), (2, .int (nI p)), (1, .int (nI st)), (0, .ref (G.1 + 88))] dX9_wins_302 rfl (nv_inc (rfl)) (by decide) rfl ?_
                refine aw_goto 15 dX9_wins_305 (by decide) ?_
                refine aw_lv [(7, .int (nI (k + 1))), (6, .int (nI (wv + (tr k)))), (5, .int (nI (tg nx))), (4, .int (nI nx)), (3, .int (-1)), (2, .int (nI p)), (1, .int (nI st)), (0, .ref (G.1 + 88))] [0, 1, 4, 5, 6, 7, 8, 9] rfl ?_
                exact ih3292 (k + 1) (wv + (tr k)) (by omega) (by omega) (wnF_y hw ⟨t36, Or.inl (by omega), Or.inr (Or.inr (Or.inr ⟨e0, by omega, d271⟩))⟩)
        · have d47 := mt (nv_lt (a := 1) (b := so k) (rfl) (rfl) (by omega) (by omega)).mpr c47
          refine aw_iload_n 6 dX9_wins_50 rfl rfl ?_
          refine aw_aload_n 7 dX9_wins_51 rfl rfl ?_
          refine aw_get fX9_104 dX9_wins_52 h88 rfl ?_
          refine aw_iload 0 dX9_wins_55 rfl ?_
          refine aw_iald k (rfl) (by omega) (by decide) dX9_wins_57 h118 ?_
          refine aw_toe (nI (yy k)) (hyM k (by omega) (by omega)) ?_
          have b3303 := byy k (by omega)
          refine aw_ishr dX9_wins_58 ?_
          refine aw_iconst (1) dX9_wins_59 (by decide) ?_
          refine aw_iand dX9_wins_60 ?_
          refine aw_toe (if st.testBit (yy k) = true then 1 else 0) (nv_bit (rfl) (rfl) (by omega) (by omega)) ?_
          refine aw_iconst (1) dX9_wins_61 (by decide) ?_
          refine aw_icmp_ne 69 dX9_wins_62 (by decide) (fun c62 => ?_) (fun c62 => ?_)
          · have t62 := ite_0e c62
            refine aw_iconst (0) dX9_wins_69 (by decide) ?_
            refine aw_istore [(8, .int 0), (7, .int (nI k)), (6, .int (nI wv)), (5, .int (nI (tg nx))), (4, .int (nI nx)), (3, .int (-1)), (2, .int (nI p)), (1, .int (nI st)), (0, .ref (G.1 + 88))] dX9_wins_70 (by decide) rfl ?_
            refine aw_iload 0 dX9_wins_72 rfl ?_
            refine aw_if_ne 80 dX9_wins_74 (by decide) (fun c74 => absurd (by decide) c74) (fun c74 => ?_)
            refine aw_goto 302 dX9_wins_77 (by decide) ?_
            refine aw_iinc (j := 1) (nI (k + 1)) [(7, .int (nI (k + 1))), (8, .int 0), (6, .int (nI wv)), (5, .int (nI (tg nx))), (4, .int (nI nx)), (3, .int (-1)), (2, .int (nI p)), (1, .int (nI st)), (0, .ref (G.1 + 88))] dX9_wins_302 rfl (nv_inc (rfl)) (by decide) rfl ?_
            refine aw_goto 15 dX9_wins_305 (by decide) ?_
            refine aw_lv [(7, .int (nI (k + 1))), (6, .int (nI wv)), (5, .int (nI (tg nx))), (4, .int (nI nx)), (3, .int (-1)), (2, .int (nI p)), (1, .int (nI st)), (0, .ref (G.1 + 88))] [0, 2, 3, 4, 5, 6, 7, 8] rfl ?_
            exact ih3292 (k + 1) wv (by omega) (by omega) (wnF_n hw (fun q => q.2.1.elim (fun e => by omega) t62))
          · have t62 := ite_1e c62
            refine aw_iconst (1) dX9_wins_65 (by decide) ?_
            refine aw_goto 70 dX9_wins_66 (by decide) ?_
            refine aw_istore [(8, .int 1), (7, .int (nI k)), (6, .int (nI wv)), (5, .int (nI (tg nx))), (4, .int (nI nx)), (3, .int (-1)), (2, .int (nI p)), (1, .int (nI st)), (0, .ref (G.1 + 88))] dX9_wins_70 (by decide) rfl ?_
            refine aw_iload 0 dX9_wins_72 rfl ?_
            refine aw_if_ne 80 dX9_wins_74 (by decide) (fun c74 => ?_) (fun c74 => absurd c74 (by decide))
            refine aw_aload_n 8 dX9_wins_80 rfl rfl ?_
            refine aw_get fX9_98 dX9_wins_81 h88 rfl ?_
            refine aw_iload 1 dX9_wins_84 rfl ?_
            refine aw_iald k (rfl) (by omega) (by decide) dX9_wins_86 h116 ?_
            refine aw_toe (nI (so k)) (rfl) ?_
            have b3304 := bso k (by omega)
            rcases (show so k = 0 ∨ so k = 1 ∨ so k = 2 ∨ so k = 3 by omega) with e0 | e0 | e0 | e0
            · refine aw_toe 0 (by rw [e0]; rfl) ?_
              refine aw_tableIn 112 dX9_wins_87 (by decide) (by decide) rfl (by decide) ?_
              refine aw_aload_n 8 dX9_wins_112 rfl rfl ?_
              refine aw_get fX9_104 dX9_wins_113 h88 rfl ?_
              refine aw_iload 1 dX9_wins_116 rfl ?_
              refine aw_iald k (rfl) (by omega) (by decide) dX9_wins_118 h118 ?_
              refine aw_toe (nI (yy k)) (hyM k (by omega) (by omega)) ?_
              have b3305 := byy k (by omega)
              refine aw_iload 3 dX9_wins_119 rfl ?_
              refine aw_icmp_ne 143 dX9_wins_121 (by decide) (fun c121 => ?_) (fun c121 => ?_)
              · have d121 := mt (nv_eq (a := yy k) (b := tg nx) (rfl) (rfl) (by omega) (by omega)).mpr c121
                refine aw_iconst (0) dX9_wins_143 (by decide) ?_
                refine aw_istore [(9, .int 0), (8, .int 1), (7, .int (nI k)), (6, .int (nI wv)), (5, .int (nI (tg nx))), (4, .int (nI nx)), (3, .int (-1)), (2, .int (nI p)), (1, .int (nI st)), (0, .ref (G.1 + 88))] dX9_wins_144 (by decide) rfl ?_
                refine aw_goto 281 dX9_wins_146 (by decide) ?_
                refine aw_iload 3 dX9_wins_281 rfl ?_
                refine aw_iload 0 dX9_wins_283 rfl ?_
                refine aw_if_eq 298 dX9_wins_285 (by decide) (fun c285 => ?_) (fun c285 => absurd (by decide) c285)
                refine aw_iconst (0) dX9_wins_298 (by decide) ?_
                refine aw_iadd dX9_wins_299 ?_
                refine aw_toe (nI (wv + 0)) (nv_add (rfl) (rfl)) ?_
                refine aw_istore [(6, .int (nI (wv + 0))), (9, .int 0), (8, .int 1), (7, .int (nI k)), (5, .int (nI (tg nx))), (4, .int (nI nx)), (3, .int (-1)), (2, .int (nI p)), (1, .int (nI st)), (0, .ref (G.1 + 88))] dX9_wins_300 (by decide) rfl ?_
                refine aw_iinc (j := 3) (nI (k + 1)) [(7, .int (nI (k + 1))), (6, .int (nI (wv + 0))), (9, .int 0), (8, .int 1), (5, .int (nI (tg nx))), (4, .int (nI nx)), (3, .int (-1)), (2, .int (nI p)), (1, .int (nI st)), (0, .ref (G.1 + 88))] dX9_wins_302 rfl (nv_inc (rfl)) (by decide) rfl ?_
                refine aw_goto 15 dX9_wins_305 (by decide) ?_
                refine aw_lv [(7, .int (nI (k + 1))), (6, .int (nI (wv + 0))), (5, .int (nI (tg nx))), (4, .int (nI nx)), (3, .int (-1)), (2, .int (nI p)), (1, .int (nI st)), (0, .ref (G.1 + 88))] [0, 1, 4, 5, 6, 7, 8, 9] rfl ?_
                exact ih3292 (k + 1) (wv + 0) (by omega) (by omega) (wnF_n hw (fun q => by rcases q with ⟨qa, qb, ⟨e, q1, q2⟩ | ⟨e, q1, q2⟩ | ⟨e, q1, q2⟩ | ⟨e, q1, q2⟩⟩ <;> first | omega | exact absurd q2 (by assumption)))
              · have d121 := (nv_eq (a := yy k) (b := tg nx) (rfl) (rfl) (by omega) (by omega)).mp c121
                refine aw_aload_n 8 dX9_wins_124 rfl rfl ?_
                refine aw_iload_n 6 dX9_wins_125 rfl rfl ?_
                refine aw_aload_n 8 dX9_wins_126 rfl rfl ?_
                refine aw_get fX9_101 dX9_wins_127 h88 rfl ?_
                refine aw_iload 1 dX9_wins_130 rfl ?_
                refine aw_iald k (rfl) (by omega) (by decide) dX9_wins_132 h117 ?_
                refine aw_toe (nI (xx k)) (rfl) ?_
                have b3306 := bxx k (by omega)
                refine aw_dV [.int (nI p), .int (nI (xx k))] [] lX9_230 vX9_stands mX9_stands dX9_wins_133 (bX9_stands (sp := sp) (fa := fa) (nb := nb) (ns := ns) (nm := nm) (nv := nv) (sh := sh) (ho := ho) (ow := ow) (sl := sl) (tg := tg) (p := p) (t := xx k) h88 h120 htg (by omega) (by omega) (by omega)) h88 rfl rfl rfl (Nat.le_of_ble_eq_true rfl) (by decide) (by decide) rfl ?_
                refine aw_if_eq 143 dX9_wins_136 (by decide) (fun c136 => ?_) (fun c136 => ?_)
                · have t136 := ite_0 c136
                  refine aw_iconst (0) dX9_wins_143 (by decide) ?_
                  refine aw_istore [(9, .int 0), (8, .int 1), (7, .int (nI k)), (6, .int (nI wv)), (5, .int (nI (tg nx))), (4, .int (nI nx)), (3, .int (-1)), (2, .int (nI p)), (1, .int (nI st)), (0, .ref (G.1 + 88))] dX9_wins_144 (by decide) rfl ?_
                  refine aw_goto 281 dX9_wins_146 (by decide) ?_
                  refine aw_iload 3 dX9_wins_281 rfl ?_
                  refine aw_iload 0 dX9_wins_283 rfl ?_
                  refine aw_if_eq 298 dX9_wins_285 (by decide) (fun c285 => ?_) (fun c285 => absurd (by decide) c285)
                  refine aw_iconst (0) dX9_wins_298 (by decide) ?_
                  refine aw_iadd dX9_wins_299 ?_
                  refine aw_toe (nI (wv + 0)) (nv_add (rfl) (rfl)) ?_
                  refine aw_istore [(6, .int (nI (wv + 0))), (9, .int 0), (8, .int 1), (7, .int (nI k)), (5, .int (nI (tg nx))), (4, .int (nI nx)), (3, .int (-1)), (2, .int (nI p)), (1, .int (nI st)), (0, .ref (G.1 + 88))] dX9_wins_300 (by decide) rfl ?_
                  refine aw_iinc (j := 3) (nI (k + 1)) [(7, .int (nI (k + 1))), (6, .int (nI (wv + 0))), (9, .int 0), (8, .int 1), (5, .int (nI (tg nx))), (4, .int (nI nx)), (3, .int (-1)), (2, .int (nI p)), (1, .int (nI st)), (0, .ref (G.1 + 88))] dX9_wins_302 rfl (nv_inc (rfl)) (by decide) rfl ?_
                  refine aw_goto 15 dX9_wins_305 (by decide) ?_
                  refine aw_lv [(7, .int (nI (k + 1))), (6, .int (nI (wv + 0))), (5, .int (nI (tg nx))), (4, .int (nI nx)), (3, .int (-1)), (2, .int (nI p)), (1, .int (nI st)), (0, .ref (G.1 + 88))] [0, 1, 4, 5, 6, 7, 8, 9] rfl ?_
                  exact ih3292 (k + 1) (wv + 0) (by omega) (by omega) (wnF_n hw (fun q => by rcases q with ⟨qa, qb, ⟨e, q1, q2⟩ | ⟨e, q1, q2⟩ | ⟨e, q1, q2⟩ | ⟨e, q1, q2⟩⟩ <;> first | omega | exact absurd q2 (by assumption)))
                · have t136 := ite_1 c136
                  refine aw_iconst (1) dX9_wins_139 (by decide) ?_
                  refine aw_goto 144 dX9_wins_140 (by decide) ?_
                  refine aw_istore [(9, .int 1), (8, .int 1), (7, .int (nI k)), (6, .int (nI wv)), (5, .int (nI (tg nx))), (4, .int (nI nx)), (3, .int (-1)), (2, .int (nI p)), (1, .int (nI st)), (0, .ref (G.1 + 88))] dX9_wins_144 (by decide) rfl ?_
                  refine aw_goto 281 dX9_wins_146 (by decide) ?_
                  refine aw_iload 3 dX9_wins_281 rfl ?_
                  refine aw_iload 0 dX9_wins_283 rfl ?_
                  refine aw_if_eq 298 dX9_wins_285 (by decide) (fun c285 => absurd c285 (by decide)) (fun c285 => ?_)
                  refine aw_aload_n 9 dX9_wins_288 rfl rfl ?_
                  refine aw_get fX9_107 dX9_wins_289 h88 rfl ?_
                  refine aw_iload 2 dX9_wins_292 rfl ?_
                  refine aw_iald k (rfl) (by omega) (by decide) dX9_wins_294 h119 ?_
                  refine aw_toe (nI (tr k)) (rfl) ?_
                  have b3307 := btr k (by omega)
                  refine aw_goto 299 dX9_wins_295 (by decide) ?_
                  refine aw_iadd dX9_wins_299 ?_
                  refine aw_toe (nI (wv + (tr k))) (nv_add (rfl) (rfl)) ?_
                  refine aw_istore [(6, .int (nI (wv + (tr k)))), (9, .int 1), (8, .int 1), (7, .int (nI k)), (5, .int (nI (tg nx))), (4, .int (nI nx)), (3, .int (-1)), (2, .int (nI p)), (1, .int (nI st)), (0, .ref (G.1 + 88))] dX9_wins_300 (by decide) rfl ?_
                  refine aw_iinc (j := 3) (nI (k + 1)) [(7, .int (nI (k + 1))), (6, .int (nI (wv + (tr k)))), (9, .int 1), (8, .int 1), (5, .int (nI (tg nx))), (4, .int (nI nx)), (3, .int (-1)), (2, .int (nI p)), (1, .int (nI st)), (0, .ref (G.1 + 88))] dX9_wins_302 rfl (nv_inc (rfl)) (by decide) rfl ?_
                  refine aw_goto 15 dX9_wins_305 (by decide) ?_
                  refine aw_lv [(7, .int (nI (k + 1))), (6, .int (nI (wv + (tr k)))), (5, .int (nI (tg nx))), (4, .int (nI nx)), (3, .int (-1)), (2, .int (nI p)), (1, .int (nI st)), (0, .ref (G.1 + 88))] [0, 1, 4, 5, 6, 7, 8, 9] rfl ?_
                  exact ih3292 (k + 1) (wv + (tr k)) (by omega) (by omega) (wnF_y hw ⟨t36, Or.inr t62, Or.inl ⟨e0, by omega, t136⟩⟩)
            · refine aw_toe 1 (by rw [e0]; rfl) ?_
              refine aw_tableIn 149 dX9_wins_87 (by decide) (by decide) rfl (by decide) ?_
              refine aw_iload_n 5 dX9_wins_149 rfl rfl ?_
              refine aw_if_lt 213 dX9_wins_150 (by decide) (fun c150 => ?_) (fun c150 => absurd (by decide) c150)
              refine aw_iconst (0) dX9_wins_213 (by decide) ?_
              refine aw_istore [(9, .int 0), (8, .int 1), (7, .int (nI k)), (6, .int (nI wv)), (5, .int (nI (tg nx))), (4, .int (nI nx)), (3, .int (-1)), (2, .int (nI p)), (1, .int (nI st)), (0, .ref (G.1 + 88))] dX9_wins_214 (by decide) rfl ?_
              refine aw_goto 281 dX9_wins_216 (by decide) ?_
              refine aw_iload 3 dX9_wins_281 rfl ?_
              refine aw_iload 0 dX9_wins_283 rfl ?_
              refine aw_if_eq 298 dX9_wins_285 (by decide) (fun c285 => ?_) (fun c285 => absurd (by decide) c285)
              refine aw_iconst (0) dX9_wins_298 (by decide) ?_
              refine aw_iadd dX9_wins_299 ?_
              refine aw_toe (nI (wv + 0)) (nv_add (rfl) (rfl)) ?_
              refine aw_istore [(6, .int (nI (wv + 0))), (9, .int 0), (8, .int 1), (7, .int (nI k)), (5, .int (nI (tg nx))), (4, .int (nI nx)), (3, .int (-1)), (2, .int (nI p)), (1, .int (nI st)), (0, .ref (G.1 + 88))] dX9_wins_300 (by decide) rfl ?_
              refine aw_iinc (j := 3) (nI (k + 1)) [(7, .int (nI (k + 1))), (6, .int (nI (wv + 0))), (9, .int 0), (8, .int 1), (5, .int (nI (tg nx))), (4, .int (nI nx)), (3, .int (-1)), (2, .int (nI p)), (1, .int (nI st)), (0, .ref (G.1 + 88))] dX9_wins_302 rfl (nv_inc (rfl)) (by decide) rfl ?_
              refine aw_goto 15 dX9_wins_305 (by decide) ?_
              refine aw_lv [(7, .int (nI (k + 1))), (6, .int (nI (wv + 0))), (5, .int (nI (tg nx))), (4, .int (nI nx)), (3, .int (-1)), (2, .int (nI p)), (1, .int (nI st)), (0, .ref (G.1 + 88))] [0, 1, 4, 5, 6, 7, 8, 9] rfl ?_
              exact ih3292 (k + 1) (wv + 0) (by omega) (by omega) (wnF_n hw (fun q => by rcases q with ⟨qa, qb, ⟨e, q1, q2⟩ | ⟨e, q1, q2⟩ | ⟨e, q1, q2⟩ | ⟨e, q1, q2⟩⟩ <;> first | omega | exact absurd q2 (by assumption)))
            · refine aw_toe 2 (by rw [e0]; rfl) ?_
              refine aw_tableIn 219 dX9_wins_87 (by decide) (by decide) rfl (by decide) ?_
              refine aw_aload_n 8 dX9_wins_219 rfl rfl ?_
              refine aw_get fX9_101 dX9_wins_220 h88 rfl ?_
              refine aw_iload 1 dX9_wins_223 rfl ?_
              refine aw_iald k (rfl) (by omega) (by decide) dX9_wins_225 h117 ?_
              refine aw_toe (nI (xx k)) (rfl) ?_
              have b3308 := bxx k (by omega)
              refine aw_iload 3 dX9_wins_226 rfl ?_
              refine aw_icmp_ne 239 dX9_wins_228 (by decide) (fun c228 => ?_) (fun c228 => ?_)
              · have d228 := mt (nv_eq (a := xx k) (b := tg nx) (rfl) (rfl) (by omega) (by omega)).mpr c228
                refine aw_iconst (0) dX9_wins_239 (by decide) ?_
                refine aw_istore [(9, .int 0), (8, .int 1), (7, .int (nI k)), (6, .int (nI wv)), (5, .int (nI (tg nx))), (4, .int (nI nx)), (3, .int (-1)), (2, .int (nI p)), (1, .int (nI st)), (0, .ref (G.1 + 88))] dX9_wins_240 (by decide) rfl ?_
                refine aw_goto 281 dX9_wins_242 (by decide) ?_
                refine aw_iload 3 dX9_wins_281 rfl ?_
                refine aw_iload 0 dX9_wins_283 rfl ?_
                refine aw_if_eq 298 dX9_wins_285 (by decide) (fun c285 => ?_) (fun c285 => absurd (by decide) c285)
                refine aw_iconst (0) dX9_wins_298 (by decide) ?_
                refine aw_iadd dX9_wins_299 ?_
                refine aw_toe (nI (wv + 0)) (nv_add (rfl) (rfl)) ?_
                refine aw_istore [(6, .int (nI (wv + 0))), (9, .int 0), (8, .int 1), (7, .int (nI k)), (5, .int (nI (tg nx))), (4, .int (nI nx)), (3, .int (-1)), (2, .int (nI p)), (1, .int (nI st)), (0, .ref (G.1 + 88))] dX9_wins_300 (by decide) rfl ?_
                refine aw_iinc (j := 3) (nI (k + 1)) [(7, .int (nI (k + 1))), (6, .int (nI (wv + 0))), (9, .int 0), (8, .int 1), (5, .int (nI (tg nx))), (4, .int (nI nx)), (3, .int (-1)), (2, .int (nI p)), (1, .int (nI st)), (0, .ref (G.1 + 88))] dX9_wins_302 rfl (nv_inc (rfl)) (by decide) rfl ?_
                refine aw_goto 15 dX9_wins_305 (by decide) ?_
                refine aw_lv [(7, .int (nI (k + 1))), (6, .int (nI (wv + 0))), (5, .int (nI (tg nx))), (4, .int (nI nx)), (3, .int (-1)), (2, .int (nI p)), (1, .int (nI st)), (0, .ref (G.1 + 88))] [0, 1, 4, 5, 6, 7, 8, 9] rfl ?_
                exact ih3292 (k + 1) (wv + 0) (by omega) (by omega) (wnF_n hw (fun q => by rcases q with ⟨qa, qb, ⟨e, q1, q2⟩ | ⟨e, q1, q2⟩ | ⟨e, q1, q2⟩ | ⟨e, q1, q2⟩⟩ <;> first | omega | exact absurd q2 (by assumption)))
              · have d228 := (nv_eq (a := xx k) (b := tg nx) (rfl) (rfl) (by omega) (by omega)).mp c228
                refine aw_iload_n 6 dX9_wins_231 rfl rfl ?_
                refine aw_if_ne 239 dX9_wins_232 (by decide) (fun c232 => ?_) (fun c232 => ?_)
                · have d232 := mt (nv_eq (a := p) (b := 0) (rfl) (rfl) (by omega) (by omega)).mpr c232
                  refine aw_iconst (0) dX9_wins_239 (by decide) ?_
                  refine aw_istore [(9, .int 0), (8, .int 1), (7, .int (nI k)), (6, .int (nI wv)), (5, .int (nI (tg nx))), (4, .int (nI nx)), (3, .int (-1)), (2, .int (nI p)), (1, .int (nI st)), (0, .ref (G.1 + 88))] dX9_wins_240 (by decide) rfl ?_
                  refine aw_goto 281 dX9_wins_242 (by decide) ?_
                  refine aw_iload 3 dX9_wins_281 rfl ?_
                  refine aw_iload 0 dX9_wins_283 rfl ?_
                  refine aw_if_eq 298 dX9_wins_285 (by decide) (fun c285 => ?_) (fun c285 => absurd (by decide) c285)
                  refine aw_iconst (0) dX9_wins_298 (by decide) ?_
                  refine aw_iadd dX9_wins_299 ?_
                  refine aw_toe (nI (wv + 0)) (nv_add (rfl) (rfl)) ?_
                  refine aw_istore [(6, .int (nI (wv + 0))), (9, .int 0), (8, .int 1), (7, .int (nI k)), (5, .int (nI (tg nx))), (4, .int (nI nx)), (3, .int (-1)), (2, .int (nI p)), (1, .int (nI st)), (0, .ref (G.1 + 88))] dX9_wins_300 (by decide) rfl ?_
                  refine aw_iinc (j := 3) (nI (k + 1)) [(7, .int (nI (k + 1))), (6, .int (nI (wv + 0))), (9, .int 0), (8, .int 1), (5, .int (nI (tg nx))), (4, .int (nI nx)), (3, .int (-1)), (2, .int (nI p)), (1, .int (nI st)), (0, .ref (G.1 + 88))] dX9_wins_302 rfl (nv_inc (rfl)) (by decide) rfl ?_
                  refine aw_goto 15 dX9_wins_305 (by decide) ?_
                  refine aw_lv [(7, .int (nI (k + 1))), (6, .int (nI (wv + 0))), (5, .int (nI (tg nx))), (4, .int (nI nx)), (3, .int (-1)), (2, .int (nI p)), (1, .int (nI st)), (0, .ref (G.1 + 88))] [0, 1, 4, 5, 6, 7, 8, 9] rfl ?_
                  exact ih3292 (k + 1) (wv + 0) (by omega) (by omega) (wnF_n hw (fun q => by rcases q with ⟨qa, qb, ⟨e, q1, q2⟩ | ⟨e, q1, q2⟩ | ⟨e, q1, q2⟩ | ⟨e, q1, q2⟩⟩ <;> first | omega | exact absurd q2 (by assumption)))
                · have d232 := (nv_eq (a := p) (b := 0) (rfl) (rfl) (by omega) (by omega)).mp c232
                  refine aw_iconst (1) dX9_wins_235 (by decide) ?_
                  refine aw_goto 240 dX9_wins_236 (by decide) ?_
                  refine aw_istore [(9, .int 1), (8, .int 1), (7, .int (nI k)), (6, .int (nI wv)), (5, .int (nI (tg nx))), (4, .int (nI nx)), (3, .int (-1)), (2, .int (nI p)), (1, .int (nI st)), (0, .ref (G.1 + 88))] dX9_wins_240 (by decide) rfl ?_
                  refine aw_goto 281 dX9_wins_242 (by decide) ?_
                  refine aw_iload 3 dX9_wins_281 rfl ?_
                  refine aw_iload 0 dX9_wins_283 rfl ?_
                  refine aw_if_eq 298 dX9_wins_285 (by decide) (fun c285 => absurd c285 (by decide)) (fun c285 => ?_)
                  refine aw_aload_n 9 dX9_wins_288 rfl rfl ?_
                  refine aw_get fX9_107 dX9_wins_289 h88 rfl ?_
                  refine aw_iload 2 dX9_wins_292 rfl ?_
                  refine aw_iald k (rfl) (by omega) (by decide) dX9_wins_294 h119 ?_
                  refine aw_toe (nI (tr k)) (rfl) ?_
                  have b3309 := btr k (by omega)
                  refine aw_goto 299 dX9_wins_295 (by decide) ?_
                  refine aw_iadd dX9_wins_299 ?_
                  refine aw_toe (nI (wv + (tr k))) (nv_add (rfl) (rfl)) ?_
                  refine aw_istore [(6, .int (nI (wv + (tr k)))), (9, .int 1), (8, .int 1), (7, .int (nI k)), (5, .int (nI (tg nx))), (4, .int (nI nx)), (3, .int (-1)), (2, .int (nI p)), (1, .int (nI st)), (0, .ref (G.1 + 88))] dX9_wins_300 (by decide) rfl ?_
                  refine aw_iinc (j := 3) (nI (k + 1)) [(7, .int (nI (k + 1))), (6, .int (nI (wv + (tr k)))), (9, .int 1), (8, .int 1), (5, .int (nI (tg nx))), (4, .int (nI nx)), (3, .int (-1)), (2, .int (nI p)), (1, .int (nI st)), (0, .ref (G.1 + 88))] dX9_wins_302 rfl (nv_inc (rfl)) (by decide) rfl ?_
                  refine aw_goto 15 dX9_wins_305 (by decide) ?_
                  refine aw_lv [(7, .int (nI (k + 1))), (6, .int (nI (wv + (tr k)))), (5, .int (nI (tg nx))), (4, .int (nI nx)), (3, .int (-1)), (2, .int (nI p)), (1, .int (nI st)), (0, .ref (G.1 + 88))] [0, 1, 4, 5, 6, 7, 8, 9] rfl ?_
                  exact ih3292 (k + 1) (wv + (tr k)) (by omega) (by omega) (wnF_y hw ⟨t36, Or.inr t62, Or.inr (Or.inr (Or.inl ⟨e0, by omega, by omega⟩))⟩)
            · refine aw_toe 3 (by rw [e0]; rfl) ?_
              refine aw_tableOut 245 dX9_wins_87 (by decide) (by decide) ?_
              refine aw_aload_n 8 dX9_wins_245 rfl rfl ?_
              refine aw_get fX9_101 dX9_wins_246 h88 rfl ?_
              refine aw_iload 1 dX9_wins_249 rfl ?_
              refine aw_iald k (rfl) (by omega) (by decide) dX9_wins_251 h117 ?_
              refine aw_toe (nI (xx k)) (rfl) ?_
              have b3310 := bxx k (by omega)
              refine aw_iload 3 dX9_wins_252 rfl ?_
              refine aw_icmp_ne 278 dX9_wins_254 (by decide) (fun c254 => ?_) (fun c254 => ?_)
              · have d254 := mt (nv_eq (a := xx k) (b := tg nx) (rfl) (rfl) (by omega) (by omega)).mpr c254
                refine aw_iconst (0) dX9_wins_278 (by decide) ?_
                refine aw_istore [(9, .int 0), (8, .int 1), (7, .int (nI k)), (6, .int (nI wv)), (5, .int (nI (tg nx))), (4, .int (nI nx)), (3, .int (-1)), (2, .int (nI p)), (1, .int (nI st)), (0, .ref (G.1 + 88))] dX9_wins_279 (by decide) rfl ?_
                refine aw_iload 3 dX9_wins_281 rfl ?_
                refine aw_iload 0 dX9_wins_283 rfl ?_
                refine aw_if_eq 298 dX9_wins_285 (by decide) (fun c285 => ?_) (fun c285 => absurd (by decide) c285)
                refine aw_iconst (0) dX9_wins_298 (by decide) ?_
                refine aw_iadd dX9_wins_299 ?_
                refine aw_toe (nI (wv + 0)) (nv_add (rfl) (rfl)) ?_
                refine aw_istore [(6, .int (nI (wv + 0))), (9, .int 0), (8, .int 1), (7, .int (nI k)), (5, .int (nI (tg nx))), (4, .int (nI nx)), (3, .int (-1)), (2, .int (nI p)), (1, .int (nI st)), (0, .ref (G.1 + 88))] dX9_wins_300 (by decide) rfl ?_
                refine aw_iinc (j := 3) (nI (k + 1)) [(7, .int (nI (k + 1))), (6, .int (nI (wv + 0))), (9, .int 0), (8, .int 1), (5, .int (nI (tg nx))), (4, .int (nI nx)), (3, .int (-1)), (2, .int (nI p)), (1, .int (nI st)), (0, .ref (G.1 + 88))] dX9_wins_302 rfl (nv_inc (rfl)) (by decide) rfl ?_
                refine aw_goto 15 dX9_wins_305 (by decide) ?_
                refine aw_lv [(7, .int (nI (k + 1))), (6, .int (nI (wv + 0))), (5, .int (nI (tg nx))), (4, .int (nI nx)), (3, .int (-1)), (2, .int (nI p)), (1, .int (nI st)), (0, .ref (G.1 + 88))] [0, 1, 4, 5, 6, 7, 8, 9] rfl ?_
                exact ih3292 (k + 1) (wv + 0) (by omega) (by omega) (wnF_n hw (fun q => by rcases q with ⟨qa, qb, ⟨e, q1, q2⟩ | ⟨e, q1, q2⟩ | ⟨e, q1, q2⟩ | ⟨e, q1, q2⟩⟩ <;> first | omega | exact absurd q2 (by assumption)))
              · have d254 := (nv_eq (a := xx k) (b := tg nx) (rfl) (rfl) (by omega) (by omega)).mp c254
                refine aw_iload_n 6 dX9_wins_257 rfl rfl ?_
                refine aw_iconst (1) dX9_wins_258 (by decide) ?_
                refine aw_iload 4 dX9_wins_259 rfl ?_
                refine aw_ishl dX9_wins_261 ?_
                refine aw_toe (nI (2 ^ nx)) (nv_shl1 (rfl) (by omega)) ?_
                refine aw_ior dX9_wins_262 ?_
                refine aw_toe (nI (p ||| (2 ^ nx))) (nv_or (rfl) (rfl)) ?_
                have pw := pw8 sh hsh
                have bq := or_lt8 (a := p) (b := nx) bp (by omega)
                refine aw_iconst (1) dX9_wins_263 (by decide) ?_
                refine aw_aload_n 8 dX9_wins_264 rfl rfl ?_
                refine aw_get fX9_233 dX9_wins_265 h88 rfl ?_
                refine aw_ishl dX9_wins_268 ?_
                refine aw_toe (nI (2 ^ sh)) (nv_shl1 (rfl) (by omega)) ?_
                refine aw_iconst (1) dX9_wins_269 (by decide) ?_
                refine aw_isub dX9_wins_270 ?_
                refine aw_toe (nI ((2 ^ sh) - 1)) (nv_sub (rfl) (rfl) (by omega)) ?_
                refine aw_icmp_ne 278 dX9_wins_271 (by decide) (fun c271 => ?_) (fun c271 => ?_)
                · have d271 := mt (nv_eq (a := p ||| (2 ^ nx)) (b := (2 ^ sh) - 1) (rfl) (rfl) (by omega) (by omega)).mpr c271
                  refine aw_iconst (0) dX9_wins_278 (by decide) ?_
                  refine aw_istore [(9, .int 0), (8, .int 1), (7, .int (nI k)), (6, .int (nI wv)), (5, .int (nI (tg nx))), (4, .int (nI nx)), (3, .int (-1)), (2, .int (nI p)), (1, .int (nI st)), (0, .ref (G.1 + 88))] dX9_wins_279 (by decide) rfl ?_
                  refine aw_iload 3 dX9_wins_281 rfl ?_
                  refine aw_iload 0 dX9_wins_283 rfl ?_
                  refine aw_if_eq 298 dX9_wins_285 (by decide) (fun c285 => ?_) (fun c285 => absurd (by decide) c285)
                  refine aw_iconst (0) dX9_wins_298 (by decide) ?_
                  refine aw_iadd dX9_wins_299 ?_
                  refine aw_toe (nI (wv + 0)) (nv_add (rfl) (rfl)) ?_
                  refine aw_istore [(6, .int (nI (wv + 0))), (9, .int 0), (8, .int 1), (7, .int (nI k)), (5, .int (nI (tg nx))), (4, .int (nI nx)), (3, .int (-1)), (2, .int (nI p)), (1, .int (nI st)), (0, .ref (G.1 + 88))] dX9_wins_300 (by decide) rfl ?_
                  refine aw_iinc (j := 3) (nI (k + 1)) [(7, .int (nI (k + 1))), (6, .int (nI (wv + 0))), (9, .int 0), (8, .int 1), (5, .int (nI (tg nx))), (4, .int (nI nx)), (3, .int (-1)), (2, .int (nI p)), (1, .int (nI st)), (0, .ref (G.1 + 88))] dX9_wins_302 rfl (nv_inc (rfl)) (by decide) rfl ?_
                  refine aw_goto 15 dX9_wins_305 (by decide) ?_
                  refine aw_lv [(7, .int (nI (k + 1))), (6, .int (nI (wv + 0))), (5, .int (nI (tg nx))), (4, .int (nI nx)), (3, .int (-1)), (2, .int (nI p)), (1, .int (nI st)), (0, .ref (G.1 + 88))] [0, 1, 4, 5, 6, 7, 8, 9] rfl ?_
                  exact ih3292 (k + 1) (wv + 0) (by omega) (by omega) (wnF_n hw (fun q => by rcases q with ⟨qa, qb, ⟨e, q1, q2⟩ | ⟨e, q1, q2⟩ | ⟨e, q1, q2⟩ | ⟨e, q1, q2⟩⟩ <;> first | omega | exact absurd q2 (by assumption)))
                · have d271 := (nv_eq (a := p ||| (2 ^ nx)) (b := (2 ^ sh) - 1) (rfl) (rfl) (by omega) (by omega)).mp c271
                  refine aw_iconst (1) dX9_wins_274 (by decide) ?_
                  refine aw_goto 279 dX9_wins_275 (by decide) ?_
                  refine aw_istore [(9, .int 1), (8, .int 1), (7, .int (nI k)), (6, .int (nI wv)), (5, .int (nI (tg nx))), (4, .int (nI nx)), (3, .int (-1)), (2, .int (nI p)), (1, .int (nI st)), (0, .ref (G.1 + 88))] dX9_wins_279 (by decide) rfl ?_
                  refine aw_iload 3 dX9_wins_281 rfl ?_
                  refine aw_iload 0 dX9_wins_283 rfl ?_
                  refine aw_if_eq 298 dX9_wins_285 (by decide) (fun c285 => absurd c285 (by decide)) (fun c285 => ?_)
                  refine aw_aload_n 9 dX9_wins_288 rfl rfl ?_
                  refine aw_get fX9_107 dX9_wins_289 h88 rfl ?_
                  refine aw_iload 2 dX9_wins_292 rfl ?_
                  refine aw_iald k (rfl) (by omega) (by decide) dX9_wins_294 h119 ?_
                  refine aw_toe (nI (tr k)) (rfl) ?_
                  have b3311 := btr k (by omega)
                  refine aw_goto 299 dX9_wins_295 (by decide) ?_
                  refine aw_iadd dX9_wins_299 ?_
                  refine aw_toe (nI (wv + (tr k))) (nv_add (rfl) (rfl)) ?_
                  refine aw_istore [(6, .int (nI (wv + (tr k)))), (9, .int 1), (8, .int 1), (7, .int (nI k)), (5, .int (nI (tg nx))), (4, .int (nI nx)), (3, .int (-1)), (2, .int (nI p)), (1, .int (nI st)), (0, .ref (G.1 + 88))] dX9_wins_300 (by decide) rfl ?_
                  refine aw_iinc (j := 3) (nI (k + 1)) [(7, .int (nI (k + 1))), (6, .int (nI (wv + (tr k)))), (9, .int 1), (8, .int 1), (5, .int (nI (tg nx))), (4, .int (nI nx)), (3, .int (-1)), (2, .int (nI p)), (1, .int (nI st)), (0, .ref (G.1 + 88))] dX9_wins_302 rfl (nv_inc (rfl)) (by decide) rfl ?_
                  refine aw_goto 15 dX9_wins_305 (by decide) ?_
                  refine aw_lv [(7, .int (nI (k + 1))), (6, .int (nI (wv + (tr k)))), (5, .int (nI (tg nx))), (4, .int (nI nx)), (3, .int (-1)), (2, .int (nI p)), (1, .int (nI st)), (0, .ref (G.1 + 88))] [0, 1, 4, 5, 6, 7, 8, 9] rfl ?_
                  exact ih3292 (k + 1) (wv + (tr k)) (by omega) (by omega) (wnF_y hw ⟨t36, Or.inr t62, Or.inr (Or.inr (Or.inr ⟨e0, by omega, d271⟩))⟩)
