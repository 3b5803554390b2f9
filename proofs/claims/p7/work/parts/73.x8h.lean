theorem aX5_addRecord {l : Launch} {G : xG} {h : List va_E} {th ot dy so kn go od : Nat → Nat} {n : Nat} {wd : Int32} {r : Nat} {t0 p0 d0 s0 k0 : Nat} (hr : h[r]? = some (oB 5 (lR G r (nI n) wd))) (hr_1 : h[r + 1]? = some (aI 60 (nA th))) (hr_2 : h[r + 2]? = some (aI 60 (nA ot))) (hr_3 : h[r + 3]? = some (aI 60 (nA dy))) (hr_4 : h[r + 4]? = some (aI 60 (nA so))) (hr_5 : h[r + 5]? = some (aI 60 (nA kn))) (hr_6 : h[r + 6]? = some (aI 60 (nA go))) (hr_7 : h[r + 7]? = some (aI 60 (nA od))) (hn : n < 60) (hod : srt dy od n) (bdy : ∀ j, j < 60 → dy j ≤ 80000) (bd : d0 ≤ 80000) : CE l G yX5_addRecord cX5_addRecord 8 (some .int) 0 0 0 [.ref (G.1 + r), .int (nI t0), .int (nI p0), .int (nI d0), .int (nI s0), .int (nI k0)] h (some (.int (nI n))) (fun h1 => ∃ od1 : Nat → Nat, h1[r]? = some (oB 5 (lR G r (nI (n + 1)) wd)) ∧ h1[r + 1]? = some (aI 60 (nA (un th n t0))) ∧ h1[r + 2]? = some (aI 60 (nA (un ot n p0))) ∧ h1[r + 3]? = some (aI 60 (nA (un dy n d0))) ∧ h1[r + 4]? = some (aI 60 (nA (un so n s0))) ∧ h1[r + 5]? = some (aI 60 (nA (un kn n k0))) ∧ h1[r + 6]? = some (aI 60 (nA (un go n 80001))) ∧ h1[r + 7]? = some (aI 60 (nA od1)) ∧ rng r (r + 7) h h1 ∧ srt (un dy n d0) od1 (n + 1)) :=
  CE.mono (gX5_addRecord ⟨hr, hr_1, hr_2, hr_3, hr_4, hr_5, hr_6, hr_7⟩ hn hod bdy rfl rfl rfl bd rfl rfl) (fun h1 ⟨od1, ⟨c0, c1, c2, c3, c4, c5, c6, c7⟩, hs, hk⟩ => ⟨od1, c0, c1, c2, c3, c4, c5, c6, c7, hk, hs⟩)
theorem aX5_takeBack {l : Launch} {G : xG} {h : List va_E} {th ot dy so kn go od : Nat → Nat} {n : Nat} {wd : Int32} {r : Nat} {q k : Nat} (hr : h[r]? = some (oB 5 (lR G r (nI n) wd))) (hr_1 : h[r + 1]? = some (aI 60 (nA th))) (hr_2 : h[r + 2]? = some (aI 60 (nA ot))) (hr_3 : h[r + 3]? = some (aI 60 (nA dy))) (hr_4 : h[r + 4]? = some (aI 60 (nA so))) (hr_5 : h[r + 5]? = some (aI 60 (nA kn))) (hr_6 : h[r + 6]? = some (aI 60 (nA go))) (hr_7 : h[r + 7]? = some (aI 60 (nA od))) (hn : n ≤ 60) (hod : srt dy od n) (bq : q < 60) : CE l G yX5_takeBack cX5_takeBack 3 none 0 0 0 [.ref (G.1 + r), .int (nI q), .int (nI k)] h none (fun h1 => ∃ wd1 : Int32, h1[r]? = some (oB 5 (lR G r (nI n) wd1)) ∧ h1[r + 1]? = some (aI 60 (nA th)) ∧ h1[r + 2]? = some (aI 60 (nA ot)) ∧ h1[r + 3]? = some (aI 60 (nA dy)) ∧ h1[r + 4]? = some (aI 60 (nA so)) ∧ h1[r + 5]? = some (aI 60 (nA kn)) ∧ h1[r + 6]? = some (aI 60 (nA (un go q k))) ∧ h1[r + 7]? = some (aI 60 (nA od)) ∧ rng r (r + 7) h h1) :=
  CE.mono (gX5_takeBack ⟨hr, hr_1, hr_2, hr_3, hr_4, hr_5, hr_6, hr_7⟩ hn hod rfl bq rfl) (fun h1 ⟨wd1, ⟨c0, c1, c2, c3, c4, c5, c6, c7⟩, hk⟩ => ⟨wd1, c0, c1, c2, c3, c4, c5, c6, c7, hk⟩)
set_option maxHeartbeats 4000000 in
theorem oX8_sight {l : Launch} {G : xG} {h : List va_E} {jv bv : Value} {rf : Nat → Int32} {th ot dy so kn go od : Nat → Nat} {n : Nat} {wd : Int32} {t p d k : Int32} (h0 : h[0]? = some (oB 8 (lX G (jv) (bv)))) (h87 : h[87]? = some (aI 7 rf)) (h61 : h[61]? = some (oB 5 (lR G 61 (nI n) wd))) (h62 : h[62]? = some (aI 60 (nA th))) (h63 : h[63]? = some (aI 60 (nA ot))) (h64 : h[64]? = some (aI 60 (nA dy))) (h65 : h[65]? = some (aI 60 (nA so))) (h66 : h[66]? = some (aI 60 (nA kn))) (h67 : h[67]? = some (aI 60 (nA go))) (h68 : h[68]? = some (aI 60 (nA od))) (hn : n ≤ 60) (hod : srt dy od n) (bdy : ∀ j, j < 60 → dy j ≤ 80000) : CE l G yX8_sight cX8_sight 6 (some .int) 2 0 0 [.ref (G.1 + 0), .int t, .int p, .int d, .int k] h (some (.int (spSight n t p d k))) (fun h1 => ∃ od1 : Nat → Nat, ∃ rf1 : Nat → Int32, h1[61]? = some (oB 5 (lR G 61 (nI (spN (0 ≤ (spSight n t p d k).toInt) n (n + 1))) wd)) ∧ h1[62]? = some (aI 60 (nA (spUn (0 ≤ (spSight n t p d k).toInt) th n (tn t)))) ∧ h1[63]? = some (aI 60 (nA (spUn (0 ≤ (spSight n t p d k).toInt) ot n (tn p)))) ∧ h1[64]? = some (aI 60 (nA (spUn (0 ≤ (spSight n t p d k).toInt) dy n (tn d)))) ∧ h1[65]? = some (aI 60 (nA (spUn (0 ≤ (spSight n t p d k).toInt) so n 0))) ∧ h1[66]? = some (aI 60 (nA (spUn (0 ≤ (spSight n t p d k).toInt) kn n (tn k)))) ∧ h1[67]? = some (aI 60 (nA (spUn (0 ≤ (spSight n t p d k).toInt) go n 80001))) ∧ h1[68]? = some (aI 60 (nA od1)) ∧ h1[87]? = some (aI 7 rf1) ∧ rg2 61 68 87 87 h h1 ∧ srt (spUn (0 ≤ (spSight n t p d k).toInt) dy n (tn d)) od1 (spN (0 ≤ (spSight n t p d k).toInt) n (n + 1))) := by
  refine cm_ofQ rfl (Nat.le_of_ble_eq_true rfl) [(0, .ref (G.1 + 0)), (1, .int t), (2, .int p), (3, .int d), (4, .int k)] rfl (fun QF hQF => ?_)
  refine aw_iload_n 1 dX8_sight_0 rfl rfl ?_
  refine aw_dS [.int t] [] lX8_154 sX8_isThing mX8_isThing dX8_sight_1 (bX8_isThing (x := t) ) rfl (Nat.le_of_ble_eq_true rfl) (by decide) (by decide) rfl ?_
  refine aw_if_eq 17 dX8_sight_4 (by decide) (fun c4 => ?_) (fun c4 => ?_)
  · have t4 := ite_0 c4
    refine aw_aload_n 0 dX8_sight_17 rfl rfl ?_
    refine aw_iconst (-1) dX8_sight_18 (by decide) ?_
    refine aw_eV [.int (-1)] [] lX8_70 vX8_refuse mX8_refuse dX8_sight_19 (bX8_refuse (jv := jv) (bv := bv) (rf := rf) (x := (-1)) (q := 1) h0 h87 (by decide) (by decide)) h0 rfl rfl rfl (Nat.le_of_ble_eq_true rfl) (by decide) (by decide) rfl (fun h949 q948 => ?_)
    obtain ⟨rf1947, f950, k951⟩ := q948
    have f952 := rng_at k951 (by decide) h0
    have f953 := rng_at k951 (by decide) h61
    have f954 := rng_at k951 (by decide) h62
    have f955 := rng_at k951 (by decide) h63
    have f956 := rng_at k951 (by decide) h64
    have f957 := rng_at k951 (by decide) h65
    have f958 := rng_at k951 (by decide) h66
    have f959 := rng_at k951 (by decide) h67
    have f960 := rng_at k951 (by decide) h68
    subst hQF
    have eS : (spSight n t p d k) = (-1) := by unfold spSight; (repeat' split) <;> first | (exfalso; omega) | rfl | contradiction
    have ok9 : ¬ 0 ≤ (spSight n t p d k).toInt := by rw [eS]; decide
    exact aw_iret rfl dX8_sight_22 (by decide) (by decide) ⟨by rw [eS], _, _, by rw [spN_n ok9]; exact f953, by rw [spUn_n ok9]; exact f954, by rw [spUn_n ok9]; exact f955, by rw [spUn_n ok9]; exact f956, by rw [spUn_n ok9]; exact f957, by rw [spUn_n ok9]; exact f958, by rw [spUn_n ok9]; exact f959, f960, f950, rg2_tr (rg2_rf 61 68 87 87 h) (rg2_w k951 (by decide)), by rw [spUn_n ok9, spN_n ok9]; exact hod⟩
  · have t4 := ite_1 c4
    refine aw_iload_n 2 dX8_sight_7 rfl rfl ?_
    refine aw_if_lt 17 dX8_sight_8 (by decide) (fun c8 => ?_) (fun c8 => ?_)
    · have d8 := (j_lt (a := p.toInt) (b := (0)) (rfl) (rfl)).mp c8
      refine aw_aload_n 0 dX8_sight_17 rfl rfl ?_
      refine aw_iconst (-1) dX8_sight_18 (by decide) ?_
      refine aw_eV [.int (-1)] [] lX8_70 vX8_refuse mX8_refuse dX8_sight_19 (bX8_refuse (jv := jv) (bv := bv) (rf := rf) (x := (-1)) (q := 1) h0 h87 (by decide) (by decide)) h0 rfl rfl rfl (Nat.le_of_ble_eq_true rfl) (by decide) (by decide) rfl (fun h963 q962 => ?_)
      obtain ⟨rf1961, f964, k965⟩ := q962
      have f966 := rng_at k965 (by decide) h0
      have f967 := rng_at k965 (by decide) h61
      have f968 := rng_at k965 (by decide) h62
      have f969 := rng_at k965 (by decide) h63
      have f970 := rng_at k965 (by decide) h64
      have f971 := rng_at k965 (by decide) h65
      have f972 := rng_at k965 (by decide) h66
      have f973 := rng_at k965 (by decide) h67
      have f974 := rng_at k965 (by decide) h68
      subst hQF
      have eS : (spSight n t p d k) = (-1) := by unfold spSight; (repeat' split) <;> first | (exfalso; omega) | rfl | contradiction
      have ok9 : ¬ 0 ≤ (spSight n t p d k).toInt := by rw [eS]; decide
      exact aw_iret rfl dX8_sight_22 (by decide) (by decide) ⟨by rw [eS], _, _, by rw [spN_n ok9]; exact f967, by rw [spUn_n ok9]; exact f968, by rw [spUn_n ok9]; exact f969, by rw [spUn_n ok9]; exact f970, by rw [spUn_n ok9]; exact f971, by rw [spUn_n ok9]; exact f972, by rw [spUn_n ok9]; exact f973, f974, f964, rg2_tr (rg2_rf 61 68 87 87 h) (rg2_w k965 (by decide)), by rw [spUn_n ok9, spN_n ok9]; exact hod⟩
    · have d8 := mt (j_lt (a := p.toInt) (b := (0)) (rfl) (rfl)).mpr c8
      refine aw_iload_n 2 dX8_sight_11 rfl rfl ?_
      refine aw_bipush (8) dX8_sight_12 (by decide) ?_
      refine aw_icmp_lt 23 dX8_sight_14 (by decide) (fun c14 => ?_) (fun c14 => ?_)
      · have d14 := (j_lt (a := p.toInt) (b := (8)) (rfl) (rfl)).mp c14
        refine aw_iload_n 3 dX8_sight_23 rfl rfl ?_
        refine aw_iload 4 dX8_sight_24 rfl ?_
        refine aw_dS [.int d, .int k] [] lX8_157 sX8_daysRefusal mX8_daysRefusal dX8_sight_26 (bX8_daysRefusal (x := d) (k := k) ) rfl (Nat.le_of_ble_eq_true rfl) (by decide) (by decide) rfl ?_
        refine aw_istore [(5, .int (dyF d k)), (0, .ref (G.1 + 0)), (1, .int t), (2, .int p), (3, .int d), (4, .int k)] dX8_sight_29 (by decide) rfl ?_
        refine aw_iload 0 dX8_sight_31 rfl ?_
        refine aw_if_eq 43 dX8_sight_33 (by decide) (fun c33 => ?_) (fun c33 => ?_)
        · have d33 := (j_eq (a := (dyF d k).toInt) (b := (0)) (rfl) (rfl)).mp c33
          have hdd := dyF_0 (d := d) (k := k) (by assumption)
          refine aw_aload_n 1 dX8_sight_43 rfl rfl ?_
          refine aw_get fX8_34 dX8_sight_44 h0 rfl ?_
          refine aw_get fX8_160 dX8_sight_47 h61 rfl ?_
          refine aw_bipush (60) dX8_sight_50 (by decide) ?_
          refine aw_icmp_lt 62 dX8_sight_52 (by decide) (fun c52 => ?_) (fun c52 => ?_)
          · have d52 := (nv_lt (a := n) (b := 60) (rfl) (rfl) (by omega) (by omega)).mp c52
            obtain ⟨t0, bb_t0, ee_t0⟩ := i_nat (x := t) (N := 12) (by omega) (by omega)
            subst ee_t0
            have tt_t0 : (nI t0).toInt = (t0 : Int) := nI_toInt (by omega)
            have nn_t0 : tn (nI t0) = t0 := tn_nI (by omega)
            obtain ⟨p0, bb_p0, ee_p0⟩ := i_nat (x := p) (N := 8) (by omega) (by omega)
            subst ee_p0
            have tt_p0 : (nI p0).toInt = (p0 : Int) := nI_toInt (by omega)
            have nn_p0 : tn (nI p0) = p0 := tn_nI (by omega)
            obtain ⟨d0, bb_d0, ee_d0⟩ := i_nat (x := d) (N := 80001) (by omega) (by omega)
            subst ee_d0
            have tt_d0 : (nI d0).toInt = (d0 : Int) := nI_toInt (by omega)
            have nn_d0 : tn (nI d0) = d0 := tn_nI (by omega)
            obtain ⟨k0, bb_k0, ee_k0⟩ := i_nat (x := k) (N := 80001) (by omega) (by omega)
            subst ee_k0
            have tt_k0 : (nI k0).toInt = (k0 : Int) := nI_toInt (by omega)
            have nn_k0 : tn (nI k0) = k0 := tn_nI (by omega)
            refine aw_aload_n 1 dX8_sight_62 rfl rfl ?_
            refine aw_get fX8_34 dX8_sight_63 h0 rfl ?_
            refine aw_iload_n 2 dX8_sight_66 rfl rfl ?_
            refine aw_iload_n 3 dX8_sight_67 rfl rfl ?_
            refine aw_iload_n 4 dX8_sight_68 rfl rfl ?_
            refine aw_iconst (0) dX8_sight_69 (by decide) ?_
            refine aw_iload 5 dX8_sight_70 rfl ?_
            refine aw_eV [.int (nI t0), .int (nI p0), .int (nI d0), .int 0, .int (nI k0)] [] lX8_162 vX5_addRecord mX5_addRecord dX8_sight_72 (aX5_addRecord (th := th) (ot := ot) (dy := dy) (so := so) (kn := kn) (go := go) (od := od) (n := n) (wd := wd) (r := 61) (t0 := t0) (p0 := p0) (d0 := d0) (s0 := 0) (k0 := k0) h61 h62 h63 h64 h65 h66 h67 h68 (by omega) hod bdy (by omega)) h61 rfl rfl rfl (Nat.le_of_ble_eq_true rfl) (by decide) (by decide) rfl (fun h977 q976 => ?_)
            obtain ⟨od1975, f978, f979, f980, f981, f982, f983, f984, f985, k986, p987⟩ := q976
            have f988 := rng_at k986 (by decide) h0
            have f989 := rng_at k986 (by decide) h87
            subst hQF
            have eS : (spSight n (nI t0) (nI p0) (nI d0) (nI k0)) = (nI n) := by unfold spSight; (repeat' split) <;> first | (exfalso; omega) | rfl | contradiction
            have ok9 : 0 ≤ (spSight n (nI t0) (nI p0) (nI d0) (nI k0)).toInt := by rw [eS, nI_toInt (by omega)]; omega
            exact aw_iret rfl dX8_sight_75 (by decide) (by decide) ⟨by rw [eS], _, _, by rw [spN_y ok9]; exact f978, by rw [spUn_y ok9, nn_t0]; exact f979, by rw [spUn_y ok9, nn_p0]; exact f980, by rw [spUn_y ok9, nn_d0]; exact f981, by rw [spUn_y ok9]; exact f982, by rw [spUn_y ok9, nn_k0]; exact f983, by rw [spUn_y ok9]; exact f984, f985, f989, rg2_tr (rg2_rf 61 68 87 87 h) (rg2_w k986 (by decide)), by rw [spUn_y ok9, spN_y ok9, nn_d0]; exact p987⟩
          · have d52 := mt (nv_lt (a := n) (b := 60) (rfl) (rfl) (by omega) (by omega)).mpr c52
            refine aw_aload_n 1 dX8_sight_55 rfl rfl ?_
            refine aw_bipush (-6) dX8_sight_56 (by decide) ?_
            refine aw_eV [.int (-6)] [] lX8_70 vX8_refuse mX8_refuse dX8_sight_58 (bX8_refuse (jv := jv) (bv := bv) (rf := rf) (x := (-6)) (q := 6) h0 h87 (by decide) (by decide)) h0 rfl rfl rfl (Nat.le_of_ble_eq_true rfl) (by decide) (by decide) rfl (fun h992 q991 => ?_)
            obtain ⟨rf1990, f993, k994⟩ := q991
            have f995 := rng_at k994 (by decide) h0
            have f996 := rng_at k994 (by decide) h61
            have f997 := rng_at k994 (by decide) h62
            have f998 := rng_at k994 (by decide) h63
            have f999 := rng_at k994 (by decide) h64
            have f1000 := rng_at k994 (by decide) h65
            have f1001 := rng_at k994 (by decide) h66
            have f1002 := rng_at k994 (by decide) h67
            have f1003 := rng_at k994 (by decide) h68
            subst hQF
            have eS : (spSight n t p d k) = (-6) := by unfold spSight; (repeat' split) <;> first | (exfalso; omega) | rfl | contradiction
            have ok9 : ¬ 0 ≤ (spSight n t p d k).toInt := by rw [eS]; decide
            exact aw_iret rfl dX8_sight_61 (by decide) (by decide) ⟨by rw [eS], _, _, by rw [spN_n ok9]; exact f996, by rw [spUn_n ok9]; exact f997, by rw [spUn_n ok9]; exact f998, by rw [spUn_n ok9]; exact f999, by rw [spUn_n ok9]; exact f1000, by rw [spUn_n ok9]; exact f1001, by rw [spUn_n ok9]; exact f1002, f1003, f993, rg2_tr (rg2_rf 61 68 87 87 h) (rg2_w k994 (by decide)), by rw [spUn_n ok9, spN_n ok9]; exact hod⟩
        · have d33 := mt (j_eq (a := (dyF d k).toInt) (b := (0)) (rfl) (rfl)).mpr c33
          refine aw_aload_n 1 dX8_sight_36 rfl rfl ?_
          refine aw_iload 0 dX8_sight_37 rfl ?_
          obtain ⟨q1004, bq1004, eq1004⟩ := Or.resolve_left (dyF_q d k) (by assumption)
          refine aw_eV [.int (dyF d k)] [] lX8_70 vX8_refuse mX8_refuse dX8_sight_39 (bX8_refuse (jv := jv) (bv := bv) (rf := rf) (x := (dyF d k)) (q := q1004) h0 h87 bq1004 eq1004) h0 rfl rfl rfl (Nat.le_of_ble_eq_true rfl) (by decide) (by decide) rfl (fun h1007 q1006 => ?_)
          obtain ⟨rf11005, f1008, k1009⟩ := q1006
          have f1010 := rng_at k1009 (by decide) h0
          have f1011 := rng_at k1009 (by decide) h61
          have f1012 := rng_at k1009 (by decide) h62
          have f1013 := rng_at k1009 (by decide) h63
          have f1014 := rng_at k1009 (by decide) h64
          have f1015 := rng_at k1009 (by decide) h65
          have f1016 := rng_at k1009 (by decide) h66
          have f1017 := rng_at k1009 (by decide) h67
          have f1018 := rng_at k1009 (by decide) h68
          subst hQF
          have eS : (spSight n t p d k) = (dyF d k) := by unfold spSight; rw [if_neg (by omega), if_pos (by assumption)]
          have ok9 : ¬ 0 ≤ (spSight n t p d k).toInt := by rw [eS]; have q := dyF_neg (d := d) (k := k) (by assumption); omega
          exact aw_iret rfl dX8_sight_42 (by decide) (by decide) ⟨by rw [eS], _, _, by rw [spN_n ok9]; exact f1011, by rw [spUn_n ok9]; exact f1012, by rw [spUn_n ok9]; exact f1013, by rw [spUn_n ok9]; exact f1014, by rw [spUn_n ok9]; exact f1015, by rw [spUn_n ok9]; exact f1016, by rw [spUn_n ok9]; exact f1017, f1018, f1008, rg2_tr (rg2_rf 61 68 87 87 h) (rg2_w k1009 (by decide)), by rw [spUn_n ok9, spN_n ok9]; exact hod⟩
      · have d14 := mt (j_lt (a := p.toInt) (b := (8)) (rfl) (rfl)).mpr c14
        refine aw_aload_n 0 dX8_sight_17 rfl rfl ?_
        refine aw_iconst (-1) dX8_sight_18 (by decide) ?_
        refine aw_eV [.int (-1)] [] lX8_70 vX8_refuse mX8_refuse dX8_sight_19 (bX8_refuse (jv := jv) (bv := bv) (rf := rf) (x := (-1)) (q := 1) h0 h87 (by decide) (by decide)) h0 rfl rfl rfl (Nat.le_of_ble_eq_true rfl) (by decide) (by decide) rfl (fun h1021 q1020 => ?_)
        obtain ⟨rf11019, f1022, k1023⟩ := q1020
        have f1024 := rng_at k1023 (by decide) h0
        have f1025 := rng_at k1023 (by decide) h61
        have f1026 := rng_at k1023 (by decide) h62
        have f1027 := rng_at k1023 (by decide) h63
        have f1028 := rng_at k1023 (by decide) h64
        have f1029 := rng_at k1023 (by decide) h65
        have f1030 := rng_at k1023 (by decide) h66
        have f1031 := rng_at k1023 (by decide) h67
        have f1032 := rng_at k1023 (by decide) h68
        subst hQF
        have eS : (spSight n t p d k) = (-1) := by unfold spSight; (repeat' split) <;> first | (exfalso; omega) | rfl | contradiction
        have ok9 : ¬ 0 ≤ (spSight n t p d k).toInt := by rw [eS]; decide
        exact aw_iret rfl dX8_sight_22 (by decide) (by decide) ⟨by rw [eS], _, _, by rw [spN_n ok9]; exact f1025, by rw [spUn_n ok9]; exact f1026, by rw [spUn_n ok9]; exact f1027, by rw [spUn_n ok9]; exact f1028, by rw [spUn_n ok9]; exact f1029, by rw [spUn_n ok9]; exact f1030, by rw [spUn_n ok9]; exact f1031, f1032, f1022, rg2_tr (rg2_rf 61 68 87 87 h) (rg2_w k1023 (by decide)), by rw [spUn_n ok9, spN_n ok9]; exact hod⟩
set_option maxHeartbeats 4000000 in
theorem oX8_move {l : Launch} {G : xG} {h : List va_E} {jv bv : Value} {rf : Nat → Int32} {th ot dy so kn go od : Nat → Nat} {n : Nat} {wd : Int32} {t p d s k : Int32} (h0 : h[0]? = some (oB 8 (lX G (jv) (bv)))) (h87 : h[87]? = some (aI 7 rf)) (h69 : h[69]? = some (oB 5 (lR G 69 (nI n) wd))) (h70 : h[70]? = some (aI 60 (nA th))) (h71 : h[71]? = some (aI 60 (nA ot))) (h72 : h[72]? = some (aI 60 (nA dy))) (h73 : h[73]? = some (aI 60 (nA so))) (h74 : h[74]? = some (aI 60 (nA kn))) (h75 : h[75]? = some (aI 60 (nA go))) (h76 : h[76]? = some (aI 60 (nA od))) (hn : n ≤ 60) (hod : srt dy od n) (bdy : ∀ j, j < 60 → dy j ≤ 80000) : CE l G yX8_move cX8_move 7 (some .int) 2 0 0 [.ref (G.1 + 0), .int t, .int p, .int d, .int s, .int k] h (some (.int (spMove n t p d s k))) (fun h1 => ∃ od1 : Nat → Nat, ∃ rf1 : Nat → Int32, h1[69]? = some (oB 5 (lR G 69 (nI (spN (0 ≤ (spMove n t p d s k).toInt) n (n + 1))) wd)) ∧ h1[70]? = some (aI 60 (nA (spUn (0 ≤ (spMove n t p d s k).toInt) th n (tn t)))) ∧ h1[71]? = some (aI 60 (nA (spUn (0 ≤ (spMove n t p d s k).toInt) ot n (tn p)))) ∧ h1[72]? = some (aI 60 (nA (spUn (0 ≤ (spMove n t p d s k).toInt) dy n (tn d)))) ∧ h1[73]? = some (aI 60 (nA (spUn (0 ≤ (spMove n t p d s k).toInt) so n (tn s)))) ∧ h1[74]? = some (aI 60 (nA (spUn (0 ≤ (spMove n t p d s k).toInt) kn n (tn k)))) ∧ h1[75]? = some (aI 60 (nA (spUn (0 ≤ (spMove n t p d s k).toInt) go n 80001))) ∧ h1[76]? = some (aI 60 (nA od1)) ∧ h1[87]? = some (aI 7 rf1) ∧ rg2 69 76 87 87 h h1 ∧ srt (spUn (0 ≤ (spMove n t p d s k).toInt) dy n (tn d)) od1 (spN (0 ≤ (spMove n t p d s k).toInt) n (n + 1))) := by
  refine cm_ofQ rfl (Nat.le_of_ble_eq_true rfl) [(0, .ref (G.1 + 0)), (1, .int t), (2, .int p), (3, .int d), (4, .int s), (5, .int k)] rfl (fun QF hQF => ?_)
  refine aw_iload_n 1 dX8_move_0 rfl rfl ?_
  refine aw_dS [.int t] [] lX8_154 sX8_isThing mX8_isThing dX8_move_1 (bX8_isThing (x := t) ) rfl (Nat.le_of_ble_eq_true rfl) (by decide) (by decide) rfl ?_
  refine aw_if_eq 17 dX8_move_4 (by decide) (fun c4 => ?_) (fun c4 => ?_)
  · have t4 := ite_0 c4
    refine aw_aload_n 0 dX8_move_17 rfl rfl ?_
    refine aw_iconst (-1) dX8_move_18 (by decide) ?_
    refine aw_eV [.int (-1)] [] lX8_70 vX8_refuse mX8_refuse dX8_move_19 (bX8_refuse (jv := jv) (bv := bv) (rf := rf) (x := (-1)) (q := 1) h0 h87 (by decide) (by decide)) h0 rfl rfl rfl (Nat.le_of_ble_eq_true rfl) (by decide) (by decide) rfl (fun h1035 q1034 => ?_)
    obtain ⟨rf11033, f1036, k1037⟩ := q1034
    have f1038 := rng_at k1037 (by decide) h0
    have f1039 := rng_at k1037 (by decide) h69
    have f1040 := rng_at k1037 (by decide) h70
    have f1041 := rng_at k1037 (by decide) h71
    have f1042 := rng_at k1037 (by decide) h72
    have f1043 := rng_at k1037 (by decide) h73
    have f1044 := rng_at k1037 (by decide) h74
    have f1045 := rng_at k1037 (by decide) h75
    have f1046 := rng_at k1037 (by decide) h76
    subst hQF
    have eS : (spMove n t p d s k) = (-1) := by unfold spMove; (repeat' split) <;> first | (exfalso; omega) | rfl | contradiction
    have ok9 : ¬ 0 ≤ (spMove n t p d s k).toInt := by rw [eS]; decide
    exact aw_iret rfl dX8_move_22 (by decide) (by decide) ⟨by rw [eS], _, _, by rw [spN_n ok9]; exact f1039, by rw [spUn_n ok9]; exact f1040, by rw [spUn_n ok9]; exact f1041, by rw [spUn_n ok9]; exact f1042, by rw [spUn_n ok9]; exact f1043, by rw [spUn_n ok9]; exact f1044, by rw [spUn_n ok9]; exact f1045, f1046, f1036, rg2_tr (rg2_rf 69 76 87 87 h) (rg2_w k1037 (by decide)), by rw [spUn_n ok9, spN_n ok9]; exact hod⟩
  · have t4 := ite_1 c4
    refine aw_iload_n 2 dX8_move_7 rfl rfl ?_
    refine aw_if_lt 17 dX8_move_8 (by decide) (fun c8 => ?_) (fun c8 => ?_)
    · have d8 := (j_lt (a := p.toInt) (b := (0)) (rfl) (rfl)).mp c8
      refine aw_aload_n 0 dX8_move_17 rfl rfl ?_
      refine aw_iconst (-1) dX8_move_18 (by decide) ?_
      refine aw_eV [.int (-1)] [] lX8_70 vX8_refuse mX8_refuse dX8_move_19 (bX8_refuse (jv := jv) (bv := bv) (rf := rf) (x := (-1)) (q := 1) h0 h87 (by decide) (by decide)) h0 rfl rfl rfl (Nat.le_of_ble_eq_true rfl) (by decide) (by decide) rfl (fun h1049 q1048 => ?_)
      obtain ⟨rf11047, f1050, k1051⟩ := q1048
      have f1052 := rng_at k1051 (by decide) h0
      have f1053 := rng_at k1051 (by decide) h69
      have f1054 := rng_at k1051 (by decide) h70
      have f1055 := rng_at k1051 (by decide) h71
      have f1056 := rng_at k1051 (by decide) h72
      have f1057 := rng_at k1051 (by decide) h73
      have f1058 := rng_at k1051 (by decide) h74
      have f1059 := rng_at k1051 (by decide) h75
      have f1060 := rng_at k1051 (by decide) h76
      subst hQF
      have eS : (spMove n t p d s k) = (-1) := by unfold spMove; (repeat' split) <;> first | (exfalso; omega) | rfl | contradiction
      have ok9 : ¬ 0 ≤ (spMove n t p d s k).toInt := by rw [eS]; decide
      exact aw_iret rfl dX8_move_22 (by decide) (by decide) ⟨by rw [eS], _, _, by rw [spN_n ok9]; exact f1053, by rw [spUn_n ok9]; exact f1054, by rw [spUn_n ok9]; exact f1055, by rw [spUn_n ok9]; exact f1056, by rw [spUn_n ok9]; exact f1057, by rw [spUn_n ok9]; exact f1058, by rw [spUn_n ok9]; exact f1059, f1060, f1050, rg2_tr (rg2_rf 69 76 87 87 h) (rg2_w k1051 (by decide)), by rw [spUn_n ok9, spN_n ok9]; exact hod⟩
    · have d8 := mt (j_lt (a := p.toInt) (b := (0)) (rfl) (rfl)).mpr c8
      refine aw_iload_n 2 dX8_move_11 rfl rfl ?_
      refine aw_bipush (8) dX8_move_12 (by decide) ?_
      refine aw_icmp_lt 23 dX8_move_14 (by decide) (fun c14 => ?_) (fun c14 => ?_)
      · have d14 := (j_lt (a := p.toInt) (b := (8)) (rfl) (rfl)).mp c14
        refine aw_iload 4 dX8_move_23 rfl ?_
        refine aw_if_lt 34 dX8_move_25 (by decide) (fun c25 => ?_) (fun c25 => ?_)
        · have d25 := (j_lt (a := s.toInt) (b := (0)) (rfl) (rfl)).mp c25
          refine aw_aload_n 0 dX8_move_34 rfl rfl ?_
          refine aw_bipush (-2) dX8_move_35 (by decide) ?_
          refine aw_eV [.int (-2)] [] lX8_70 vX8_refuse mX8_refuse dX8_move_37 (bX8_refuse (jv := jv) (bv := bv) (rf := rf) (x := (-2)) (q := 2) h0 h87 (by decide) (by decide)) h0 rfl rfl rfl (Nat.le_of_ble_eq_true rfl) (by decide) (by decide) rfl (fun h1063 q1062 => ?_)
          obtain ⟨rf11061, f1064, k1065⟩ := q1062
          have f1066 := rng_at k1065 (by decide) h0
          have f1067 := rng_at k1065 (by decide) h69
          have f1068 := rng_at k1065 (by decide) h70
          have f1069 := rng_at k1065 (by decide) h71
          have f1070 := rng_at k1065 (by decide) h72
          have f1071 := rng_at k1065 (by decide) h73
          have f1072 := rng_at k1065 (by decide) h74
          have f1073 := rng_at k1065 (by decide) h75
          have f1074 := rng_at k1065 (by decide) h76
          subst hQF
          have eS : (spMove n t p d s k) = (-2) := by unfold spMove; (repeat' split) <;> first | (exfalso; omega) | rfl | contradiction
          have ok9 : ¬ 0 ≤ (spMove n t p d s k).toInt := by rw [eS]; decide
          exact aw_iret rfl dX8_move_40 (by decide) (by decide) ⟨by rw [eS], _, _, by rw [spN_n ok9]; exact f1067, by rw [spUn_n ok9]; exact f1068, by rw [spUn_n ok9]; exact f1069, by rw [spUn_n ok9]; exact f1070, by rw [spUn_n ok9]; exact f1071, by rw [spUn_n ok9]; exact f1072, by rw [spUn_n ok9]; exact f1073, f1074, f1064, rg2_tr (rg2_rf 69 76 87 87 h) (rg2_w k1065 (by decide)), by rw [spUn_n ok9, spN_n ok9]; exact hod⟩
        · have d25 := mt (j_lt (a := s.toInt) (b := (0)) (rfl) (rfl)).mpr c25
          refine aw_iload 4 dX8_move_28 rfl ?_
          refine aw_iconst (4) dX8_move_30 (by decide) ?_
          refine aw_icmp_le 41 dX8_move_31 (by decide) (fun c31 => ?_) (fun c31 => ?_)
          · have d31 := (j_le (a := s.toInt) (b := (4)) (rfl) (rfl)).mp c31
            refine aw_iload_n 3 dX8_move_41 rfl rfl ?_
            refine aw_iload 5 dX8_move_42 rfl ?_
            refine aw_dS [.int d, .int k] [] lX8_157 sX8_daysRefusal mX8_daysRefusal dX8_move_44 (bX8_daysRefusal (x := d) (k := k) ) rfl (Nat.le_of_ble_eq_true rfl) (by decide) (by decide) rfl ?_
            refine aw_istore [(6, .int (dyF d k)), (0, .ref (G.1 + 0)), (1, .int t), (2, .int p), (3, .int d), (4, .int s), (5, .int k)] dX8_move_47 (by decide) rfl ?_
            refine aw_iload 0 dX8_move_49 rfl ?_
            refine aw_if_eq 61 dX8_move_51 (by decide) (fun c51 => ?_) (fun c51 => ?_)
            · have d51 := (j_eq (a := (dyF d k).toInt) (b := (0)) (rfl) (rfl)).mp c51
              have hdd := dyF_0 (d := d) (k := k) (by assumption)
              refine aw_aload_n 1 dX8_move_61 rfl rfl ?_
              refine aw_get fX8_38 dX8_move_62 h0 rfl ?_
              refine aw_get fX8_160 dX8_move_65 h69 rfl ?_
              refine aw_bipush (60) dX8_move_68 (by decide) ?_
              refine aw_icmp_lt 80 dX8_move_70 (by decide) (fun c70 => ?_) (fun c70 => ?_)
              · have d70 := (nv_lt (a := n) (b := 60) (rfl) (rfl) (by omega) (by omega)).mp c70
                obtain ⟨t0, bb_t0, ee_t0⟩ := i_nat (x := t) (N := 12) (by omega) (by omega)
                subst ee_t0
                have tt_t0 : (nI t0).toInt = (t0 : Int) := nI_toInt (by omega)
                have nn_t0 : tn (nI t0) = t0 := tn_nI (by omega)
                obtain ⟨p0, bb_p0, ee_p0⟩ := i_nat (x := p) (N := 8) (by omega) (by omega)
                subst ee_p0
                have tt_p0 : (nI p0).toInt = (p0 : Int) := nI_toInt (by omega)
                have nn_p0 : tn (nI p0) = p0 := tn_nI (by omega)
                obtain ⟨d0, bb_d0, ee_d0⟩ := i_nat (x := d) (N := 80001) (by omega) (by omega)
                subst ee_d0
                have tt_d0 : (nI d0).toInt = (d0 : Int) := nI_toInt (by omega)
                have nn_d0 : tn (nI d0) = d0 := tn_nI (by omega)
                obtain ⟨s0, bb_s0, ee_s0⟩ := i_nat (x := s) (N := 5) (by omega) (by omega)
                subst ee_s0
                have tt_s0 : (nI s0).toInt = (s0 : Int) := nI_toInt (by omega)
                have nn_s0 : tn (nI s0) = s0 := tn_nI (by omega)
                obtain ⟨k0, bb_k0, ee_k0⟩ := i_nat (x := k) (N := 80001) (by omega) (by omega)
                subst ee_k0
                have tt_k0 : (nI k0).toInt = (k0 : Int) := nI_toInt (by omega)
                have nn_k0 : tn (nI k0) = k0 := tn_nI (by omega)
                refine aw_aload_n 1 dX8_move_80 rfl rfl ?_
                refine aw_get fX8_38 dX8_move_81 h0 rfl ?_
                refine aw_iload_n 2 dX8_move_84 rfl rfl ?_
                refine aw_iload_n 3 dX8_move_85 rfl rfl ?_
                refine aw_iload_n 4 dX8_move_86 rfl rfl ?_
                refine aw_iload 5 dX8_move_87 rfl ?_
                refine aw_iload 6 dX8_move_89 rfl ?_
                refine aw_eV [.int (nI t0), .int (nI p0), .int (nI d0), .int (nI s0), .int (nI k0)] [] lX8_162 vX5_addRecord mX5_addRecord dX8_move_91 (aX5_addRecord (th := th) (ot := ot) (dy := dy) (so := so) (kn := kn) (go := go) (od := od) (n := n) (wd := wd) (r := 69) (t0 := t0) (p0 := p0) (d0 := d0) (s0 := s0) (k0 := k0) h69 h70 h71 h72 h73 h74 h75 h76 (by omega) hod bdy (by omega)) h69 rfl rfl rfl (Nat.le_of_ble_eq_true rfl) (by decide) (by decide) rfl (fun h1077 q1076 => ?_)
                obtain ⟨od11075, f1078, f1079, f1080, f1081, f1082, f1083, f1084, f1085, k1086, p1087⟩ := q1076
                have f1088 := rng_at k1086 (by decide) h0
                have f1089 := rng_at k1086 (by decide) h87
                subst hQF
                have eS : (spMove n (nI t0) (nI p0) (nI d0) (nI s0) (nI k0)) = (nI n) := by unfold spMove; (repeat' split) <;> first | (exfalso; omega) | rfl | contradiction
                have ok9 : 0 ≤ (spMove n (nI t0) (nI p0) (nI d0) (nI s0) (nI k0)).toInt := by rw [eS, nI_toInt (by omega)]; omega
                exact aw_iret rfl dX8_move_94 (by decide) (by decide) ⟨by rw [eS], _, _, by rw [spN_y ok9]; exact f1078, by rw [spUn_y ok9, nn_t0]; exact f1079, by rw [spUn_y ok9, nn_p0]; exact f1080, by rw [spUn_y ok9, nn_d0]; exact f1081, by rw [spUn_y ok9, nn_s0]; exact f1082, by rw [spUn_y ok9, nn_k0]; exact f1083, by rw [spUn_y ok9]; exact f1084, f1085, f1089, rg2_tr (rg2_rf 69 76 87 87 h) (rg2_w k1086 (by decide)), by rw [spUn_y ok9, spN_y ok9, nn_d0]; exact p1087⟩
              · have d70 := mt (nv_lt (a := n) (b := 60) (rfl) (rfl) (by omega) (by omega)).mpr c70
                refine aw_aload_n 1 dX8_move_73 rfl rfl ?_
                refine aw_bipush (-6) dX8_move_74 (by decide) ?_
                refine aw_eV [.int (-6)] [] lX8_70 vX8_refuse mX8_refuse dX8_move_76 (bX8_refuse (jv := jv) (bv := bv) (rf := rf) (x := (-6)) (q := 6) h0 h87 (by decide) (by decide)) h0 rfl rfl rfl (Nat.le_of_ble_eq_true rfl) (by decide) (by decide) rfl (fun h1092 q1091 => ?_)
                obtain ⟨rf11090, f1093, k1094⟩ := q1091
                have f1095 := rng_at k1094 (by decide) h0
                have f1096 := rng_at k1094 (by decide) h69
                have f1097 := rng_at k1094 (by decide) h70
                have f1098 := rng_at k1094 (by decide) h71
                have f1099 := rng_at k1094 (by decide) h72
                have f1100 := rng_at k1094 (by decide) h73
                have f1101 := rng_at k1094 (by decide) h74
                have f1102 := rng_at k1094 (by decide) h75
                have f1103 := rng_at k1094 (by decide) h76
                subst hQF
                have eS : (spMove n t p d s k) = (-6) := by unfold spMove; (repeat' split) <;> first | (exfalso; omega) | rfl | contradiction
                have ok9 : ¬ 0 ≤ (spMove n t p d s k).toInt := by rw [eS]; decide
                exact aw_iret rfl dX8_move_79 (by decide) (by decide) ⟨by rw [eS], _, _, by rw [spN_n ok9]; exact f1096, by rw [spUn_n ok9]; exact f1097, by rw [spUn_n ok9]; exact f1098, by rw [spUn_n ok9]; exact f1099, by rw [spUn_n ok9]; exact f1100, by rw [spUn_n ok9]; exact f1101, by rw [spUn_n ok9]; exact f1102, f1103, f1093, rg2_tr (rg2_rf 69 76 87 87 h) (rg2_w k1094 (by decide)), by rw [spUn_n ok9, spN_n ok9]; exact hod⟩
            · have d51 := mt (j_eq (a := (dyF d k).toInt) (b := (0)) (rfl) (rfl)).mpr c51
              refine aw_aload_n 1 dX8_move_54 rfl rfl ?_
              refine aw_iload 0 dX8_move_55 rfl ?_
              obtain ⟨q1104, bq1104, eq1104⟩ := Or.resolve_left (dyF_q d k) (by assumption)
              refine aw_eV [.int (dyF d k)] [] lX8_70 vX8_refuse mX8_refuse dX8_move_57 (bX8_refuse (jv := jv) (bv := bv) (rf := rf) (x := (dyF d k)) (q := q1104) h0 h87 bq1104 eq1104) h0 rfl rfl rfl (Nat.le_of_ble_eq_true rfl) (by decide) (by decide) rfl (fun h1107 q1106 => ?_)
              obtain ⟨rf11105, f1108, k1109⟩ := q1106
              have f1110 := rng_at k1109 (by decide) h0
              have f1111 := rng_at k1109 (by decide) h69
              have f1112 := rng_at k1109 (by decide) h70
              have f1113 := rng_at k1109 (by decide) h71
              have f1114 := rng_at k1109 (by decide) h72
              have f1115 := rng_at k1109 (by decide) h73
              have f1116 := rng_at k1109 (by decide) h74
              have f1117 := rng_at k1109 (by decide) h75
              have f1118 := rng_at k1109 (by decide) h76
              subst hQF
              have eS : (spMove n t p d s k) = (dyF d k) := by unfold spMove; rw [if_neg (by omega), if_neg (by omega), if_pos (by assumption)]
              have ok9 : ¬ 0 ≤ (spMove n t p d s k).toInt := by rw [eS]; have q := dyF_neg (d := d) (k := k) (by assumption); omega
              exact aw_iret rfl dX8_move_60 (by decide) (by decide) ⟨by rw [eS], _, _, by rw [spN_n ok9]; exact f1111, by rw [spUn_n ok9]; exact f1112, by rw [spUn_n ok9]; exact f1113, by rw [spUn_n ok9]; exact f1114, by rw [spUn_n ok9]; exact f1115, by rw [spUn_n ok9]; exact f1116, by rw [spUn_n ok9]; exact f1117, f1118, f1108, rg2_tr (rg2_rf 69 76 87 87 h) (rg2_w k1109 (by decide)), by rw [spUn_n ok9, spN_n ok9]; exact hod⟩
          · have d31 := mt (j_le (a := s.toInt) (b := (4)) (rfl) (rfl)).mpr c31
            refine aw_aload_n 0 dX8_move_34 rfl rfl ?_
            refine aw_bipush (-2) dX8_move_35 (by decide) ?_
            refine aw_eV [.int (-2)] [] lX8_70 vX8_refuse mX8_refuse dX8_move_37 (bX8_refuse (jv := jv) (bv := bv) (rf := rf) (x := (-2)) (q := 2) h0 h87 (by decide) (by decide)) h0 rfl rfl rfl (Nat.le_of_ble_eq_true rfl) (by decide) (by decide) rfl (fun h1121 q1120 => ?_)
            obtain ⟨rf11119, f1122, k1123⟩ := q1120
            have f1124 := rng_at k1123 (by decide) h0
            have f1125 := rng_at k1123 (by decide) h69
            have f1126 := rng_at k1123 (by decide) h70
            have f1127 := rng_at k1123 (by decide) h71
            have f1128 := rng_at k1123 (by decide) h72
            have f1129 := rng_at k1123 (by decide) h73
            have f1130 := rng_at k1123 (by decide) h74
            have f1131 := rng_at k1123 (by decide) h75
            have f1132 := rng_at k1123 (by decide) h76
            subst hQF
            have eS : (spMove n t p d s k) = (-2) := by unfold spMove; (repeat' split) <;> first | (exfalso; omega) | rfl | contradiction
            have ok9 : ¬ 0 ≤ (spMove n t p d s k).toInt := by rw [eS]; decide
            exact aw_iret rfl dX8_move_40 (by decide) (by decide) ⟨by rw [eS], _, _, by rw [spN_n ok9]; exact f1125, by rw [spUn_n ok9]; exact f1126, by rw [spUn_n ok9]; exact f1127, by rw [spUn_n ok9]; exact f1128, by rw [spUn_n ok9]; exact f1129, by rw [spUn_n ok9]; exact f1130, by rw [spUn_n ok9]; exact f1131, f1132, f1122, rg2_tr (rg2_rf 69 76 87 87 h) (rg2_w k1123 (by decide)), by rw [spUn_n ok9, spN_n ok9]; exact hod⟩
      · have d14 := mt (j_lt (a := p.toInt) (b := (8)) (rfl) (rfl)).mpr c14
        refine aw_aload_n 0 dX8_move_17 rfl rfl ?_
        refine aw_iconst (-1) dX8_move_18 (by decide) ?_
        refine aw_eV [.int (-1)] [] lX8_70 vX8_refuse mX8_refuse dX8_move_19 (bX8_refuse (jv := jv) (bv := bv) (rf := rf) (x := (-1)) (q := 1) h0 h87 (by decide) (by decide)) h0 rfl rfl rfl (Nat.le_of_ble_eq_true rfl) (by decide) (by decide) rfl (fun h1135 q1134 => ?_)
        obtain ⟨rf11133, f1136, k1137⟩ := q1134
        have f1138 := rng_at k1137 (by decide) h0
        have f1139 := rng_at k1137 (by decide) h69
        have f1140 := rng_at k1137 (by decide) h70
        have f1141 := rng_at k1137 (by decide) h71
        have f1142 := rng_at k1137 (by decide) h72
        have f1143 := rng_at k1137 (by decide) h73
        have f1144 := rng_at k1137 (by decide) h74
        have f1145 := rng_at k1137 (by decide) h75
        have f1146 := rng_at k1137 (by decide) h76
        subst hQF
        have eS : (spMove n t p d s k) = (-1) := by unfold spMove; (repeat' split) <;> first | (exfalso; omega) | rfl | contradiction
        have ok9 : ¬ 0 ≤ (spMove n t p d s k).toInt := by rw [eS]; decide
        exact aw_iret rfl dX8_move_22 (by decide) (by decide) ⟨by rw [eS], _, _, by rw [spN_n ok9]; exact f1139, by rw [spUn_n ok9]; exact f1140, by rw [spUn_n ok9]; exact f1141, by rw [spUn_n ok9]; exact f1142, by rw [spUn_n ok9]; exact f1143, by rw [spUn_n ok9]; exact f1144, by rw [spUn_n ok9]; exact f1145, f1146, f1136, rg2_tr (rg2_rf 69 76 87 87 h) (rg2_w k1137 (by decide)), by rw [spUn_n ok9, spN_n ok9]; exact hod⟩
