set_option maxHeartbeats 4000000 in
theorem oX8_since {l : Launch} {G : xG} {h : List va_E} {jv bv : Value} {rf : Nat → Int32} {th ot dy so kn go od : Nat → Nat} {n : Nat} {wd : Int32} {l0 o0 w0 z0 : Int32} {LE0 : Nat → Int32} {t d k : Int32} (h0 : h[0]? = some (oB 8 (lX G (jv) (bv)))) (h87 : h[87]? = some (aI 7 rf)) (h77 : h[77]? = some (oB 2 (lH G l0 o0 w0 z0))) (h78 : h[78]? = some (aI 60 LE0)) (h69 : h[69]? = some (oB 5 (lR G 69 (nI n) wd))) (h70 : h[70]? = some (aI 60 (nA th))) (h71 : h[71]? = some (aI 60 (nA ot))) (h72 : h[72]? = some (aI 60 (nA dy))) (h73 : h[73]? = some (aI 60 (nA so))) (h74 : h[74]? = some (aI 60 (nA kn))) (h75 : h[75]? = some (aI 60 (nA go))) (h76 : h[76]? = some (aI 60 (nA od))) (hn : n ≤ 60) (hod : srt dy od n) (bth : ∀ j, j < 60 → th j < 12) (bkn : ∀ j, j < 60 → kn j ≤ 80000) (bgo : ∀ j, j < 60 → go j ≤ 80001) (bdy : ∀ j, j < 60 → dy j ≤ 80000) (bso : ∀ j, j < 60 → so j < 5) : CE l G yX8_since cX8_since 5 (some .int) 3 0 0 [.ref (G.1 + 0), .int t, .int d, .int k] h (some (.int (if (0 ≤ t.toInt ∧ t.toInt < 12) then (if dyF d k = 0 then nI (hsF (fun x => lcF th kn go (tn t) x n) (fun x => (rpF th ot dy so kn go od (tn t) (tn d) x n).2.1) ((rpF th ot dy so kn go od (tn t) (tn d) (tn k) n).2.1) 121 (tn k)) else dyF d k) else -1))) (fun h1 => ∃ l1 : Int32, ∃ o1 : Int32, ∃ w1 : Int32, ∃ z1 : Int32, ∃ LE1 : Nat → Int32, ∃ rf1 : Nat → Int32, h1[77]? = some (oB 2 (lH G l1 o1 w1 z1)) ∧ h1[78]? = some (aI 60 LE1) ∧ h1[87]? = some (aI 7 rf1) ∧ rg2 77 78 87 87 h h1) := by
  refine cm_ofQ rfl (Nat.le_of_ble_eq_true rfl) [(0, .ref (G.1 + 0)), (1, .int t), (2, .int d), (3, .int k)] rfl (fun QF hQF => ?_)
  refine aw_iload_n 1 dX8_since_0 rfl rfl ?_
  refine aw_dS [.int t] [] lX8_154 sX8_isThing mX8_isThing dX8_since_1 (bX8_isThing (x := t) ) rfl (Nat.le_of_ble_eq_true rfl) (by decide) (by decide) rfl ?_
  refine aw_if_ne 13 dX8_since_4 (by decide) (fun c4 => ?_) (fun c4 => ?_)
  · have t4 := ite_1 c4
    refine aw_iload_n 2 dX8_since_13 rfl rfl ?_
    refine aw_iload_n 3 dX8_since_14 rfl rfl ?_
    refine aw_dS [.int d, .int k] [] lX8_157 sX8_daysRefusal mX8_daysRefusal dX8_since_15 (bX8_daysRefusal (x := d) (k := k) ) rfl (Nat.le_of_ble_eq_true rfl) (by decide) (by decide) rfl ?_
    refine aw_istore [(4, .int (dyF d k)), (0, .ref (G.1 + 0)), (1, .int t), (2, .int d), (3, .int k)] dX8_since_18 (by decide) rfl ?_
    refine aw_iload 0 dX8_since_20 rfl ?_
    refine aw_if_eq 32 dX8_since_22 (by decide) (fun c22 => ?_) (fun c22 => ?_)
    · have d22 := (j_eq (a := (dyF d k).toInt) (b := (0)) (rfl) (rfl)).mp c22
      have hdd := dyF_0 c22
      obtain ⟨t0, bb_t0, ee_t0⟩ := i_nat (x := t) (N := 12) (by omega) (by omega)
      subst ee_t0
      have tt_t0 : (nI t0).toInt = (t0 : Int) := nI_toInt (by omega)
      have nn_t0 : tn (nI t0) = t0 := tn_nI (by omega)
      obtain ⟨d0, bb_d0, ee_d0⟩ := i_nat (x := d) (N := 80001) (by omega) (by omega)
      subst ee_d0
      have tt_d0 : (nI d0).toInt = (d0 : Int) := nI_toInt (by omega)
      have nn_d0 : tn (nI d0) = d0 := tn_nI (by omega)
      obtain ⟨k0, bb_k0, ee_k0⟩ := i_nat (x := k) (N := 80001) (by omega) (by omega)
      subst ee_k0
      have tt_k0 : (nI k0).toInt = (k0 : Int) := nI_toInt (by omega)
      have nn_k0 : tn (nI k0) = k0 := tn_nI (by omega)
      refine aw_aload_n 1 dX8_since_32 rfl rfl ?_
      refine aw_get fX8_44 dX8_since_33 h0 rfl ?_
      refine aw_aload_n 1 dX8_since_36 rfl rfl ?_
      refine aw_get fX8_38 dX8_since_37 h0 rfl ?_
      refine aw_iload_n 2 dX8_since_40 rfl rfl ?_
      refine aw_iload_n 3 dX8_since_41 rfl rfl ?_
      refine aw_iload_n 4 dX8_since_42 rfl rfl ?_
      refine aw_eV [.ref (G.1 + 69), .int (nI t0), .int (nI d0), .int (nI k0)] [] lX8_197 vX2_heldSince mX2_heldSince dX8_since_43 (aX2_heldSince (th := th) (ot := ot) (dy := dy) (so := so) (kn := kn) (go := go) (od := od) (n := n) (wd := wd) (l0 := l0) (o0 := o0) (w0 := w0) (z0 := z0) (LE0 := LE0) (t := t0) (d := d0) (k := k0) h77 h78 h69 h70 h71 h72 h73 h74 h75 h76 (by omega) hod bth bkn bgo bdy bso (by omega) (by omega) (by omega)) h77 rfl rfl rfl (Nat.le_of_ble_eq_true rfl) (by decide) (by decide) rfl (fun h3903 q3902 => ?_)
      obtain ⟨l13897, o13898, w13899, z13900, LE13901, f3904, f3905, k3906⟩ := q3902
      have f3907 := rng_at k3906 (by decide) h0
      have f3908 := rng_at k3906 (by decide) h87
      have f3909 := rng_at k3906 (by decide) h69
      have f3910 := rng_at k3906 (by decide) h70
      have f3911 := rng_at k3906 (by decide) h71
      have f3912 := rng_at k3906 (by decide) h72
      have f3913 := rng_at k3906 (by decide) h73
      have f3914 := rng_at k3906 (by decide) h74
      have f3915 := rng_at k3906 (by decide) h75
      have f3916 := rng_at k3906 (by decide) h76
      subst hQF
      exact aw_iret rfl dX8_since_46 (by decide) (by decide) ⟨by rw [if_pos (by omega), if_pos c22, nn_t0, nn_d0, nn_k0], _, _, _, _, _, _, f3904, f3905, f3908, rg2_tr (rg2_rf 77 78 87 87 h) (rg2_w k3906 (by decide))⟩
    · have d22 := mt (j_eq (a := (dyF d k).toInt) (b := (0)) (rfl) (rfl)).mpr c22
      refine aw_aload_n 1 dX8_since_25 rfl rfl ?_
      refine aw_iload 0 dX8_since_26 rfl ?_
      obtain ⟨q3917, bq3917, eq3917⟩ := Or.resolve_left (dyF_q d k) (by assumption)
      refine aw_eV [.int (dyF d k)] [] lX8_70 vX8_refuse mX8_refuse dX8_since_28 (bX8_refuse (jv := jv) (bv := bv) (rf := rf) (x := (dyF d k)) (q := q3917) h0 h87 bq3917 eq3917) h0 rfl rfl rfl (Nat.le_of_ble_eq_true rfl) (by decide) (by decide) rfl (fun h3920 q3919 => ?_)
      obtain ⟨rf13918, f3921, k3922⟩ := q3919
      have f3923 := rng_at k3922 (by decide) h0
      have f3924 := rng_at k3922 (by decide) h77
      have f3925 := rng_at k3922 (by decide) h78
      have f3926 := rng_at k3922 (by decide) h69
      have f3927 := rng_at k3922 (by decide) h70
      have f3928 := rng_at k3922 (by decide) h71
      have f3929 := rng_at k3922 (by decide) h72
      have f3930 := rng_at k3922 (by decide) h73
      have f3931 := rng_at k3922 (by decide) h74
      have f3932 := rng_at k3922 (by decide) h75
      have f3933 := rng_at k3922 (by decide) h76
      subst hQF
      exact aw_iret rfl dX8_since_31 (by decide) (by decide) ⟨by rw [if_pos (by omega), if_neg c22], _, _, _, _, _, _, f3924, f3925, f3921, rg2_tr (rg2_rf 77 78 87 87 h) (rg2_w k3922 (by decide))⟩
  · have t4 := ite_0 c4
    refine aw_aload_n 0 dX8_since_7 rfl rfl ?_
    refine aw_iconst (-1) dX8_since_8 (by decide) ?_
    refine aw_eV [.int (-1)] [] lX8_70 vX8_refuse mX8_refuse dX8_since_9 (bX8_refuse (jv := jv) (bv := bv) (rf := rf) (x := (-1)) (q := 1) h0 h87 (by decide) (by decide)) h0 rfl rfl rfl (Nat.le_of_ble_eq_true rfl) (by decide) (by decide) rfl (fun h3936 q3935 => ?_)
    obtain ⟨rf13934, f3937, k3938⟩ := q3935
    have f3939 := rng_at k3938 (by decide) h0
    have f3940 := rng_at k3938 (by decide) h77
    have f3941 := rng_at k3938 (by decide) h78
    have f3942 := rng_at k3938 (by decide) h69
    have f3943 := rng_at k3938 (by decide) h70
    have f3944 := rng_at k3938 (by decide) h71
    have f3945 := rng_at k3938 (by decide) h72
    have f3946 := rng_at k3938 (by decide) h73
    have f3947 := rng_at k3938 (by decide) h74
    have f3948 := rng_at k3938 (by decide) h75
    have f3949 := rng_at k3938 (by decide) h76
    subst hQF
    exact aw_iret rfl dX8_since_12 (by decide) (by decide) ⟨by rw [if_neg (by omega)], _, _, _, _, _, _, f3940, f3941, f3937, rg2_tr (rg2_rf 77 78 87 87 h) (rg2_w k3938 (by decide))⟩
