set_option maxHeartbeats 4000000 in
theorem bX9_isSure {l : Launch} {G : xG} {h : List va_E} {sp fa nb ns nm nv sh : Nat} {ho ow sl : Int32} {m ye b1 b2 : Nat → Nat} {W Z Ro Co : Nat → Int32} {fi : Nat → Nat} {lk su jd wy : Nat → Int32} {a b i : Nat} (h88 : h[88]? = some (oB 9 (lM G (nI sp) (nI fa) (nI nb) (nI ns) (nI nm) ho ow sl (nI nv) (nI sh)))) (h90 : h[90]? = some (aI 20 (nA m))) (h91 : h[91]? = some (aI 4 (nA ye))) (h93 : h[93]? = some (aI 40 W)) (h94 : h[94]? = some (aI 40 Z)) (h95 : h[95]? = some (aI 40 Ro)) (h96 : h[96]? = some (aI 40 Co)) (h97 : h[97]? = some (aI 30 (nA b1))) (h98 : h[98]? = some (aI 30 (nA b2))) (h92 : h[92]? = some (aI 4 (nA fi))) (h99 : h[99]? = some (aI 100 lk)) (h100 : h[100]? = some (aI 11264 su)) (h101 : h[101]? = some (aI 10 jd)) (h102 : h[102]? = some (aI 11264 wy)) (hm : ∀ j, j < 20 → m j ≤ j) (hye : ∀ j, j < 4 → ye j < 1901) (hnb : nb ≤ 30) (bb1 : ∀ j, j < 30 → b1 j < 40) (bb2 : ∀ j, j < 30 → b2 j < 40) (hsp : sp ≤ 50) (hfd : fa ≤ 9) (hfi : ∀ j, j < 4 → fi j < 11) (ba : a < 4) (bb : b < 4) (hjd : pB jd) (bi : i < 10) : CU l G yX9_isSure cX9_isSure 6 (some .boolean) 5 0 0 [.ref (G.1 + 88), .int (nI a), .int (nI i), .int (nI b)] h (fun r h1 => ∃ lk1 : Nat → Int32, ∃ su1 : Nat → Int32, ∃ jd1 : Nat → Int32, ∃ wy1 : Nat → Int32, h1[99]? = some (aI 100 lk1) ∧ h1[100]? = some (aI 11264 su1) ∧ h1[101]? = some (aI 10 jd1) ∧ h1[102]? = some (aI 11264 wy1) ∧ rng 99 102 h h1 ∧ pB jd1 ∧ True) := by
  refine cm_ofQ rfl (Nat.le_of_ble_eq_true rfl) [(0, .ref (G.1 + 88)), (1, .int (nI a)), (2, .int (nI i)), (3, .int (nI b))] rfl (fun QF hQF => ?_)
  have fa0 := hfi a ba
  have fb0 := hfi b bb
  refine aw_aload_n 0 dX9_isSure_0 rfl rfl ?_
  refine aw_iload_n 1 dX9_isSure_1 rfl rfl ?_
  refine aw_iload_n 3 dX9_isSure_2 rfl rfl ?_
  refine aw_uV [.int (nI a), .int (nI b)] [] lX9_187 vX9_joins mX9_joins dX9_isSure_3 (bX9_joins (sp := sp) (fa := fa) (nb := nb) (ns := ns) (nm := nm) (nv := nv) (sh := sh) (ho := ho) (ow := ow) (sl := sl) (m := m) (ye := ye) (b1 := b1) (b2 := b2) (W := W) (Z := Z) (Ro := Ro) (Co := Co) (fi := fi) (lk := lk) (su := su) (jd := jd) (wy := wy) (a := a) (b := b) h88 h90 h91 h93 h94 h95 h96 h97 h98 h92 h99 h100 h101 h102 hm hye (by omega) bb1 bb2 (by omega) (by omega) hfi (by omega) (by omega) (by omega)) h88 rfl rfl rfl (Nat.le_of_ble_eq_true rfl) (by decide) (by decide) rfl (fun r1834 h1835 q1833 => ?_)
  obtain ⟨lk11829, su11830, jd11831, wy11832, f1836, f1837, f1838, f1839, k1840, p1841, u1842⟩ := q1833
  have f1843 := rng_at k1840 (by decide) h88
  have f1844 := rng_at k1840 (by decide) h90
  have f1845 := rng_at k1840 (by decide) h91
  have f1846 := rng_at k1840 (by decide) h93
  have f1847 := rng_at k1840 (by decide) h94
  have f1848 := rng_at k1840 (by decide) h95
  have f1849 := rng_at k1840 (by decide) h96
  have f1850 := rng_at k1840 (by decide) h97
  have f1851 := rng_at k1840 (by decide) h98
  have f1852 := rng_at k1840 (by decide) h92
  refine aw_istore [(4, .int r1834), (0, .ref (G.1 + 88)), (1, .int (nI a)), (2, .int (nI i)), (3, .int (nI b))] dX9_isSure_6 (by decide) rfl ?_
  refine aw_aload_n 1 dX9_isSure_8 rfl rfl ?_
  refine aw_get fX9_53 dX9_isSure_9 f1843 rfl ?_
  refine aw_iload_n 3 dX9_isSure_12 rfl rfl ?_
  refine aw_iald i (rfl) (by omega) (by decide) dX9_isSure_13 f1838 ?_
  refine aw_istore [(5, .int (jd11831 i)), (4, .int r1834), (0, .ref (G.1 + 88)), (1, .int (nI a)), (2, .int (nI i)), (3, .int (nI b))] dX9_isSure_14 (by decide) rfl ?_
  refine aw_iload 0 dX9_isSure_16 rfl ?_
  refine aw_if_ge 23 dX9_isSure_18 (by decide) (fun c18 => ?_) (fun c18 => ?_)
  · have d18 := (j_le (a := (0)) (b := (jd11831 i).toInt) (rfl) (rfl)).mp c18
    obtain ⟨q, bq, eq⟩ := pB_g p1841 (show i < 10 by omega) (by omega)
    rw [eq]
    refine aw_aload_n 2 dX9_isSure_23 rfl rfl ?_
    refine aw_get fX9_47 dX9_isSure_24 f1843 rfl ?_
    refine aw_bipush (10) dX9_isSure_27 (by decide) ?_
    refine aw_iload_n 4 dX9_isSure_29 rfl rfl ?_
    refine aw_imul dX9_isSure_30 ?_
    refine aw_toe (nI (10 * i)) (nv_mul (rfl) (rfl)) ?_
    refine aw_iload 0 dX9_isSure_31 rfl ?_
    refine aw_iadd dX9_isSure_33 ?_
    refine aw_toe (nI ((10 * i) + q)) (nv_add (rfl) (rfl)) ?_
    refine aw_iconst (0) dX9_isSure_34 (by decide) ?_
    refine aw_iast ((10 * i) + q) (rfl) (by omega) (by decide) dX9_isSure_35 f1836 ?_
    refine aw_aload_n 2 dX9_isSure_36 rfl rfl ?_
    refine aw_aload_n 2 dX9_isSure_37 rfl rfl ?_
    refine aw_get fX9_19 dX9_isSure_38 (gn (by decide) (f1843)) rfl ?_
    refine aw_iload_n 3 dX9_isSure_41 rfl rfl ?_
    refine aw_iald a (rfl) (by omega) (by decide) dX9_isSure_42 (gn (by decide) (f1852)) ?_
    refine aw_toe (nI (fi a)) (rfl) ?_
    refine aw_aload_n 2 dX9_isSure_43 rfl rfl ?_
    refine aw_get fX9_19 dX9_isSure_44 (gn (by decide) (f1843)) rfl ?_
    refine aw_iload_n 5 dX9_isSure_47 rfl rfl ?_
    refine aw_iald b (rfl) (by omega) (by decide) dX9_isSure_48 (gn (by decide) (f1852)) ?_
    refine aw_toe (nI (fi b)) (rfl) ?_
    refine aw_uV [.int (nI (fi a)), .int (nI (fi b))] [] lX9_181 vX9_finds mX9_finds dX9_isSure_49 (bX9_finds (sp := sp) (fa := fa) (nb := nb) (ns := ns) (nm := nm) (nv := nv) (sh := sh) (ho := ho) (ow := ow) (sl := sl) (lk := upd lk11829 ((10 * i) + q) 0) (su := su11830) (wy := wy11832) (n := fi a) (m := fi b) (gn (by decide) (f1843)) (gs f1836) (gn (by decide) (f1837)) (gn (by decide) (f1839)) (by omega) (by omega)) (gn (by decide) (f1843)) rfl rfl rfl (Nat.le_of_ble_eq_true rfl) (by decide) (by decide) rfl (fun r1856 h1857 q1855 => ?_)
    obtain ⟨su11853, wy11854, f1858, f1859, k1860, u1861⟩ := q1855
    have f1862 := rg2_at k1860 (by decide) (gs f1836)
    have f1863 := rg2_at k1860 (by decide) (gn (by decide) (f1838))
    have f1864 := rg2_at k1860 (by decide) (gn (by decide) (f1843))
    have f1865 := rg2_at k1860 (by decide) (gn (by decide) (f1844))
    have f1866 := rg2_at k1860 (by decide) (gn (by decide) (f1845))
    have f1867 := rg2_at k1860 (by decide) (gn (by decide) (f1846))
    have f1868 := rg2_at k1860 (by decide) (gn (by decide) (f1847))
    have f1869 := rg2_at k1860 (by decide) (gn (by decide) (f1848))
    have f1870 := rg2_at k1860 (by decide) (gn (by decide) (f1849))
    have f1871 := rg2_at k1860 (by decide) (gn (by decide) (f1850))
    have f1872 := rg2_at k1860 (by decide) (gn (by decide) (f1851))
    have f1873 := rg2_at k1860 (by decide) (gn (by decide) (f1852))
    refine aw_iload 1 dX9_isSure_52 rfl ?_
    refine aw_icmp_ge 61 dX9_isSure_54 (by decide) (fun c54 => ?_) (fun c54 => ?_)
    · have d54 := (j_le (a := r1834.toInt) (b := r1856.toInt) (rfl) (rfl)).mp c54
      refine aw_iconst (0) dX9_isSure_61 (by decide) ?_
      subst hQF
      exact aw_zret rfl rfl dX9_isSure_62 (by decide) (by decide) ⟨_, rfl, _, _, _, _, f1862, f1858, f1863, f1859, rng_tr (rng_set (rng_tr (rng_rf 99 102 h) (rng_w k1840 (by decide) (by decide))) (by decide) (by decide)) (rng_w2 k1860 (by decide) (by decide)), p1841, trivial⟩
    · have d54 := mt (j_le (a := r1834.toInt) (b := r1856.toInt) (rfl) (rfl)).mpr c54
      refine aw_iconst (1) dX9_isSure_57 (by decide) ?_
      refine aw_goto 62 dX9_isSure_58 (by decide) ?_
      subst hQF
      exact aw_zret rfl rfl dX9_isSure_62 (by decide) (by decide) ⟨_, rfl, _, _, _, _, f1862, f1858, f1863, f1859, rng_tr (rng_set (rng_tr (rng_rf 99 102 h) (rng_w k1840 (by decide) (by decide))) (by decide) (by decide)) (rng_w2 k1860 (by decide) (by decide)), p1841, trivial⟩
  · have d18 := mt (j_le (a := (0)) (b := (jd11831 i).toInt) (rfl) (rfl)).mpr c18
    refine aw_iconst (0) dX9_isSure_21 (by decide) ?_
    subst hQF
    exact aw_zret rfl rfl dX9_isSure_22 (by decide) (by decide) ⟨_, rfl, _, _, _, _, f1836, f1837, f1838, f1839, rng_tr (rng_rf 99 102 h) (rng_w k1840 (by decide) (by decide)), p1841, trivial⟩
