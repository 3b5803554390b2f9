set_option maxHeartbeats 4000000 in
theorem bX9_isSure {l : Launch} {G : xG} {h : List va_E} {sp fa nb ns nm nv sh : Nat} {ho ow sl : Int32} {m ye b1 b2 : Nat → Nat} {W Z Ro Co : Nat → Int32} {fi : Nat → Nat} {lk su jd wy : Nat → Int32} {a b i : Nat} {lx : Nat → Nat → Nat} (h88 : h[88]? = some (oB 9 (lM G (nI sp) (nI fa) (nI nb) (nI ns) (nI nm) ho ow sl (nI nv) (nI sh)))) (h90 : h[90]? = some (aI 20 (nA m))) (h91 : h[91]? = some (aI 4 (nA ye))) (h93 : h[93]? = some (aI 40 W)) (h94 : h[94]? = some (aI 40 Z)) (h95 : h[95]? = some (aI 40 Ro)) (h96 : h[96]? = some (aI 40 Co)) (h97 : h[97]? = some (aI 30 (nA b1))) (h98 : h[98]? = some (aI 30 (nA b2))) (h92 : h[92]? = some (aI 4 (nA fi))) (h99 : h[99]? = some (aI 100 lk)) (h100 : h[100]? = some (aI 11264 su)) (h101 : h[101]? = some (aI 10 jd)) (h102 : h[102]? = some (aI 11264 wy)) (hm : ∀ j, j < 20 → m j ≤ j) (hye : ∀ j, j < 4 → ye j < 1901) (hnb : nb ≤ 30) (bb1 : ∀ j, j < 30 → b1 j < 40) (bb2 : ∀ j, j < 30 → b2 j < 40) (hsp : sp ≤ 50) (hfd : fa ≤ 9) (hfi : ∀ j, j < 4 → fi j < 11) (ba : a < 4) (bb : b < 4) (hjd : pB jd) (bi : i < 10) (bia : i < fi a) (hlx : ∀ i, i < fi a → ∀ k, k < fi b → (lkS ye (fun j => snF (root m) (W j) 20) Z Ro Co (brF b1 b2 (a * 10 + i) (b * 10 + k) nb = true) sp fa a i b k) = nI (lx i k)) (hlx3 : ∀ i k, lx i k ≤ 300) : CE l G yX9_isSure cX9_isSure 6 (some .boolean) 5 0 0 [.ref (G.1 + 88), .int (nI a), .int (nI i), .int (nI b)] h (some (.int (if jU lx (fi b) (fi a) i then 1 else 0))) (fun h1 => ∃ lk1 : Nat → Int32, ∃ su1 : Nat → Int32, ∃ jd1 : Nat → Int32, ∃ wy1 : Nat → Int32, h1[99]? = some (aI 100 lk1) ∧ h1[100]? = some (aI 11264 su1) ∧ h1[101]? = some (aI 10 jd1) ∧ h1[102]? = some (aI 11264 wy1) ∧ rng 99 102 h h1 ∧ pB jd1 ∧ (∀ j, j < fi a → jd1 j = jP lx (fi b) (fi a) j)) := by
  refine cm_ofQ rfl (Nat.le_of_ble_eq_true rfl) [(0, .ref (G.1 + 88)), (1, .int (nI a)), (2, .int (nI i)), (3, .int (nI b))] rfl (fun QF hQF => ?_)
  have fa0 := hfi a ba
  have fb0 := hfi b bb
  refine aw_aload_n 0 dX9_isSure_0 rfl rfl ?_
  refine aw_iload_n 1 dX9_isSure_1 rfl rfl ?_
  refine aw_iload_n 3 dX9_isSure_2 rfl rfl ?_
  refine aw_eV [.int (nI a), .int (nI b)] [] lX9_187 vX9_joins mX9_joins dX9_isSure_3 (bX9_joins (sp := sp) (fa := fa) (nb := nb) (ns := ns) (nm := nm) (nv := nv) (sh := sh) (ho := ho) (ow := ow) (sl := sl) (m := m) (ye := ye) (b1 := b1) (b2 := b2) (W := W) (Z := Z) (Ro := Ro) (Co := Co) (fi := fi) (lk := lk) (su := su) (jd := jd) (wy := wy) (a := a) (b := b) h88 h90 h91 h93 h94 h95 h96 h97 h98 h92 h99 h100 h101 h102 hm hye (by omega) bb1 bb2 (by omega) (by omega) hfi (by omega) (by omega) (by omega) hlx hlx3) h88 rfl rfl rfl (Nat.le_of_ble_eq_true rfl) (by decide) (by decide) rfl (fun h1824 q1823 => ?_)
  obtain ⟨lk11819, su11820, jd11821, wy11822, f1825, f1826, f1827, f1828, k1829, p1830, p1831, p1832, p1833⟩ := q1823
  have f1834 := rng_at k1829 (by decide) h88
  have f1835 := rng_at k1829 (by decide) h90
  have f1836 := rng_at k1829 (by decide) h91
  have f1837 := rng_at k1829 (by decide) h93
  have f1838 := rng_at k1829 (by decide) h94
  have f1839 := rng_at k1829 (by decide) h95
  have f1840 := rng_at k1829 (by decide) h96
  have f1841 := rng_at k1829 (by decide) h97
  have f1842 := rng_at k1829 (by decide) h98
  have f1843 := rng_at k1829 (by decide) h92
  refine aw_istore [(4, .int (nI (jS lx (fi b) (fi a) 0 0))), (0, .ref (G.1 + 88)), (1, .int (nI a)), (2, .int (nI i)), (3, .int (nI b))] dX9_isSure_6 (by decide) rfl ?_
  refine aw_aload_n 1 dX9_isSure_8 rfl rfl ?_
  refine aw_get fX9_53 dX9_isSure_9 f1834 rfl ?_
  refine aw_iload_n 3 dX9_isSure_12 rfl rfl ?_
  refine aw_iald i (rfl) (by omega) (by decide) dX9_isSure_13 f1827 ?_
  refine aw_istore [(5, .int (jd11821 i)), (4, .int (nI (jS lx (fi b) (fi a) 0 0))), (0, .ref (G.1 + 88)), (1, .int (nI a)), (2, .int (nI i)), (3, .int (nI b))] dX9_isSure_14 (by decide) rfl ?_
  refine aw_iload 0 dX9_isSure_16 rfl ?_
  refine aw_if_ge 23 dX9_isSure_18 (by decide) (fun c18 => ?_) (fun c18 => ?_)
  · have d18 := (j_le (a := (0)) (b := (jd11821 i).toInt) (rfl) (rfl)).mp c18
    obtain ⟨q, bq, eq⟩ := pB_g p1830 (show i < 10 by omega) (by omega)
    have EJ : jP lx (fi b) (fi a) i = nI q := (p1831 i bia).symm.trans eq
    have hLz := jL_z (i := i) (q := q) p1832 (by omega) bq
    rw [eq]
    have bz1 := jS_le (m := fi b) hlx3 (fi a) 0 0
    have bz2 := jS_le (m := fi b) (lz_le (i := i) (q := q) hlx3) (fi a) 0 0
    refine aw_aload_n 2 dX9_isSure_23 rfl rfl ?_
    refine aw_get fX9_47 dX9_isSure_24 f1834 rfl ?_
    refine aw_bipush (10) dX9_isSure_27 (by decide) ?_
    refine aw_iload_n 4 dX9_isSure_29 rfl rfl ?_
    refine aw_imul dX9_isSure_30 ?_
    refine aw_toe (nI (i * 10)) (by rw [Nat.mul_comm i 10]; exact nv_mul (rfl) (rfl)) ?_
    refine aw_iload 0 dX9_isSure_31 rfl ?_
    refine aw_iadd dX9_isSure_33 ?_
    refine aw_toe (nI ((i * 10) + q)) (nv_add (rfl) (rfl)) ?_
    refine aw_iconst (0) dX9_isSure_34 (by decide) ?_
    refine aw_iast ((i * 10) + q) (rfl) (by omega) (by decide) dX9_isSure_35 f1825 ?_
    refine aw_aload_n 2 dX9_isSure_36 rfl rfl ?_
    refine aw_aload_n 2 dX9_isSure_37 rfl rfl ?_
    refine aw_get fX9_19 dX9_isSure_38 (gn (by decide) (f1834)) rfl ?_
    refine aw_iload_n 3 dX9_isSure_41 rfl rfl ?_
    refine aw_iald a (rfl) (by omega) (by decide) dX9_isSure_42 (gn (by decide) (f1843)) ?_
    refine aw_toe (nI (fi a)) (rfl) ?_
    refine aw_aload_n 2 dX9_isSure_43 rfl rfl ?_
    refine aw_get fX9_19 dX9_isSure_44 (gn (by decide) (f1834)) rfl ?_
    refine aw_iload_n 5 dX9_isSure_47 rfl rfl ?_
    refine aw_iald b (rfl) (by omega) (by decide) dX9_isSure_48 (gn (by decide) (f1843)) ?_
    refine aw_toe (nI (fi b)) (rfl) ?_
    refine aw_eV [.int (nI (fi a)), .int (nI (fi b))] [] lX9_181 vX9_finds mX9_finds dX9_isSure_49 (bX9_finds (sp := sp) (fa := fa) (nb := nb) (ns := ns) (nm := nm) (nv := nv) (sh := sh) (ho := ho) (ow := ow) (sl := sl) (lk := upd lk11819 ((i * 10) + q) 0) (su := su11820) (wy := wy11822) (n := fi a) (m := fi b) (lx := lz lx i q) (gn (by decide) (f1834)) (gs f1825) (gn (by decide) (f1826)) (gn (by decide) (f1828)) (by omega) (by omega) hLz (lz_le hlx3)) (gn (by decide) (f1834)) rfl rfl rfl (Nat.le_of_ble_eq_true rfl) (by decide) (by decide) rfl (fun h1847 q1846 => ?_)
    obtain ⟨su11844, wy11845, f1848, f1849, k1850, p1851, p1852⟩ := q1846
    have f1853 := rg2_at k1850 (by decide) (gs f1825)
    have f1854 := rg2_at k1850 (by decide) (gn (by decide) (f1827))
    have f1855 := rg2_at k1850 (by decide) (gn (by decide) (f1834))
    have f1856 := rg2_at k1850 (by decide) (gn (by decide) (f1835))
    have f1857 := rg2_at k1850 (by decide) (gn (by decide) (f1836))
    have f1858 := rg2_at k1850 (by decide) (gn (by decide) (f1837))
    have f1859 := rg2_at k1850 (by decide) (gn (by decide) (f1838))
    have f1860 := rg2_at k1850 (by decide) (gn (by decide) (f1839))
    have f1861 := rg2_at k1850 (by decide) (gn (by decide) (f1840))
    have f1862 := rg2_at k1850 (by decide) (gn (by decide) (f1841))
    have f1863 := rg2_at k1850 (by decide) (gn (by decide) (f1842))
    have f1864 := rg2_at k1850 (by decide) (gn (by decide) (f1843))
    refine aw_iload 1 dX9_isSure_52 rfl ?_
    refine aw_icmp_ge 61 dX9_isSure_54 (by decide) (fun c54 => ?_) (fun c54 => ?_)
    · have d54 := (nv_le (a := jS lx (fi b) (fi a) 0 0) (b := jS (lz lx i q) (fi b) (fi a) 0 0) (rfl) (rfl) (by omega) (by omega)).mp c54
      refine aw_iconst (0) dX9_isSure_61 (by decide) ?_
      subst hQF
      exact aw_zret rfl rfl dX9_isSure_62 (by decide) (by decide) ⟨by rw [if_neg (fun q9 => by have h9 := q9.2; rw [EJ, jn_nI (by omega)] at h9; omega)], _, _, _, _, f1853, f1848, f1854, f1849, rng_tr (rng_set (rng_tr (rng_rf 99 102 h) (rng_w k1829 (by decide) (by decide))) (by decide) (by decide)) (rng_w2 k1850 (by decide) (by decide)), p1830, p1831⟩
    · have d54 := mt (nv_le (a := jS lx (fi b) (fi a) 0 0) (b := jS (lz lx i q) (fi b) (fi a) 0 0) (rfl) (rfl) (by omega) (by omega)).mpr c54
      refine aw_iconst (1) dX9_isSure_57 (by decide) ?_
      refine aw_goto 62 dX9_isSure_58 (by decide) ?_
      subst hQF
      exact aw_zret rfl rfl dX9_isSure_62 (by decide) (by decide) ⟨by rw [if_pos ⟨by rw [EJ]; exact nI_9 (by omega), by rw [EJ, jn_nI (by omega)]; omega⟩], _, _, _, _, f1853, f1848, f1854, f1849, rng_tr (rng_set (rng_tr (rng_rf 99 102 h) (rng_w k1829 (by decide) (by decide))) (by decide) (by decide)) (rng_w2 k1850 (by decide) (by decide)), p1830, p1831⟩
  · have d18 := mt (j_le (a := (0)) (b := (jd11821 i).toInt) (rfl) (rfl)).mpr c18
    refine aw_iconst (0) dX9_isSure_21 (by decide) ?_
    subst hQF
    exact aw_zret rfl rfl dX9_isSure_22 (by decide) (by decide) ⟨by rw [if_neg (fun q9 => q9.1 ((p1831 i bia).symm.trans (pB_9 p1830 (by omega) (by omega))))], _, _, _, _, f1825, f1826, f1827, f1828, rng_tr (rng_rf 99 102 h) (rng_w k1829 (by decide) (by decide)), p1830, p1831⟩
