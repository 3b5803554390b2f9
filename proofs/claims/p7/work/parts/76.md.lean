set_option maxHeartbeats 4000000 in
theorem oX9_withdraw1 {l : Launch} {G : xG} {h : List va_E} {sp fa nb ns nm nv sh : Nat} {ho ow sl : Int32} {rg : Nat → Int32} {kn go : Nat → Nat} {q k : Int32} (h88 : h[88]? = some (oB 9 (lM G (nI sp) (nI fa) (nI nb) (nI ns) (nI nm) ho ow sl (nI nv) (nI sh)))) (h89 : h[89]? = some (aI 7 rg)) (h106 : h[106]? = some (aI 60 (nA kn))) (h107 : h[107]? = some (aI 60 (nA (gM go)))) (hn : ns ≤ 60) (bkn : ∀ j, j < 60 → kn j ≤ 80000) (bgo : ∀ j, j < 60 → go j ≤ 80001) : CE l G yX9_withdraw cX9_withdraw 5 (some .int) 2 0 0 [.ref (G.1 + 88), .int 1, .int q, .int k] h (some (.int (spBack ns kn go q k))) (fun h1 => ∃ rg1 : Nat → Int32, h1[107]? = some (aI 60 (nA (gM (spUn (0 ≤ (spBack ns kn go q k).toInt) go (tn q) (tn k))))) ∧ h1[89]? = some (aI 7 rg1) ∧ rg2 89 89 107 107 h h1) := by
  refine cm_ofQ rfl (Nat.le_of_ble_eq_true rfl) [(0, .ref (G.1 + 88)), (1, .int 1), (2, .int q), (3, .int k)] rfl (fun QF hQF => ?_)
  refine aw_iload_n 2 dX9_withdraw_0 rfl rfl ?_
  refine aw_iload_n 1 dX9_withdraw_1 rfl rfl ?_
  refine aw_if_eq 12 dX9_withdraw_2 (by decide) (fun c2 => absurd c2 (by decide)) (fun c2 => ?_)
  refine aw_aload_n 0 dX9_withdraw_5 rfl rfl ?_
  refine aw_get fX9_198 dX9_withdraw_6 h88 rfl ?_
  refine aw_goto 16 dX9_withdraw_9 (by decide) ?_
  refine aw_dS [.int q, .int (nI ns)] [] lX9_126 sX9_isIn mX9_isIn dX9_withdraw_16 (bX9_isIn (x := q) (n := ns) (by omega)) rfl (Nat.le_of_ble_eq_true rfl) (by decide) (by decide) rfl ?_
  refine aw_if_ne 28 dX9_withdraw_19 (by decide) (fun c19 => ?_) (fun c19 => ?_)
  · have t19 := ite_1 c19
    refine aw_iload_n 1 dX9_withdraw_28 rfl rfl ?_
    refine aw_if_eq 41 dX9_withdraw_29 (by decide) (fun c29 => absurd c29 (by decide)) (fun c29 => ?_)
    obtain ⟨q0, bb_q0, ee_q0⟩ := i_nat (x := q) (N := ns) (by omega) (by omega)
    subst ee_q0
    have tt_q0 : (nI q0).toInt = (q0 : Int) := nI_toInt (by omega)
    have nn_q0 : tn (nI q0) = q0 := tn_nI (by omega)
    refine aw_aload_n 0 dX9_withdraw_32 rfl rfl ?_
    refine aw_get fX9_71 dX9_withdraw_33 h88 rfl ?_
    refine aw_iload_n 2 dX9_withdraw_36 rfl rfl ?_
    refine aw_iald q0 (rfl) (by omega) (by decide) dX9_withdraw_37 h107 ?_
    refine aw_toe (nI ((gM go) q0)) (rfl) ?_
    refine aw_goto 47 dX9_withdraw_38 (by decide) ?_
    have hg := gM_lt (go := go) (bgo q0 (by omega))
    have hg2 := gM_b (go := go) (bgo q0 (by omega))
    refine aw_ldc (1000000000) kX9_201 dX9_withdraw_47 ?_
    refine aw_icmp_ge 59 dX9_withdraw_49 (by decide) (fun c49 => ?_) (fun c49 => ?_)
    · have d49 := (nv_le (a := 1000000000) (b := (gM go) q0) (rfl) (rfl) (by omega) (by omega)).mp c49
      refine aw_iload_n 3 dX9_withdraw_59 rfl rfl ?_
      refine aw_iload_n 1 dX9_withdraw_60 rfl rfl ?_
      refine aw_if_eq 73 dX9_withdraw_61 (by decide) (fun c61 => absurd c61 (by decide)) (fun c61 => ?_)
      refine aw_aload_n 0 dX9_withdraw_64 rfl rfl ?_
      refine aw_get fX9_68 dX9_withdraw_65 h88 rfl ?_
      refine aw_iload_n 2 dX9_withdraw_68 rfl rfl ?_
      refine aw_iald q0 (rfl) (by omega) (by decide) dX9_withdraw_69 h106 ?_
      refine aw_toe (nI (kn q0)) (rfl) ?_
      have b1801 := bkn q0 (by omega)
      refine aw_goto 79 dX9_withdraw_70 (by decide) ?_
      have hk9 : (nI (kn q0)).toInt = (kn q0 : Int) := nI_toInt (by omega)
      refine aw_ldc (80000) kX9_194 dX9_withdraw_79 ?_
      refine aw_dS [.int k, .int (nI (kn q0)), .int 80000] [] lX9_137 sX9_wrong mX9_wrong dX9_withdraw_81 (bX9_wrong (x := k) (y := (nI (kn q0))) (z := 80000) ) rfl (Nat.le_of_ble_eq_true rfl) (by decide) (by decide) rfl ?_
      refine aw_istore [(4, .int (wrF k (nI (kn q0)) 80000)), (0, .ref (G.1 + 88)), (1, .int 1), (2, .int (nI q0)), (3, .int k)] dX9_withdraw_84 (by decide) rfl ?_
      refine aw_iload 0 dX9_withdraw_86 rfl ?_
      refine aw_if_eq 98 dX9_withdraw_88 (by decide) (fun c88 => ?_) (fun c88 => ?_)
      · have d88 := (j_eq (a := (wrF k (nI (kn q0)) 80000).toInt) (b := (0)) (rfl) (rfl)).mp c88
        have hw : (kn q0 : Int) ≤ k.toInt ∧ k.toInt ≤ 80000 := by have q9 := wrF_0 c88; rw [hk9] at q9; exact q9
        obtain ⟨k0, bb_k0, ee_k0⟩ := i_nat (x := k) (N := 80001) (by omega) (by omega)
        subst ee_k0
        have tt_k0 : (nI k0).toInt = (k0 : Int) := nI_toInt (by omega)
        have nn_k0 : tn (nI k0) = k0 := tn_nI (by omega)
        refine aw_iload_n 2 dX9_withdraw_98 rfl rfl ?_
        refine aw_if_eq 112 dX9_withdraw_99 (by decide) (fun c99 => absurd c99 (by decide)) (fun c99 => ?_)
        refine aw_aload_n 1 dX9_withdraw_102 rfl rfl ?_
        refine aw_get fX9_71 dX9_withdraw_103 h88 rfl ?_
        refine aw_iload_n 3 dX9_withdraw_106 rfl rfl ?_
        refine aw_iload_n 4 dX9_withdraw_107 rfl rfl ?_
        refine aw_iast q0 (rfl) (by omega) (by decide) dX9_withdraw_108 h107 ?_
        rw [nA_u (f := (gM go)) (i := q0) (x := (nI k0)) (v := k0) (rfl)]
        refine aw_goto 119 dX9_withdraw_109 (by decide) ?_
        refine aw_iconst (1) dX9_withdraw_119 (by decide) ?_
        subst hQF
        have eS : (spBack ns kn go (nI q0) (nI k0)) = 1 := by unfold spBack; simp only [nn_q0, nn_k0]; (repeat' split) <;> first | (exfalso; omega) | rfl
        have ok9 : 0 ≤ (spBack ns kn go (nI q0) (nI k0)).toInt := by rw [eS]; decide
        exact aw_iret rfl dX9_withdraw_120 (by decide) (by decide) ⟨by rw [eS], _, by rw [spUn_y ok9, nn_q0, nn_k0, ← gM_k (by omega)]; exact (gs h107), (gn (by decide) (h89)), rg2_set (rg2_rf 89 89 107 107 h) (by decide)⟩
      · have d88 := mt (j_eq (a := (wrF k (nI (kn q0)) 80000).toInt) (b := (0)) (rfl) (rfl)).mpr c88
        refine aw_aload_n 1 dX9_withdraw_91 rfl rfl ?_
        refine aw_iload 0 dX9_withdraw_92 rfl ?_
        obtain ⟨q1802, bq1802, eq1802⟩ := Or.resolve_left (wrF_q k (nI (kn q0)) 80000) (by assumption)
        refine aw_eV [.int (wrF k (nI (kn q0)) 80000)] [] lX9_130 vX9_refuse mX9_refuse dX9_withdraw_94 (bX9_refuse (sp := sp) (fa := fa) (nb := nb) (ns := ns) (nm := nm) (nv := nv) (sh := sh) (ho := ho) (ow := ow) (sl := sl) (rg := rg) (x := (wrF k (nI (kn q0)) 80000)) (q := q1802) h88 h89 bq1802 eq1802) h88 rfl rfl rfl (Nat.le_of_ble_eq_true rfl) (by decide) (by decide) rfl (fun h1805 q1804 => ?_)
        obtain ⟨rg11803, f1806, k1807⟩ := q1804
        have f1808 := rng_at k1807 (by decide) h88
        have f1809 := rng_at k1807 (by decide) h106
        have f1810 := rng_at k1807 (by decide) h107
        subst hQF
        have q9 := wrF_r k (nI (kn q0)) 80000 (by assumption)
        rw [hk9, k_n.2.2.2.2.2.2] at q9
        have eS : (spBack ns kn go (nI q0) k) = (wrF k (nI (kn q0)) 80000) := by unfold spBack; unfold wrF; simp only [nn_q0, hk9, k_n.2.2.2.2.2.2]; (repeat' split) <;> first | (exfalso; omega) | rfl
        have ok9 : ¬ 0 ≤ (spBack ns kn go (nI q0) k).toInt := by rw [eS]; have q9 := wrF_neg c88; omega
        exact aw_iret rfl dX9_withdraw_97 (by decide) (by decide) ⟨by rw [eS], _, by rw [spUn_n ok9]; exact f1810, f1806, rg2_tr (rg2_rf 89 89 107 107 h) (rg2_w k1807 (by decide))⟩
    · have d49 := mt (nv_le (a := 1000000000) (b := (gM go) q0) (rfl) (rfl) (by omega) (by omega)).mpr c49
      refine aw_aload_n 0 dX9_withdraw_52 rfl rfl ?_
      refine aw_bipush (-3) dX9_withdraw_53 (by decide) ?_
      refine aw_eV [.int (-3)] [] lX9_130 vX9_refuse mX9_refuse dX9_withdraw_55 (bX9_refuse (sp := sp) (fa := fa) (nb := nb) (ns := ns) (nm := nm) (nv := nv) (sh := sh) (ho := ho) (ow := ow) (sl := sl) (rg := rg) (x := (-3)) (q := 3) h88 h89 (by decide) (by decide)) h88 rfl rfl rfl (Nat.le_of_ble_eq_true rfl) (by decide) (by decide) rfl (fun h1813 q1812 => ?_)
      obtain ⟨rg11811, f1814, k1815⟩ := q1812
      have f1816 := rng_at k1815 (by decide) h88
      have f1817 := rng_at k1815 (by decide) h106
      have f1818 := rng_at k1815 (by decide) h107
      subst hQF
      have eS : (spBack ns kn go (nI q0) k) = (-3) := by unfold spBack; simp only [nn_q0]; (repeat' split) <;> first | (exfalso; omega) | rfl
      have ok9 : ¬ 0 ≤ (spBack ns kn go (nI q0) k).toInt := by rw [eS]; decide
      exact aw_iret rfl dX9_withdraw_58 (by decide) (by decide) ⟨by rw [eS], _, by rw [spUn_n ok9]; exact f1818, f1814, rg2_tr (rg2_rf 89 89 107 107 h) (rg2_w k1815 (by decide))⟩
  · have t19 := ite_0 c19
    refine aw_aload_n 0 dX9_withdraw_22 rfl rfl ?_
    refine aw_iconst (-1) dX9_withdraw_23 (by decide) ?_
    refine aw_eV [.int (-1)] [] lX9_130 vX9_refuse mX9_refuse dX9_withdraw_24 (bX9_refuse (sp := sp) (fa := fa) (nb := nb) (ns := ns) (nm := nm) (nv := nv) (sh := sh) (ho := ho) (ow := ow) (sl := sl) (rg := rg) (x := (-1)) (q := 1) h88 h89 (by decide) (by decide)) h88 rfl rfl rfl (Nat.le_of_ble_eq_true rfl) (by decide) (by decide) rfl (fun h1821 q1820 => ?_)
    obtain ⟨rg11819, f1822, k1823⟩ := q1820
    have f1824 := rng_at k1823 (by decide) h88
    have f1825 := rng_at k1823 (by decide) h106
    have f1826 := rng_at k1823 (by decide) h107
    subst hQF
    have eS : (spBack ns kn go q k) = (-1) := by unfold spBack; (repeat' split) <;> first | (exfalso; omega) | rfl
    have ok9 : ¬ 0 ≤ (spBack ns kn go q k).toInt := by rw [eS]; decide
    exact aw_iret rfl dX9_withdraw_27 (by decide) (by decide) ⟨by rw [eS], _, by rw [spUn_n ok9]; exact f1826, f1822, rg2_tr (rg2_rf 89 89 107 107 h) (rg2_w k1823 (by decide))⟩
set_option maxHeartbeats 4000000 in
theorem oX9_withdraw0 {l : Launch} {G : xG} {h : List va_E} {sp fa nb ns nm nv sh : Nat} {ho ow sl : Int32} {rg : Nat → Int32} {kn go : Nat → Nat} {q k : Int32} (h88 : h[88]? = some (oB 9 (lM G (nI sp) (nI fa) (nI nb) (nI ns) (nI nm) ho ow sl (nI nv) (nI sh)))) (h89 : h[89]? = some (aI 7 rg)) (h112 : h[112]? = some (aI 60 (nA kn))) (h113 : h[113]? = some (aI 60 (nA (gM go)))) (hn : nm ≤ 60) (bkn : ∀ j, j < 60 → kn j ≤ 80000) (bgo : ∀ j, j < 60 → go j ≤ 80001) : CE l G yX9_withdraw cX9_withdraw 5 (some .int) 2 0 0 [.ref (G.1 + 88), .int 0, .int q, .int k] h (some (.int (spBack nm kn go q k))) (fun h1 => ∃ rg1 : Nat → Int32, h1[113]? = some (aI 60 (nA (gM (spUn (0 ≤ (spBack nm kn go q k).toInt) go (tn q) (tn k))))) ∧ h1[89]? = some (aI 7 rg1) ∧ rg2 89 89 113 113 h h1) := by
  refine cm_ofQ rfl (Nat.le_of_ble_eq_true rfl) [(0, .ref (G.1 + 88)), (1, .int 0), (2, .int q), (3, .int k)] rfl (fun QF hQF => ?_)
  refine aw_iload_n 2 dX9_withdraw_0 rfl rfl ?_
  refine aw_iload_n 1 dX9_withdraw_1 rfl rfl ?_
  refine aw_if_eq 12 dX9_withdraw_2 (by decide) (fun c2 => ?_) (fun c2 => absurd (by decide) c2)
  refine aw_aload_n 0 dX9_withdraw_12 rfl rfl ?_
  refine aw_get fX9_202 dX9_withdraw_13 h88 rfl ?_
  refine aw_dS [.int q, .int (nI nm)] [] lX9_126 sX9_isIn mX9_isIn dX9_withdraw_16 (bX9_isIn (x := q) (n := nm) (by omega)) rfl (Nat.le_of_ble_eq_true rfl) (by decide) (by decide) rfl ?_
  refine aw_if_ne 28 dX9_withdraw_19 (by decide) (fun c19 => ?_) (fun c19 => ?_)
  · have t19 := ite_1 c19
    refine aw_iload_n 1 dX9_withdraw_28 rfl rfl ?_
    refine aw_if_eq 41 dX9_withdraw_29 (by decide) (fun c29 => ?_) (fun c29 => absurd (by decide) c29)
    obtain ⟨q0, bb_q0, ee_q0⟩ := i_nat (x := q) (N := nm) (by omega) (by omega)
    subst ee_q0
    have tt_q0 : (nI q0).toInt = (q0 : Int) := nI_toInt (by omega)
    have nn_q0 : tn (nI q0) = q0 := tn_nI (by omega)
    refine aw_aload_n 0 dX9_withdraw_41 rfl rfl ?_
    refine aw_get fX9_89 dX9_withdraw_42 h88 rfl ?_
    refine aw_iload_n 2 dX9_withdraw_45 rfl rfl ?_
    refine aw_iald q0 (rfl) (by omega) (by decide) dX9_withdraw_46 h113 ?_
    refine aw_toe (nI ((gM go) q0)) (rfl) ?_
    have hg := gM_lt (go := go) (bgo q0 (by omega))
    have hg2 := gM_b (go := go) (bgo q0 (by omega))
    refine aw_ldc (1000000000) kX9_201 dX9_withdraw_47 ?_
    refine aw_icmp_ge 59 dX9_withdraw_49 (by decide) (fun c49 => ?_) (fun c49 => ?_)
    · have d49 := (nv_le (a := 1000000000) (b := (gM go) q0) (rfl) (rfl) (by omega) (by omega)).mp c49
      refine aw_iload_n 3 dX9_withdraw_59 rfl rfl ?_
      refine aw_iload_n 1 dX9_withdraw_60 rfl rfl ?_
      refine aw_if_eq 73 dX9_withdraw_61 (by decide) (fun c61 => ?_) (fun c61 => absurd (by decide) c61)
      refine aw_aload_n 0 dX9_withdraw_73 rfl rfl ?_
      refine aw_get fX9_86 dX9_withdraw_74 h88 rfl ?_
      refine aw_iload_n 2 dX9_withdraw_77 rfl rfl ?_
      refine aw_iald q0 (rfl) (by omega) (by decide) dX9_withdraw_78 h112 ?_
      refine aw_toe (nI (kn q0)) (rfl) ?_
      have b1827 := bkn q0 (by omega)
      have hk9 : (nI (kn q0)).toInt = (kn q0 : Int) := nI_toInt (by omega)
      refine aw_ldc (80000) kX9_194 dX9_withdraw_79 ?_
      refine aw_dS [.int k, .int (nI (kn q0)), .int 80000] [] lX9_137 sX9_wrong mX9_wrong dX9_withdraw_81 (bX9_wrong (x := k) (y := (nI (kn q0))) (z := 80000) ) rfl (Nat.le_of_ble_eq_true rfl) (by decide) (by decide) rfl ?_
      refine aw_istore [(4, .int (wrF k (nI (kn q0)) 80000)), (0, .ref (G.1 + 88)), (1, .int 0), (2, .int (nI q0)), (3, .int k)] dX9_withdraw_84 (by decide) rfl ?_
      refine aw_iload 0 dX9_withdraw_86 rfl ?_
      refine aw_if_eq 98 dX9_withdraw_88 (by decide) (fun c88 => ?_) (fun c88 => ?_)
      · have d88 := (j_eq (a := (wrF k (nI (kn q0)) 80000).toInt) (b := (0)) (rfl) (rfl)).mp c88
        have hw : (kn q0 : Int) ≤ k.toInt ∧ k.toInt ≤ 80000 := by have q9 := wrF_0 c88; rw [hk9] at q9; exact q9
        obtain ⟨k0, bb_k0, ee_k0⟩ := i_nat (x := k) (N := 80001) (by omega) (by omega)
        subst ee_k0
        have tt_k0 : (nI k0).toInt = (k0 : Int) := nI_toInt (by omega)
        have nn_k0 : tn (nI k0) = k0 := tn_nI (by omega)
        refine aw_iload_n 2 dX9_withdraw_98 rfl rfl ?_
        refine aw_if_eq 112 dX9_withdraw_99 (by decide) (fun c99 => ?_) (fun c99 => absurd (by decide) c99)
        refine aw_aload_n 1 dX9_withdraw_112 rfl rfl ?_
        refine aw_get fX9_89 dX9_withdraw_113 h88 rfl ?_
        refine aw_iload_n 3 dX9_withdraw_116 rfl rfl ?_
        refine aw_iload_n 4 dX9_withdraw_117 rfl rfl ?_
        refine aw_iast q0 (rfl) (by omega) (by decide) dX9_withdraw_118 h113 ?_
        rw [nA_u (f := (gM go)) (i := q0) (x := (nI k0)) (v := k0) (rfl)]
        refine aw_iconst (1) dX9_withdraw_119 (by decide) ?_
        subst hQF
        have eS : (spBack nm kn go (nI q0) (nI k0)) = 1 := by unfold spBack; simp only [nn_q0, nn_k0]; (repeat' split) <;> first | (exfalso; omega) | rfl
        have ok9 : 0 ≤ (spBack nm kn go (nI q0) (nI k0)).toInt := by rw [eS]; decide
        exact aw_iret rfl dX9_withdraw_120 (by decide) (by decide) ⟨by rw [eS], _, by rw [spUn_y ok9, nn_q0, nn_k0, ← gM_k (by omega)]; exact (gs h113), (gn (by decide) (h89)), rg2_set (rg2_rf 89 89 113 113 h) (by decide)⟩
      · have d88 := mt (j_eq (a := (wrF k (nI (kn q0)) 80000).toInt) (b := (0)) (rfl) (rfl)).mpr c88
        refine aw_aload_n 1 dX9_withdraw_91 rfl rfl ?_
        refine aw_iload 0 dX9_withdraw_92 rfl ?_
        obtain ⟨q1828, bq1828, eq1828⟩ := Or.resolve_left (wrF_q k (nI (kn q0)) 80000) (by assumption)
        refine aw_eV [.int (wrF k (nI (kn q0)) 80000)] [] lX9_130 vX9_refuse mX9_refuse dX9_withdraw_94 (bX9_refuse (sp := sp) (fa := fa) (nb := nb) (ns := ns) (nm := nm) (nv := nv) (sh := sh) (ho := ho) (ow := ow) (sl := sl) (rg := rg) (x := (wrF k (nI (kn q0)) 80000)) (q := q1828) h88 h89 bq1828 eq1828) h88 rfl rfl rfl (Nat.le_of_ble_eq_true rfl) (by decide) (by decide) rfl (fun h1831 q1830 => ?_)
        obtain ⟨rg11829, f1832, k1833⟩ := q1830
        have f1834 := rng_at k1833 (by decide) h88
        have f1835 := rng_at k1833 (by decide) h112
        have f1836 := rng_at k1833 (by decide) h113
        subst hQF
        have q9 := wrF_r k (nI (kn q0)) 80000 (by assumption)
        rw [hk9, k_n.2.2.2.2.2.2] at q9
        have eS : (spBack nm kn go (nI q0) k) = (wrF k (nI (kn q0)) 80000) := by unfold spBack; unfold wrF; simp only [nn_q0, hk9, k_n.2.2.2.2.2.2]; (repeat' split) <;> first | (exfalso; omega) | rfl
        have ok9 : ¬ 0 ≤ (spBack nm kn go (nI q0) k).toInt := by rw [eS]; have q9 := wrF_neg c88; omega
        exact aw_iret rfl dX9_withdraw_97 (by decide) (by decide) ⟨by rw [eS], _, by rw [spUn_n ok9]; exact f1836, f1832, rg2_tr (rg2_rf 89 89 113 113 h) (rg2_w k1833 (by decide))⟩
    · have d49 := mt (nv_le (a := 1000000000) (b := (gM go) q0) (rfl) (rfl) (by omega) (by omega)).mpr c49
      refine aw_aload_n 0 dX9_withdraw_52 rfl rfl ?_
      refine aw_bipush (-3) dX9_withdraw_53 (by decide) ?_
      refine aw_eV [.int (-3)] [] lX9_130 vX9_refuse mX9_refuse dX9_withdraw_55 (bX9_refuse (sp := sp) (fa := fa) (nb := nb) (ns := ns) (nm := nm) (nv := nv) (sh := sh) (ho := ho) (ow := ow) (sl := sl) (rg := rg) (x := (-3)) (q := 3) h88 h89 (by decide) (by decide)) h88 rfl rfl rfl (Nat.le_of_ble_eq_true rfl) (by decide) (by decide) rfl (fun h1839 q1838 => ?_)
      obtain ⟨rg11837, f1840, k1841⟩ := q1838
      have f1842 := rng_at k1841 (by decide) h88
      have f1843 := rng_at k1841 (by decide) h112
      have f1844 := rng_at k1841 (by decide) h113
      subst hQF
      have eS : (spBack nm kn go (nI q0) k) = (-3) := by unfold spBack; simp only [nn_q0]; (repeat' split) <;> first | (exfalso; omega) | rfl
      have ok9 : ¬ 0 ≤ (spBack nm kn go (nI q0) k).toInt := by rw [eS]; decide
      exact aw_iret rfl dX9_withdraw_58 (by decide) (by decide) ⟨by rw [eS], _, by rw [spUn_n ok9]; exact f1844, f1840, rg2_tr (rg2_rf 89 89 113 113 h) (rg2_w k1841 (by decide))⟩
  · have t19 := ite_0 c19
    refine aw_aload_n 0 dX9_withdraw_22 rfl rfl ?_
    refine aw_iconst (-1) dX9_withdraw_23 (by decide) ?_
    refine aw_eV [.int (-1)] [] lX9_130 vX9_refuse mX9_refuse dX9_withdraw_24 (bX9_refuse (sp := sp) (fa := fa) (nb := nb) (ns := ns) (nm := nm) (nv := nv) (sh := sh) (ho := ho) (ow := ow) (sl := sl) (rg := rg) (x := (-1)) (q := 1) h88 h89 (by decide) (by decide)) h88 rfl rfl rfl (Nat.le_of_ble_eq_true rfl) (by decide) (by decide) rfl (fun h1847 q1846 => ?_)
    obtain ⟨rg11845, f1848, k1849⟩ := q1846
    have f1850 := rng_at k1849 (by decide) h88
    have f1851 := rng_at k1849 (by decide) h112
    have f1852 := rng_at k1849 (by decide) h113
    subst hQF
    have eS : (spBack nm kn go q k) = (-1) := by unfold spBack; (repeat' split) <;> first | (exfalso; omega) | rfl
    have ok9 : ¬ 0 ≤ (spBack nm kn go q k).toInt := by rw [eS]; decide
    exact aw_iret rfl dX9_withdraw_27 (by decide) (by decide) ⟨by rw [eS], _, by rw [spUn_n ok9]; exact f1852, f1848, rg2_tr (rg2_rf 89 89 113 113 h) (rg2_w k1849 (by decide))⟩
