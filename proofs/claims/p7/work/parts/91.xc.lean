set_option maxHeartbeats 4000000 in
theorem oX8_count {l : Launch} {G : xG} {h : List va_E} {jv bv : Value} {rf : Nat → Int32} {fi : Nat → Nat} {nb sp fa ve n n2 n3 : Nat} {wd wd2 cn : Int32} {w : Int32} (h0 : h[0]? = some (oB 8 (lX G (jv) (bv)))) (h87 : h[87]? = some (aI 7 rf)) (h1 : h[1]? = some (oB 1 (lC G (nI nb) (nI sp) (nI fa) (nI ve)))) (h5 : h[5]? = some (aI 4 (nA fi))) (h61 : h[61]? = some (oB 5 (lR G 61 (nI n) wd))) (h69 : h[69]? = some (oB 5 (lR G 69 (nI n2) wd2))) (h79 : h[79]? = some (oB 6 (lS G (nI n3)))) (h84 : h[84]? = some (oB 0 (lB G cn))) (hfi : ∀ j, j < 4 → fi j < 11) : CU l G yX8_count cX8_count 2 (some .int) 3 0 0 [.ref (G.1 + 0), .int w] h (fun r h1 => h1 = h ∧ True) := by
  refine cm_ofQ rfl (Nat.le_of_ble_eq_true rfl) [(0, .ref (G.1 + 0)), (1, .int w)] rfl (fun QF hQF => ?_)
  refine aw_iload_n 1 dX8_count_0 rfl rfl ?_
  rcases (show w.toInt = 0 ∨ w.toInt = 1 ∨ w.toInt = 2 ∨ w.toInt = 3 ∨ w.toInt = 4 ∨ w.toInt = 5 ∨ w.toInt = 6 ∨ w.toInt = 7 ∨ w.toInt = 8 ∨ w.toInt = 9 ∨ (w.toInt < 0 ∨ 9 < w.toInt) by omega) with e0 | e0 | e0 | e0 | e0 | e0 | e0 | e0 | e0 | e0 | e0
  · obtain rfl : w = 0 := (i_eq _ _).mpr (e0.trans (show (0 : Int) = (0 : Int32).toInt from rfl))
    refine aw_tableIn 56 dX8_count_1 (by decide) (by decide) rfl (by decide) ?_
    refine aw_aload_n 0 dX8_count_56 rfl rfl ?_
    refine aw_get fX8_20 dX8_count_57 h0 rfl ?_
    refine aw_get fX8_91 dX8_count_60 h1 rfl ?_
    refine aw_iload_n 1 dX8_count_63 rfl rfl ?_
    refine aw_iald 0 (rfl) (by decide) (by decide) dX8_count_64 h5 ?_
    refine aw_toe (nI (fi 0)) (rfl) ?_
    have b3950 := hfi 0 (by omega)
    subst hQF
    exact aw_iret rfl dX8_count_65 (by decide) (by decide) ⟨_, rfl, rfl, trivial⟩
  · obtain rfl : w = 1 := (i_eq _ _).mpr (e0.trans (show (1 : Int) = (1 : Int32).toInt from rfl))
    refine aw_tableIn 56 dX8_count_1 (by decide) (by decide) rfl (by decide) ?_
    refine aw_aload_n 0 dX8_count_56 rfl rfl ?_
    refine aw_get fX8_20 dX8_count_57 h0 rfl ?_
    refine aw_get fX8_91 dX8_count_60 h1 rfl ?_
    refine aw_iload_n 1 dX8_count_63 rfl rfl ?_
    refine aw_iald 1 (rfl) (by decide) (by decide) dX8_count_64 h5 ?_
    refine aw_toe (nI (fi 1)) (rfl) ?_
    have b3951 := hfi 1 (by omega)
    subst hQF
    exact aw_iret rfl dX8_count_65 (by decide) (by decide) ⟨_, rfl, rfl, trivial⟩
  · obtain rfl : w = 2 := (i_eq _ _).mpr (e0.trans (show (2 : Int) = (2 : Int32).toInt from rfl))
    refine aw_tableIn 56 dX8_count_1 (by decide) (by decide) rfl (by decide) ?_
    refine aw_aload_n 0 dX8_count_56 rfl rfl ?_
    refine aw_get fX8_20 dX8_count_57 h0 rfl ?_
    refine aw_get fX8_91 dX8_count_60 h1 rfl ?_
    refine aw_iload_n 1 dX8_count_63 rfl rfl ?_
    refine aw_iald 2 (rfl) (by decide) (by decide) dX8_count_64 h5 ?_
    refine aw_toe (nI (fi 2)) (rfl) ?_
    have b3952 := hfi 2 (by omega)
    subst hQF
    exact aw_iret rfl dX8_count_65 (by decide) (by decide) ⟨_, rfl, rfl, trivial⟩
  · obtain rfl : w = 3 := (i_eq _ _).mpr (e0.trans (show (3 : Int) = (3 : Int32).toInt from rfl))
    refine aw_tableIn 56 dX8_count_1 (by decide) (by decide) rfl (by decide) ?_
    refine aw_aload_n 0 dX8_count_56 rfl rfl ?_
    refine aw_get fX8_20 dX8_count_57 h0 rfl ?_
    refine aw_get fX8_91 dX8_count_60 h1 rfl ?_
    refine aw_iload_n 1 dX8_count_63 rfl rfl ?_
    refine aw_iald 3 (rfl) (by decide) (by decide) dX8_count_64 h5 ?_
    refine aw_toe (nI (fi 3)) (rfl) ?_
    have b3953 := hfi 3 (by omega)
    subst hQF
    exact aw_iret rfl dX8_count_65 (by decide) (by decide) ⟨_, rfl, rfl, trivial⟩
  · obtain rfl : w = 4 := (i_eq _ _).mpr (e0.trans (show (4 : Int) = (4 : Int32).toInt from rfl))
    refine aw_tableIn 66 dX8_count_1 (by decide) (by decide) rfl (by decide) ?_
    refine aw_aload_n 0 dX8_count_66 rfl rfl ?_
    refine aw_get fX8_34 dX8_count_67 h0 rfl ?_
    refine aw_get fX8_160 dX8_count_70 h61 rfl ?_
    subst hQF
    exact aw_iret rfl dX8_count_73 (by decide) (by decide) ⟨_, rfl, rfl, trivial⟩
  · obtain rfl : w = 5 := (i_eq _ _).mpr (e0.trans (show (5 : Int) = (5 : Int32).toInt from rfl))
    refine aw_tableIn 74 dX8_count_1 (by decide) (by decide) rfl (by decide) ?_
    refine aw_aload_n 0 dX8_count_74 rfl rfl ?_
    refine aw_get fX8_38 dX8_count_75 h0 rfl ?_
    refine aw_get fX8_160 dX8_count_78 h69 rfl ?_
    subst hQF
    exact aw_iret rfl dX8_count_81 (by decide) (by decide) ⟨_, rfl, rfl, trivial⟩
  · obtain rfl : w = 6 := (i_eq _ _).mpr (e0.trans (show (6 : Int) = (6 : Int32).toInt from rfl))
    refine aw_tableIn 82 dX8_count_1 (by decide) (by decide) rfl (by decide) ?_
    refine aw_aload_n 0 dX8_count_82 rfl rfl ?_
    refine aw_get fX8_51 dX8_count_83 h0 rfl ?_
    refine aw_get fX8_204 dX8_count_86 h79 rfl ?_
    subst hQF
    exact aw_iret rfl dX8_count_89 (by decide) (by decide) ⟨_, rfl, rfl, trivial⟩
  · obtain rfl : w = 7 := (i_eq _ _).mpr (e0.trans (show (7 : Int) = (7 : Int32).toInt from rfl))
    refine aw_tableIn 90 dX8_count_1 (by decide) (by decide) rfl (by decide) ?_
    refine aw_aload_n 0 dX8_count_90 rfl rfl ?_
    refine aw_get fX8_20 dX8_count_91 h0 rfl ?_
    refine aw_get fX8_113 dX8_count_94 h1 rfl ?_
    subst hQF
    exact aw_iret rfl dX8_count_97 (by decide) (by decide) ⟨_, rfl, rfl, trivial⟩
  · obtain rfl : w = 8 := (i_eq _ _).mpr (e0.trans (show (8 : Int) = (8 : Int32).toInt from rfl))
    refine aw_tableIn 98 dX8_count_1 (by decide) (by decide) rfl (by decide) ?_
    refine aw_aload_n 0 dX8_count_98 rfl rfl ?_
    refine aw_get fX8_58 dX8_count_99 h0 rfl ?_
    refine aw_get fX8_240 dX8_count_102 h84 rfl ?_
    subst hQF
    exact aw_iret rfl dX8_count_105 (by decide) (by decide) ⟨_, rfl, rfl, trivial⟩
  · obtain rfl : w = 9 := (i_eq _ _).mpr (e0.trans (show (9 : Int) = (9 : Int32).toInt from rfl))
    refine aw_tableIn 106 dX8_count_1 (by decide) (by decide) rfl (by decide) ?_
    refine aw_aload_n 0 dX8_count_106 rfl rfl ?_
    refine aw_get fX8_34 dX8_count_107 h0 rfl ?_
    refine aw_get fX8_243 dX8_count_110 h61 rfl ?_
    refine aw_aload_n 0 dX8_count_113 rfl rfl ?_
    refine aw_get fX8_38 dX8_count_114 h0 rfl ?_
    refine aw_get fX8_243 dX8_count_117 h69 rfl ?_
    refine aw_iadd dX8_count_120 ?_
    subst hQF
    exact aw_iret rfl dX8_count_121 (by decide) (by decide) ⟨_, rfl, rfl, trivial⟩
  · refine aw_tableOut 122 dX8_count_1 (by omega) (by decide) ?_
    refine aw_iload_n 1 dX8_count_122 rfl rfl ?_
    refine aw_bipush (10) dX8_count_123 (by decide) ?_
    refine aw_icmp_le 146 dX8_count_125 (by decide) (fun c125 => ?_) (fun c125 => ?_)
    · have d125 := (j_le (a := w.toInt) (b := (10)) (rfl) (rfl)).mp c125
      refine aw_bipush (-9) dX8_count_146 (by decide) ?_
      subst hQF
      exact aw_iret rfl dX8_count_148 (by decide) (by decide) ⟨_, rfl, rfl, trivial⟩
    · have d125 := mt (j_le (a := w.toInt) (b := (10)) (rfl) (rfl)).mpr c125
      refine aw_iload_n 1 dX8_count_128 rfl rfl ?_
      refine aw_bipush (16) dX8_count_129 (by decide) ?_
      refine aw_icmp_gt 146 dX8_count_131 (by decide) (fun c131 => ?_) (fun c131 => ?_)
      · have d131 := (j_lt (a := (16)) (b := w.toInt) (rfl) (rfl)).mp c131
        refine aw_bipush (-9) dX8_count_146 (by decide) ?_
        subst hQF
        exact aw_iret rfl dX8_count_148 (by decide) (by decide) ⟨_, rfl, rfl, trivial⟩
      · have d131 := mt (j_lt (a := (16)) (b := w.toInt) (rfl) (rfl)).mpr c131
        obtain ⟨w0, bw, ew⟩ := i_nat (x := w) (N := 17) (by omega) (by omega)
        subst ew
        have tt9 : (nI w0).toInt = (w0 : Int) := nI_toInt (by omega)
        refine aw_aload_n 0 dX8_count_134 rfl rfl ?_
        refine aw_get fX8_62 dX8_count_135 h0 rfl ?_
        refine aw_iload_n 1 dX8_count_138 rfl rfl ?_
        refine aw_bipush (10) dX8_count_139 (by decide) ?_
        refine aw_isub dX8_count_141 ?_
        refine aw_toe (nI (w0 - 10)) (nv_sub (rfl) (rfl) (by omega)) ?_
        refine aw_iald (w0 - 10) (rfl) (by omega) (by decide) dX8_count_142 h87 ?_
        refine aw_goto 148 dX8_count_143 (by decide) ?_
        subst hQF
        exact aw_iret rfl dX8_count_148 (by decide) (by decide) ⟨_, rfl, rfl, trivial⟩
