set_option maxHeartbeats 4000000 in
theorem oX9_count {l : Launch} {G : xG} {h : List va_E} {sp fa nb ns nm nv sh : Nat} {ho ow sl : Int32} {rg : Nat → Int32} {fi : Nat → Nat} {g1 g2 cl : Nat → Int32} {w : Int32} (h88 : h[88]? = some (oB 9 (lM G (nI sp) (nI fa) (nI nb) (nI ns) (nI nm) ho ow sl (nI nv) (nI sh)))) (h89 : h[89]? = some (aI 7 rg)) (h92 : h[92]? = some (aI 4 (nA fi))) (h107 : h[107]? = some (aI 60 g1)) (h113 : h[113]? = some (aI 60 g2)) (h124 : h[124]? = some (aZ 36 cl)) (hfi : ∀ j, j < 4 → fi j < 11) (hns : ns ≤ 60) (hnm : nm ≤ 60) : CU l G yX9_count cX9_count 5 (some .int) 2 0 0 [.ref (G.1 + 88), .int w] h (fun r h1 => h1 = h ∧ True) := by
  refine cm_ofQ rfl (Nat.le_of_ble_eq_true rfl) [(0, .ref (G.1 + 88)), (1, .int w)] rfl (fun QF hQF => ?_)
  refine aw_iload_n 1 dX9_count_0 rfl rfl ?_
  refine aw_bipush (10) dX9_count_1 (by decide) ?_
  refine aw_icmp_le 22 dX9_count_3 (by decide) (fun c3 => ?_) (fun c3 => ?_)
  · have d3 := (j_le (a := w.toInt) (b := (10)) (rfl) (rfl)).mp c3
    refine aw_iload_n 1 dX9_count_22 rfl rfl ?_
    refine aw_iconst (4) dX9_count_23 (by decide) ?_
    refine aw_dS [.int w, .int 4] [] lX9_126 sX9_isIn mX9_isIn dX9_count_24 (bX9_isIn (x := w) (n := 4) (by omega)) rfl (Nat.le_of_ble_eq_true rfl) (by decide) (by decide) rfl ?_
    refine aw_if_eq 37 dX9_count_27 (by decide) (fun c27 => ?_) (fun c27 => ?_)
    · have t27 := ite_0 c27
      refine aw_iconst (0) dX9_count_37 (by decide) ?_
      refine aw_istore_n [(2, .int 0), (0, .ref (G.1 + 88)), (1, .int w)] dX9_count_38 rfl (by decide) rfl ?_
      refine aw_iload_n 2 dX9_count_39 rfl rfl ?_
      rcases (show w.toInt = 4 ∨ w.toInt = 5 ∨ w.toInt = 6 ∨ w.toInt = 7 ∨ w.toInt = 8 ∨ w.toInt = 9 ∨ (w.toInt < 4 ∨ 9 < w.toInt) by omega) with e0 | e0 | e0 | e0 | e0 | e0 | e0
      · obtain rfl : w = 4 := (i_eq _ _).mpr (e0.trans (show (4 : Int) = (4 : Int32).toInt from rfl))
        refine aw_tableIn 80 dX9_count_40 (by decide) (by decide) rfl (by decide) ?_
        refine aw_aload_n 1 dX9_count_80 rfl rfl ?_
        refine aw_get fX9_198 dX9_count_81 h88 rfl ?_
        subst hQF
        exact aw_iret rfl dX9_count_84 (by decide) (by decide) ⟨_, rfl, rfl, trivial⟩
      · obtain rfl : w = 5 := (i_eq _ _).mpr (e0.trans (show (5 : Int) = (5 : Int32).toInt from rfl))
        refine aw_tableIn 85 dX9_count_40 (by decide) (by decide) rfl (by decide) ?_
        refine aw_aload_n 1 dX9_count_85 rfl rfl ?_
        refine aw_get fX9_202 dX9_count_86 h88 rfl ?_
        subst hQF
        exact aw_iret rfl dX9_count_89 (by decide) (by decide) ⟨_, rfl, rfl, trivial⟩
      · obtain rfl : w = 6 := (i_eq _ _).mpr (e0.trans (show (6 : Int) = (6 : Int32).toInt from rfl))
        refine aw_tableIn 90 dX9_count_40 (by decide) (by decide) rfl (by decide) ?_
        refine aw_aload_n 1 dX9_count_90 rfl rfl ?_
        refine aw_get fX9_227 dX9_count_91 h88 rfl ?_
        subst hQF
        exact aw_iret rfl dX9_count_94 (by decide) (by decide) ⟨_, rfl, rfl, trivial⟩
      · obtain rfl : w = 7 := (i_eq _ _).mpr (e0.trans (show (7 : Int) = (7 : Int32).toInt from rfl))
        refine aw_tableIn 95 dX9_count_40 (by decide) (by decide) rfl (by decide) ?_
        refine aw_aload_n 1 dX9_count_95 rfl rfl ?_
        refine aw_get fX9_142 dX9_count_96 h88 rfl ?_
        subst hQF
        exact aw_iret rfl dX9_count_99 (by decide) (by decide) ⟨_, rfl, rfl, trivial⟩
      · obtain rfl : w = 8 := (i_eq _ _).mpr (e0.trans (show (8 : Int) = (8 : Int32).toInt from rfl))
        refine aw_tableIn 100 dX9_count_40 (by decide) (by decide) rfl (by decide) ?_
        refine aw_iconst (0) dX9_count_100 (by decide) ?_
        refine aw_istore_n [(3, .int 0), (2, .int 0), (0, .ref (G.1 + 88)), (1, .int 8)] dX9_count_101 rfl (by decide) rfl ?_
        refine aw_lv [(3, .int 0), (2, .int 0), (0, .ref (G.1 + 88))] [0, 1, 2] rfl ?_
        suffices L3954 : ∀ (mm : Nat) (x : Nat) (cv : Int32), 6 - x < mm → (x ≤ 6) → AW l G yX9_count cX9_count 5 (some .int) (xR 2 0 0) (fun _ _ => True) QF 0 0 102 [(3, .int (nI x)), (2, .int cv), (0, .ref (G.1 + 88))] [] h from L3954 (6 - 0 + 1) 0 0 (Nat.lt_succ_self _) (Nat.zero_le _)
        intro mm
        induction mm with
        | zero =>
          intro x cv hmm hx
          exact absurd hmm (Nat.not_lt_zero _)
        | succ mm ih3954 =>
          intro x cv hmm hx
          refine aw_iload_n 0 dX9_count_102 rfl rfl ?_
          refine aw_bipush (6) dX9_count_103 (by decide) ?_
          refine aw_icmp_ge 152 dX9_count_105 (by decide) (fun c105 => ?_) (fun c105 => ?_)
          · have d105 := (nv_le (a := 6) (b := x) (rfl) (rfl) (by omega) (by omega)).mp c105
            refine aw_iload_n 1 dX9_count_152 rfl rfl ?_
            subst hQF
            exact aw_iret rfl dX9_count_153 (by decide) (by decide) ⟨_, rfl, rfl, trivial⟩
          · have d105 := mt (nv_le (a := 6) (b := x) (rfl) (rfl) (by omega) (by omega)).mpr c105
            refine aw_iconst (0) dX9_count_108 (by decide) ?_
            refine aw_istore [(4, .int 0), (3, .int (nI x)), (2, .int cv), (0, .ref (G.1 + 88))] dX9_count_109 (by decide) rfl ?_
            refine aw_lv [(4, .int 0), (3, .int (nI x)), (2, .int cv), (0, .ref (G.1 + 88))] [0, 1, 2, 3] rfl ?_
            suffices L3955 : ∀ (mm : Nat) (y : Nat) (cv2 : Int32), x - y < mm → (y ≤ x) → AW l G yX9_count cX9_count 5 (some .int) (xR 2 0 0) (fun _ _ => True) QF 0 0 111 [(4, .int (nI y)), (3, .int (nI x)), (2, .int cv2), (0, .ref (G.1 + 88))] [] h from L3955 (x - 0 + 1) 0 cv (Nat.lt_succ_self _) (Nat.zero_le _)
            intro mm
            induction mm with
            | zero =>
              intro y cv2 hmm hy
              exact absurd hmm (Nat.not_lt_zero _)
            | succ mm ih3955 =>
              intro y cv2 hmm hy
              refine aw_iload 0 dX9_count_111 rfl ?_
              refine aw_iload_n 1 dX9_count_113 rfl rfl ?_
              refine aw_icmp_ge 146 dX9_count_114 (by decide) (fun c114 => ?_) (fun c114 => ?_)
              · have d114 := (nv_le (a := x) (b := y) (rfl) (rfl) (by omega) (by omega)).mp c114
                refine aw_iinc (j := 1) (nI (x + 1)) [(3, .int (nI (x + 1))), (4, .int (nI y)), (2, .int cv2), (0, .ref (G.1 + 88))] dX9_count_146 rfl (nv_inc (rfl)) (by decide) rfl ?_
                refine aw_goto 102 dX9_count_149 (by decide) ?_
                refine aw_lv [(3, .int (nI (x + 1))), (2, .int cv2), (0, .ref (G.1 + 88))] [0, 2, 3] rfl ?_
                exact ih3954 (x + 1) cv2 (by omega) (by omega)
              · have d114 := mt (nv_le (a := x) (b := y) (rfl) (rfl) (by omega) (by omega)).mpr c114
                refine aw_iload_n 2 dX9_count_117 rfl rfl ?_
                refine aw_aload_n 3 dX9_count_118 rfl rfl ?_
                refine aw_get fX9_122 dX9_count_119 h88 rfl ?_
                refine aw_bipush (6) dX9_count_122 (by decide) ?_
                refine aw_iload_n 1 dX9_count_124 rfl rfl ?_
                refine aw_imul dX9_count_125 ?_
                refine aw_toe (nI (6 * x)) (nv_mul (rfl) (rfl)) ?_
                refine aw_iload 0 dX9_count_126 rfl ?_
                refine aw_iadd dX9_count_128 ?_
                refine aw_toe (nI ((6 * x) + y)) (nv_add (rfl) (rfl)) ?_
                refine aw_zald ((6 * x) + y) (rfl) (by omega) (by decide) dX9_count_129 h124 ?_
                refine aw_if_eq 137 dX9_count_130 (by decide) (fun c130 => ?_) (fun c130 => ?_)
                · have d130 := (j_eq (a := (cl ((6 * x) + y)).toInt) (b := (0)) (rfl) (rfl)).mp c130
                  refine aw_iconst (0) dX9_count_137 (by decide) ?_
                  refine aw_iadd dX9_count_138 ?_
                  refine aw_istore_n [(2, .int (cv2 + 0)), (4, .int (nI y)), (3, .int (nI x)), (0, .ref (G.1 + 88))] dX9_count_139 rfl (by decide) rfl ?_
                  refine aw_iinc (j := 1) (nI (y + 1)) [(4, .int (nI (y + 1))), (2, .int (cv2 + 0)), (3, .int (nI x)), (0, .ref (G.1 + 88))] dX9_count_140 rfl (nv_inc (rfl)) (by decide) rfl ?_
                  refine aw_goto 111 dX9_count_143 (by decide) ?_
                  refine aw_lv [(4, .int (nI (y + 1))), (3, .int (nI x)), (2, .int (cv2 + 0)), (0, .ref (G.1 + 88))] [0, 2, 1, 3] rfl ?_
                  exact ih3955 (y + 1) (cv2 + 0) (by omega) (by omega)
                · have d130 := mt (j_eq (a := (cl ((6 * x) + y)).toInt) (b := (0)) (rfl) (rfl)).mpr c130
                  refine aw_iconst (1) dX9_count_133 (by decide) ?_
                  refine aw_goto 138 dX9_count_134 (by decide) ?_
                  refine aw_iadd dX9_count_138 ?_
                  refine aw_istore_n [(2, .int (cv2 + 1)), (4, .int (nI y)), (3, .int (nI x)), (0, .ref (G.1 + 88))] dX9_count_139 rfl (by decide) rfl ?_
                  refine aw_iinc (j := 1) (nI (y + 1)) [(4, .int (nI (y + 1))), (2, .int (cv2 + 1)), (3, .int (nI x)), (0, .ref (G.1 + 88))] dX9_count_140 rfl (nv_inc (rfl)) (by decide) rfl ?_
                  refine aw_goto 111 dX9_count_143 (by decide) ?_
                  refine aw_lv [(4, .int (nI (y + 1))), (3, .int (nI x)), (2, .int (cv2 + 1)), (0, .ref (G.1 + 88))] [0, 2, 1, 3] rfl ?_
                  exact ih3955 (y + 1) (cv2 + 1) (by omega) (by omega)
      · obtain rfl : w = 9 := (i_eq _ _).mpr (e0.trans (show (9 : Int) = (9 : Int32).toInt from rfl))
        refine aw_tableIn 154 dX9_count_40 (by decide) (by decide) rfl (by decide) ?_
        refine aw_iconst (0) dX9_count_154 (by decide) ?_
        refine aw_istore_n [(3, .int 0), (2, .int 0), (0, .ref (G.1 + 88)), (1, .int 9)] dX9_count_155 rfl (by decide) rfl ?_
        refine aw_lv [(3, .int 0), (2, .int 0), (0, .ref (G.1 + 88))] [0, 1, 2] rfl ?_
        suffices L3956 : ∀ (mm : Nat) (x : Nat) (cv3 : Int32), ns - x < mm → (x ≤ ns) → AW l G yX9_count cX9_count 5 (some .int) (xR 2 0 0) (fun _ _ => True) QF 0 0 156 [(3, .int (nI x)), (2, .int cv3), (0, .ref (G.1 + 88))] [] h from L3956 (ns - 0 + 1) 0 0 (Nat.lt_succ_self _) (Nat.zero_le _)
        intro mm
        induction mm with
        | zero =>
          intro x cv3 hmm hx3
          exact absurd hmm (Nat.not_lt_zero _)
        | succ mm ih3956 =>
          intro x cv3 hmm hx3
          refine aw_iload_n 0 dX9_count_156 rfl rfl ?_
          refine aw_aload_n 2 dX9_count_157 rfl rfl ?_
          refine aw_get fX9_198 dX9_count_158 h88 rfl ?_
          refine aw_icmp_ge 189 dX9_count_161 (by decide) (fun c161 => ?_) (fun c161 => ?_)
          · have d161 := (nv_le (a := ns) (b := x) (rfl) (rfl) (by omega) (by omega)).mp c161
            refine aw_iconst (0) dX9_count_189 (by decide) ?_
            refine aw_istore_n [(3, .int 0), (2, .int cv3), (0, .ref (G.1 + 88))] dX9_count_190 rfl (by decide) rfl ?_
            refine aw_lv [(3, .int 0), (2, .int cv3), (0, .ref (G.1 + 88))] [0, 1, 2] rfl ?_
            suffices L3957 : ∀ (mm : Nat) (x : Nat) (cv4 : Int32), nm - x < mm → (x ≤ nm) → AW l G yX9_count cX9_count 5 (some .int) (xR 2 0 0) (fun _ _ => True) QF 0 0 191 [(3, .int (nI x)), (2, .int cv4), (0, .ref (G.1 + 88))] [] h from L3957 (nm - 0 + 1) 0 cv3 (Nat.lt_succ_self _) (Nat.zero_le _)
            intro mm
            induction mm with
            | zero =>
              intro x cv4 hmm hx4
              exact absurd hmm (Nat.not_lt_zero _)
            | succ mm ih3957 =>
              intro x cv4 hmm hx4
              refine aw_iload_n 0 dX9_count_191 rfl rfl ?_
              refine aw_aload_n 2 dX9_count_192 rfl rfl ?_
              refine aw_get fX9_202 dX9_count_193 h88 rfl ?_
              refine aw_icmp_ge 224 dX9_count_196 (by decide) (fun c196 => ?_) (fun c196 => ?_)
              · have d196 := (nv_le (a := nm) (b := x) (rfl) (rfl) (by omega) (by omega)).mp c196
                refine aw_iload_n 1 dX9_count_224 rfl rfl ?_
                subst hQF
                exact aw_iret rfl dX9_count_225 (by decide) (by decide) ⟨_, rfl, rfl, trivial⟩
              · have d196 := mt (nv_le (a := nm) (b := x) (rfl) (rfl) (by omega) (by omega)).mpr c196
                refine aw_iload_n 1 dX9_count_199 rfl rfl ?_
                refine aw_aload_n 2 dX9_count_200 rfl rfl ?_
                refine aw_get fX9_89 dX9_count_201 h88 rfl ?_
                refine aw_iload_n 0 dX9_count_204 rfl rfl ?_
                refine aw_iald x (rfl) (by omega) (by decide) dX9_count_205 h113 ?_
                refine aw_ldc (1000000000) kX9_201 dX9_count_206 ?_
                refine aw_icmp_ge 215 dX9_count_208 (by decide) (fun c208 => ?_) (fun c208 => ?_)
                · have d208 := (j_le (a := (1000000000)) (b := (g2 x).toInt) (rfl) (rfl)).mp c208
                  refine aw_iconst (0) dX9_count_215 (by decide) ?_
                  refine aw_iadd dX9_count_216 ?_
                  refine aw_istore_n [(2, .int (cv4 + 0)), (3, .int (nI x)), (0, .ref (G.1 + 88))] dX9_count_217 rfl (by decide) rfl ?_
                  refine aw_iinc (j := 1) (nI (x + 1)) [(3, .int (nI (x + 1))), (2, .int (cv4 + 0)), (0, .ref (G.1 + 88))] dX9_count_218 rfl (nv_inc (rfl)) (by decide) rfl ?_
                  refine aw_goto 191 dX9_count_221 (by decide) ?_
                  refine aw_lv [(3, .int (nI (x + 1))), (2, .int (cv4 + 0)), (0, .ref (G.1 + 88))] [0, 1, 2] rfl ?_
                  exact ih3957 (x + 1) (cv4 + 0) (by omega) (by omega)
                · have d208 := mt (j_le (a := (1000000000)) (b := (g2 x).toInt) (rfl) (rfl)).mpr c208
                  refine aw_iconst (1) dX9_count_211 (by decide) ?_
                  refine aw_goto 216 dX9_count_212 (by decide) ?_
                  refine aw_iadd dX9_count_216 ?_
                  refine aw_istore_n [(2, .int (cv4 + 1)), (3, .int (nI x)), (0, .ref (G.1 + 88))] dX9_count_217 rfl (by decide) rfl ?_
                  refine aw_iinc (j := 1) (nI (x + 1)) [(3, .int (nI (x + 1))), (2, .int (cv4 + 1)), (0, .ref (G.1 + 88))] dX9_count_218 rfl (nv_inc (rfl)) (by decide) rfl ?_
                  refine aw_goto 191 dX9_count_221 (by decide) ?_
                  refine aw_lv [(3, .int (nI (x + 1))), (2, .int (cv4 + 1)), (0, .ref (G.1 + 88))] [0, 1, 2] rfl ?_
                  exact ih3957 (x + 1) (cv4 + 1) (by omega) (by omega)
          · have d161 := mt (nv_le (a := ns) (b := x) (rfl) (rfl) (by omega) (by omega)).mpr c161
            refine aw_iload_n 1 dX9_count_164 rfl rfl ?_
            refine aw_aload_n 2 dX9_count_165 rfl rfl ?_
            refine aw_get fX9_71 dX9_count_166 h88 rfl ?_
            refine aw_iload_n 0 dX9_count_169 rfl rfl ?_
            refine aw_iald x (rfl) (by omega) (by decide) dX9_count_170 h107 ?_
            refine aw_ldc (1000000000) kX9_201 dX9_count_171 ?_
            refine aw_icmp_ge 180 dX9_count_173 (by decide) (fun c173 => ?_) (fun c173 => ?_)
            · have d173 := (j_le (a := (1000000000)) (b := (g1 x).toInt) (rfl) (rfl)).mp c173
              refine aw_iconst (0) dX9_count_180 (by decide) ?_
              refine aw_iadd dX9_count_181 ?_
              refine aw_istore_n [(2, .int (cv3 + 0)), (3, .int (nI x)), (0, .ref (G.1 + 88))] dX9_count_182 rfl (by decide) rfl ?_
              refine aw_iinc (j := 1) (nI (x + 1)) [(3, .int (nI (x + 1))), (2, .int (cv3 + 0)), (0, .ref (G.1 + 88))] dX9_count_183 rfl (nv_inc (rfl)) (by decide) rfl ?_
              refine aw_goto 156 dX9_count_186 (by decide) ?_
              refine aw_lv [(3, .int (nI (x + 1))), (2, .int (cv3 + 0)), (0, .ref (G.1 + 88))] [0, 1, 2] rfl ?_
              exact ih3956 (x + 1) (cv3 + 0) (by omega) (by omega)
            · have d173 := mt (j_le (a := (1000000000)) (b := (g1 x).toInt) (rfl) (rfl)).mpr c173
              refine aw_iconst (1) dX9_count_176 (by decide) ?_
              refine aw_goto 181 dX9_count_177 (by decide) ?_
              refine aw_iadd dX9_count_181 ?_
              refine aw_istore_n [(2, .int (cv3 + 1)), (3, .int (nI x)), (0, .ref (G.1 + 88))] dX9_count_182 rfl (by decide) rfl ?_
              refine aw_iinc (j := 1) (nI (x + 1)) [(3, .int (nI (x + 1))), (2, .int (cv3 + 1)), (0, .ref (G.1 + 88))] dX9_count_183 rfl (nv_inc (rfl)) (by decide) rfl ?_
              refine aw_goto 156 dX9_count_186 (by decide) ?_
              refine aw_lv [(3, .int (nI (x + 1))), (2, .int (cv3 + 1)), (0, .ref (G.1 + 88))] [0, 1, 2] rfl ?_
              exact ih3956 (x + 1) (cv3 + 1) (by omega) (by omega)
      · refine aw_tableOut 226 dX9_count_40 (by omega) (by decide) ?_
        refine aw_bipush (-9) dX9_count_226 (by decide) ?_
        subst hQF
        exact aw_iret rfl dX9_count_228 (by decide) (by decide) ⟨_, rfl, rfl, trivial⟩
    · have t27 := ite_1 c27
      obtain ⟨w0, bb_w0, ee_w0⟩ := i_nat (x := w) (N := 4) (by omega) (by omega)
      subst ee_w0
      have tt_w0 : (nI w0).toInt = (w0 : Int) := nI_toInt (by omega)
      have nn_w0 : tn (nI w0) = w0 := tn_nI (by omega)
      refine aw_aload_n 0 dX9_count_30 rfl rfl ?_
      refine aw_get fX9_19 dX9_count_31 h88 rfl ?_
      refine aw_iload_n 1 dX9_count_34 rfl rfl ?_
      refine aw_iald w0 (rfl) (by omega) (by decide) dX9_count_35 h92 ?_
      refine aw_toe (nI (fi w0)) (rfl) ?_
      have b3958 := hfi w0 (by omega)
      subst hQF
      exact aw_iret rfl dX9_count_36 (by decide) (by decide) ⟨_, rfl, rfl, trivial⟩
  · have d3 := mt (j_le (a := w.toInt) (b := (10)) (rfl) (rfl)).mpr c3
    refine aw_iload_n 1 dX9_count_6 rfl rfl ?_
    refine aw_bipush (17) dX9_count_7 (by decide) ?_
    refine aw_icmp_ge 22 dX9_count_9 (by decide) (fun c9 => ?_) (fun c9 => ?_)
    · have d9 := (j_le (a := (17)) (b := w.toInt) (rfl) (rfl)).mp c9
      refine aw_iload_n 1 dX9_count_22 rfl rfl ?_
      refine aw_iconst (4) dX9_count_23 (by decide) ?_
      refine aw_dS [.int w, .int 4] [] lX9_126 sX9_isIn mX9_isIn dX9_count_24 (bX9_isIn (x := w) (n := 4) (by omega)) rfl (Nat.le_of_ble_eq_true rfl) (by decide) (by decide) rfl ?_
      refine aw_if_eq 37 dX9_count_27 (by decide) (fun c27 => ?_) (fun c27 => ?_)
      · have t27 := ite_0 c27
        refine aw_iconst (0) dX9_count_37 (by decide) ?_
        refine aw_istore_n [(2, .int 0), (0, .ref (G.1 + 88)), (1, .int w)] dX9_count_38 rfl (by decide) rfl ?_
        refine aw_iload_n 2 dX9_count_39 rfl rfl ?_
        rcases (show w.toInt = 4 ∨ w.toInt = 5 ∨ w.toInt = 6 ∨ w.toInt = 7 ∨ w.toInt = 8 ∨ w.toInt = 9 ∨ (w.toInt < 4 ∨ 9 < w.toInt) by omega) with e0 | e0 | e0 | e0 | e0 | e0 | e0
        · obtain rfl : w = 4 := (i_eq _ _).mpr (e0.trans (show (4 : Int) = (4 : Int32).toInt from rfl))
          refine aw_tableIn 80 dX9_count_40 (by decide) (by decide) rfl (by decide) ?_
          refine aw_aload_n 1 dX9_count_80 rfl rfl ?_
          refine aw_get fX9_198 dX9_count_81 h88 rfl ?_
          subst hQF
          exact aw_iret rfl dX9_count_84 (by decide) (by decide) ⟨_, rfl, rfl, trivial⟩
        · obtain rfl : w = 5 := (i_eq _ _).mpr (e0.trans (show (5 : Int) = (5 : Int32).toInt from rfl))
          refine aw_tableIn 85 dX9_count_40 (by decide) (by decide) rfl (by decide) ?_
          refine aw_aload_n 1 dX9_count_85 rfl rfl ?_
          refine aw_get fX9_202 dX9_count_86 h88 rfl ?_
          subst hQF
          exact aw_iret rfl dX9_count_89 (by decide) (by decide) ⟨_, rfl, rfl, trivial⟩
        · obtain rfl : w = 6 := (i_eq _ _).mpr (e0.trans (show (6 : Int) = (6 : Int32).toInt from rfl))
          refine aw_tableIn 90 dX9_count_40 (by decide) (by decide) rfl (by decide) ?_
          refine aw_aload_n 1 dX9_count_90 rfl rfl ?_
          refine aw_get fX9_227 dX9_count_91 h88 rfl ?_
          subst hQF
          exact aw_iret rfl dX9_count_94 (by decide) (by decide) ⟨_, rfl, rfl, trivial⟩
        · obtain rfl : w = 7 := (i_eq _ _).mpr (e0.trans (show (7 : Int) = (7 : Int32).toInt from rfl))
          refine aw_tableIn 95 dX9_count_40 (by decide) (by decide) rfl (by decide) ?_
          refine aw_aload_n 1 dX9_count_95 rfl rfl ?_
          refine aw_get fX9_142 dX9_count_96 h88 rfl ?_
          subst hQF
          exact aw_iret rfl dX9_count_99 (by decide) (by decide) ⟨_, rfl, rfl, trivial⟩
        · obtain rfl : w = 8 := (i_eq _ _).mpr (e0.trans (show (8 : Int) = (8 : Int32).toInt from rfl))
          refine aw_tableIn 100 dX9_count_40 (by decide) (by decide) rfl (by decide) ?_
          refine aw_iconst (0) dX9_count_100 (by decide) ?_
          refine aw_istore_n [(3, .int 0), (2, .int 0), (0, .ref (G.1 + 88)), (1, .int 8)] dX9_count_101 rfl (by decide) rfl ?_
          refine aw_lv [(3, .int 0), (2, .int 0), (0, .ref (G.1 + 88))] [0, 1, 2] rfl ?_
          suffices L3959 : ∀ (mm : Nat) (x : Nat) (cv : Int32), 6 - x < mm → (x ≤ 6) → AW l G yX9_count cX9_count 5 (some .int) (xR 2 0 0) (fun _ _ => True) QF 0 0 102 [(3, .int (nI x)), (2, .int cv), (0, .ref (G.1 + 88))] [] h from L3959 (6 - 0 + 1) 0 0 (Nat.lt_succ_self _) (Nat.zero_le _)
          intro mm
          induction mm with
          | zero =>
            intro x cv hmm hx
            exact absurd hmm (Nat.not_lt_zero _)
          | succ mm ih3959 =>
            intro x cv hmm hx
            refine aw_iload_n 0 dX9_count_102 rfl rfl ?_
            refine aw_bipush (6) dX9_count_103 (by decide) ?_
            refine aw_icmp_ge 152 dX9_count_105 (by decide) (fun c105 => ?_) (fun c105 => ?_)
            · have d105 := (nv_le (a := 6) (b := x) (rfl) (rfl) (by omega) (by omega)).mp c105
              refine aw_iload_n 1 dX9_count_152 rfl rfl ?_
              subst hQF
              exact aw_iret rfl dX9_count_153 (by decide) (by decide) ⟨_, rfl, rfl, trivial⟩
            · have d105 := mt (nv_le (a := 6) (b := x) (rfl) (rfl) (by omega) (by omega)).mpr c105
              refine aw_iconst (0) dX9_count_108 (by decide) ?_
              refine aw_istore [(4, .int 0), (3, .int (nI x)), (2, .int cv), (0, .ref (G.1 + 88))] dX9_count_109 (by decide) rfl ?_
              refine aw_lv [(4, .int 0), (3, .int (nI x)), (2, .int cv), (0, .ref (G.1 + 88))] [0, 1, 2, 3] rfl ?_
              suffices L3960 : ∀ (mm : Nat) (y : Nat) (cv2 : Int32), x - y < mm → (y ≤ x) → AW l G yX9_count cX9_count 5 (some .int) (xR 2 0 0) (fun _ _ => True) QF 0 0 111 [(4, .int (nI y)), (3, .int (nI x)), (2, .int cv2), (0, .ref (G.1 + 88))] [] h from L3960 (x - 0 + 1) 0 cv (Nat.lt_succ_self _) (Nat.zero_le _)
              intro mm
              induction mm with
              | zero =>
                intro y cv2 hmm hy
                exact absurd hmm (Nat.not_lt_zero _)
              | succ mm ih3960 =>
                intro y cv2 hmm hy
                refine aw_iload 0 dX9_count_111 rfl ?_
                refine aw_iload_n 1 dX9_count_113 rfl rfl ?_
                refine aw_icmp_ge 146 dX9_count_114 (by decide) (fun c114 => ?_) (fun c114 => ?_)
                · have d114 := (nv_le (a := x) (b := y) (rfl) (rfl) (by omega) (by omega)).mp c114
                  refine aw_iinc (j := 1) (nI (x + 1)) [(3, .int (nI (x + 1))), (4, .int (nI y)), (2, .int cv2), (0, .ref (G.1 + 88))] dX9_count_146 rfl (nv_inc (rfl)) (by decide) rfl ?_
                  refine aw_goto 102 dX9_count_149 (by decide) ?_
                  refine aw_lv [(3, .int (nI (x + 1))), (2, .int cv2), (0, .ref (G.1 + 88))] [0, 2, 3] rfl ?_
                  exact ih3959 (x + 1) cv2 (by omega) (by omega)
                · have d114 := mt (nv_le (a := x) (b := y) (rfl) (rfl) (by omega) (by omega)).mpr c114
                  refine aw_iload_n 2 dX9_count_117 rfl rfl ?_
                  refine aw_aload_n 3 dX9_count_118 rfl rfl ?_
                  refine aw_get fX9_122 dX9_count_119 h88 rfl ?_
                  refine aw_bipush (6) dX9_count_122 (by decide) ?_
                  refine aw_iload_n 1 dX9_count_124 rfl rfl ?_
                  refine aw_imul dX9_count_125 ?_
                  refine aw_toe (nI (6 * x)) (nv_mul (rfl) (rfl)) ?_
                  refine aw_iload 0 dX9_count_126 rfl ?_
                  refine aw_iadd dX9_count_128 ?_
                  refine aw_toe (nI ((6 * x) + y)) (nv_add (rfl) (rfl)) ?_
                  refine aw_zald ((6 * x) + y) (rfl) (by omega) (by decide) dX9_count_129 h124 ?_
                  refine aw_if_eq 137 dX9_count_130 (by decide) (fun c130 => ?_) (fun c130 => ?_)
                  · have d130 := (j_eq (a := (cl ((6 * x) + y)).toInt) (b := (0)) (rfl) (rfl)).mp c130
                    refine aw_iconst (0) dX9_count_137 (by decide) ?_
                    refine aw_iadd dX9_count_138 ?_
                    refine aw_istore_n [(2, .int (cv2 + 0)), (4, .int (nI y)), (3, .int (nI x)), (0, .ref (G.1 + 88))] dX9_count_139 rfl (by decide) rfl ?_
                    refine aw_iinc (j := 1) (nI (y + 1)) [(4, .int (nI (y + 1))), (2, .int (cv2 + 0)), (3, .int (nI x)), (0, .ref (G.1 + 88))] dX9_count_140 rfl (nv_inc (rfl)) (by decide) rfl ?_
                    refine aw_goto 111 dX9_count_143 (by decide) ?_
                    refine aw_lv [(4, .int (nI (y + 1))), (3, .int (nI x)), (2, .int (cv2 + 0)), (0, .ref (G.1 + 88))] [0, 2, 1, 3] rfl ?_
                    exact ih3960 (y + 1) (cv2 + 0) (by omega) (by omega)
                  · have d130 := mt (j_eq (a := (cl ((6 * x) + y)).toInt) (b := (0)) (rfl) (rfl)).mpr c130
                    refine aw_iconst (1) dX9_count_133 (by decide) ?_
                    refine aw_goto 138 dX9_count_134 (by decide) ?_
                    refine aw_iadd dX9_count_138 ?_
                    refine aw_istore_n [(2, .int (cv2 + 1)), (4, .int (nI y)), (3, .int (nI x)), (0, .ref (G.1 + 88))] dX9_count_139 rfl (by decide) rfl ?_
                    refine aw_iinc (j := 1) (nI (y + 1)) [(4, .int (nI (y + 1))), (2, .int (cv2 + 1)), (3, .int (nI x)), (0, .ref (G.1 + 88))] dX9_count_140 rfl (nv_inc (rfl)) (by decide) rfl ?_
                    refine aw_goto 111 dX9_count_143 (by decide) ?_
                    refine aw_lv [(4, .int (nI (y + 1))), (3, .int (nI x)), (2, .int (cv2 + 1)), (0, .ref (G.1 + 88))] [0, 2, 1, 3] rfl ?_
                    exact ih3960 (y + 1) (cv2 + 1) (by omega) (by omega)
        · obtain rfl : w = 9 := (i_eq _ _).mpr (e0.trans (show (9 : Int) = (9 : Int32).toInt from rfl))
          refine aw_tableIn 154 dX9_count_40 (by decide) (by decide) rfl (by decide) ?_
          refine aw_iconst (0) dX9_count_154 (by decide) ?_
          refine aw_istore_n [(3, .int 0), (2, .int 0), (0, .ref (G.1 + 88)), (1, .int 9)] dX9_count_155 rfl (by decide) rfl ?_
          refine aw_lv [(3, .int 0), (2, .int 0), (0, .ref (G.1 + 88))] [0, 1, 2] rfl ?_
          suffices L3961 : ∀ (mm : Nat) (x : Nat) (cv3 : Int32), ns - x < mm → (x ≤ ns) → AW l G yX9_count cX9_count 5 (some .int) (xR 2 0 0) (fun _ _ => True) QF 0 0 156 [(3, .int (nI x)), (2, .int cv3), (0, .ref (G.1 + 88))] [] h from L3961 (ns - 0 + 1) 0 0 (Nat.lt_succ_self _) (Nat.zero_le _)
          intro mm
          induction mm with
          | zero =>
            intro x cv3 hmm hx3
            exact absurd hmm (Nat.not_lt_zero _)
          | succ mm ih3961 =>
            intro x cv3 hmm hx3
            refine aw_iload_n 0 dX9_count_156 rfl rfl ?_
            refine aw_aload_n 2 dX9_count_157 rfl rfl ?_
            refine aw_get fX9_198 dX9_count_158 h88 rfl ?_
            refine aw_icmp_ge 189 dX9_count_161 (by decide) (fun c161 => ?_) (fun c161 => ?_)
            · have d161 := (nv_le (a := ns) (b := x) (rfl) (rfl) (by omega) (by omega)).mp c161
              refine aw_iconst (0) dX9_count_189 (by decide) ?_
              refine aw_istore_n [(3, .int 0), (2, .int cv3), (0, .ref (G.1 + 88))] dX9_count_190 rfl (by decide) rfl ?_
              refine aw_lv [(3, .int 0), (2, .int cv3), (0, .ref (G.1 + 88))] [0, 1, 2] rfl ?_
              suffices L3962 : ∀ (mm : Nat) (x : Nat) (cv4 : Int32), nm - x < mm → (x ≤ nm) → AW l G yX9_count cX9_count 5 (some .int) (xR 2 0 0) (fun _ _ => True) QF 0 0 191 [(3, .int (nI x)), (2, .int cv4), (0, .ref (G.1 + 88))] [] h from L3962 (nm - 0 + 1) 0 cv3 (Nat.lt_succ_self _) (Nat.zero_le _)
              intro mm
              induction mm with
              | zero =>
                intro x cv4 hmm hx4
                exact absurd hmm (Nat.not_lt_zero _)
              | succ mm ih3962 =>
                intro x cv4 hmm hx4
                refine aw_iload_n 0 dX9_count_191 rfl rfl ?_
                refine aw_aload_n 2 dX9_count_192 rfl rfl ?_
                refine aw_get fX9_202 dX9_count_193 h88 rfl ?_
                refine aw_icmp_ge 224 dX9_count_196 (by decide) (fun c196 => ?_) (fun c196 => ?_)
                · have d196 := (nv_le (a := nm) (b := x) (rfl) (rfl) (by omega) (by omega)).mp c196
                  refine aw_iload_n 1 dX9_count_224 rfl rfl ?_
                  subst hQF
                  exact aw_iret rfl dX9_count_225 (by decide) (by decide) ⟨_, rfl, rfl, trivial⟩
                · have d196 := mt (nv_le (a := nm) (b := x) (rfl) (rfl) (by omega) (by omega)).mpr c196
                  refine aw_iload_n 1 dX9_count_199 rfl rfl ?_
                  refine aw_aload_n 2 dX9_count_200 rfl rfl ?_
                  refine aw_get fX9_89 dX9_count_201 h88 rfl ?_
                  refine aw_iload_n 0 dX9_count_204 rfl rfl ?_
                  refine aw_iald x (rfl) (by omega) (by decide) dX9_count_205 h113 ?_
                  refine aw_ldc (1000000000) kX9_201 dX9_count_206 ?_
                  refine aw_icmp_ge 215 dX9_count_208 (by decide) (fun c208 => ?_) (fun c208 => ?_)
                  · have d208 := (j_le (a := (1000000000)) (b := (g2 x).toInt) (rfl) (rfl)).mp c208
                    refine aw_iconst (0) dX9_count_215 (by decide) ?_
                    refine aw_iadd dX9_count_216 ?_
                    refine aw_istore_n [(2, .int (cv4 + 0)), (3, .int (nI x)), (0, .ref (G.1 + 88))] dX9_count_217 rfl (by decide) rfl ?_
                    refine aw_iinc (j := 1) (nI (x + 1)) [(3, .int (nI (x + 1))), (2, .int (cv4 + 0)), (0, .ref (G.1 + 88))] dX9_count_218 rfl (nv_inc (rfl)) (by decide) rfl ?_
                    refine aw_goto 191 dX9_count_221 (by decide) ?_
                    refine aw_lv [(3, .int (nI (x + 1))), (2, .int (cv4 + 0)), (0, .ref (G.1 + 88))] [0, 1, 2] rfl ?_
                    exact ih3962 (x + 1) (cv4 + 0) (by omega) (by omega)
                  · have d208 := mt (j_le (a := (1000000000)) (b := (g2 x).toInt) (rfl) (rfl)).mpr c208
                    refine aw_iconst (1) dX9_count_211 (by decide) ?_
                    refine aw_goto 216 dX9_count_212 (by decide) ?_
                    refine aw_iadd dX9_count_216 ?_
                    refine aw_istore_n [(2, .int (cv4 + 1)), (3, .int (nI x)), (0, .ref (G.1 + 88))] dX9_count_217 rfl (by decide) rfl ?_
                    refine aw_iinc (j := 1) (nI (x + 1)) [(3, .int (nI (x + 1))), (2, .int (cv4 + 1)), (0, .ref (G.1 + 88))] dX9_count_218 rfl (nv_inc (rfl)) (by decide) rfl ?_
                    refine aw_goto 191 dX9_count_221 (by decide) ?_
                    refine aw_lv [(3, .int (nI (x + 1))), (2, .int (cv4 + 1)), (0, .ref (G.1 + 88))] [0, 1, 2] rfl ?_
                    exact ih3962 (x + 1) (cv4 + 1) (by omega) (by omega)
            · have d161 := mt (nv_le (a := ns) (b := x) (rfl) (rfl) (by omega) (by omega)).mpr c161
              refine aw_iload_n 1 dX9_count_164 rfl rfl ?_
              refine aw_aload_n 2 dX9_count_165 rfl rfl ?_
              refine aw_get fX9_71 dX9_count_166 h88 rfl ?_
              refine aw_iload_n 0 dX9_count_169 rfl rfl ?_
              refine aw_iald x (rfl) (by omega) (by decide) dX9_count_170 h107 ?_
              refine aw_ldc (1000000000) kX9_201 dX9_count_171 ?_
              refine aw_icmp_ge 180 dX9_count_173 (by decide) (fun c173 => ?_) (fun c173 => ?_)
              · have d173 := (j_le (a := (1000000000)) (b := (g1 x).toInt) (rfl) (rfl)).mp c173
                refine aw_iconst (0) dX9_count_180 (by decide) ?_
                refine aw_iadd dX9_count_181 ?_
                refine aw_istore_n [(2, .int (cv3 + 0)), (3, .int (nI x)), (0, .ref (G.1 + 88))] dX9_count_182 rfl (by decide) rfl ?_
                refine aw_iinc (j := 1) (nI (x + 1)) [(3, .int (nI (x + 1))), (2, .int (cv3 + 0)), (0, .ref (G.1 + 88))] dX9_count_183 rfl (nv_inc (rfl)) (by decide) rfl ?_
                refine aw_goto 156 dX9_count_186 (by decide) ?_
                refine aw_lv [(3, .int (nI (x + 1))), (2, .int (cv3 + 0)), (0, .ref (G.1 + 88))] [0, 1, 2] rfl ?_
                exact ih3961 (x + 1) (cv3 + 0) (by omega) (by omega)
              · have d173 := mt (j_le (a := (1000000000)) (b := (g1 x).toInt) (rfl) (rfl)).mpr c173
                refine aw_iconst (1) dX9_count_176 (by decide) ?_
                refine aw_goto 181 dX9_count_177 (by decide) ?_
                refine aw_iadd dX9_count_181 ?_
                refine aw_istore_n [(2, .int (cv3 + 1)), (3, .int (nI x)), (0, .ref (G.1 + 88))] dX9_count_182 rfl (by decide) rfl ?_
                refine aw_iinc (j := 1) (nI (x + 1)) [(3, .int (nI (x + 1))), (2, .int (cv3 + 1)), (0, .ref (G.1 + 88))] dX9_count_183 rfl (nv_inc (rfl)) (by decide) rfl ?_
                refine aw_goto 156 dX9_count_186 (by decide) ?_
                refine aw_lv [(3, .int (nI (x + 1))), (2, .int (cv3 + 1)), (0, .ref (G.1 + 88))] [0, 1, 2] rfl ?_
                exact ih3961 (x + 1) (cv3 + 1) (by omega) (by omega)
        · refine aw_tableOut 226 dX9_count_40 (by omega) (by decide) ?_
          refine aw_bipush (-9) dX9_count_226 (by decide) ?_
          subst hQF
          exact aw_iret rfl dX9_count_228 (by decide) (by decide) ⟨_, rfl, rfl, trivial⟩
      · have t27 := ite_1 c27
        obtain ⟨w0, bb_w0, ee_w0⟩ := i_nat (x := w) (N := 4) (by omega) (by omega)
        subst ee_w0
        have tt_w0 : (nI w0).toInt = (w0 : Int) := nI_toInt (by omega)
        have nn_w0 : tn (nI w0) = w0 := tn_nI (by omega)
        refine aw_aload_n 0 dX9_count_30 rfl rfl ?_
        refine aw_get fX9_19 dX9_count_31 h88 rfl ?_
        refine aw_iload_n 1 dX9_count_34 rfl rfl ?_
        refine aw_iald w0 (rfl) (by omega) (by decide) dX9_count_35 h92 ?_
        refine aw_toe (nI (fi w0)) (rfl) ?_
        have b3963 := hfi w0 (by omega)
        subst hQF
        exact aw_iret rfl dX9_count_36 (by decide) (by decide) ⟨_, rfl, rfl, trivial⟩
    · have d9 := mt (j_le (a := (17)) (b := w.toInt) (rfl) (rfl)).mpr c9
      obtain ⟨w0, bw, ew⟩ := i_nat (x := w) (N := 17) (by omega) (by omega)
      subst ew
      have tt9 : (nI w0).toInt = (w0 : Int) := nI_toInt (by omega)
      refine aw_aload_n 0 dX9_count_12 rfl rfl ?_
      refine aw_get fX9_7 dX9_count_13 h88 rfl ?_
      refine aw_iload_n 1 dX9_count_16 rfl rfl ?_
      refine aw_bipush (10) dX9_count_17 (by decide) ?_
      refine aw_isub dX9_count_19 ?_
      refine aw_toe (nI (w0 - 10)) (nv_sub (rfl) (rfl) (by omega)) ?_
      refine aw_iald (w0 - 10) (rfl) (by omega) (by decide) dX9_count_20 h89 ?_
      subst hQF
      exact aw_iret rfl dX9_count_21 (by decide) (by decide) ⟨_, rfl, rfl, trivial⟩
