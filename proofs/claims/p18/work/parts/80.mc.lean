set_option maxHeartbeats 4000000 in
theorem bX9_finds {l : Launch} {G : xG} {h : List va_E} {sp fa nb ns nm nv sh : Nat} {ho ow sl : Int32} {lk su wy : Nat → Int32} {n m : Nat} (h88 : h[88]? = some (oB 9 (lM G (nI sp) (nI fa) (nI nb) (nI ns) (nI nm) ho ow sl (nI nv) (nI sh)))) (h99 : h[99]? = some (aI 100 lk)) (h100 : h[100]? = some (aI 11264 su)) (h102 : h[102]? = some (aI 11264 wy)) (hn : n ≤ 10) (hm : m ≤ 10) : CU l G yX9_finds cX9_finds 11 (some .int) 1 0 0 [.ref (G.1 + 88), .int (nI n), .int (nI m)] h (fun r h1 => ∃ su1 : Nat → Int32, ∃ wy1 : Nat → Int32, h1[100]? = some (aI 11264 su1) ∧ h1[102]? = some (aI 11264 wy1) ∧ rg2 100 100 102 102 h h1 ∧ True) := by
  refine cm_ofQ rfl (Nat.le_of_ble_eq_true rfl) [(0, .ref (G.1 + 88)), (1, .int (nI n)), (2, .int (nI m))] rfl (fun QF hQF => ?_)
  have pw := pw10 m hm
  refine aw_iconst (1) dX9_finds_0 (by decide) ?_
  refine aw_iload_n 2 dX9_finds_1 rfl rfl ?_
  refine aw_ishl dX9_finds_2 ?_
  refine aw_toe (nI (2 ^ m)) (nv_shl1 (rfl) (by omega)) ?_
  refine aw_istore_n [(3, .int (nI (2 ^ m))), (0, .ref (G.1 + 88)), (1, .int (nI n)), (2, .int (nI m))] dX9_finds_3 rfl (by decide) rfl ?_
  refine aw_iconst (0) dX9_finds_4 (by decide) ?_
  refine aw_istore [(4, .int 0), (3, .int (nI (2 ^ m))), (0, .ref (G.1 + 88)), (1, .int (nI n)), (2, .int (nI m))] dX9_finds_5 (by decide) rfl ?_
  refine aw_lv [(4, .int 0), (3, .int (nI (2 ^ m))), (2, .int (nI m)), (1, .int (nI n)), (0, .ref (G.1 + 88))] [0, 1, 4, 3, 2] rfl ?_
  suffices L1740 : ∀ (mm : Nat) (s : Nat) (su1 : Nat → Int32) (wy1 : Nat → Int32) (h1734 : List va_E), 2 ^ m - s < mm → (s ≤ 2 ^ m) → h1734[88]? = some (oB 9 (lM G (nI sp) (nI fa) (nI nb) (nI ns) (nI nm) ho ow sl (nI nv) (nI sh))) → h1734[99]? = some (aI 100 lk) → h1734[100]? = some (aI 11264 su1) → h1734[102]? = some (aI 11264 wy1) → rg2 100 100 102 102 h h1734 → AW l G yX9_finds cX9_finds 11 (some .int) (xR 1 0 0) (fun _ _ => True) QF 0 0 7 [(4, .int (nI s)), (3, .int (nI (2 ^ m))), (2, .int (nI m)), (1, .int (nI n)), (0, .ref (G.1 + 88))] [] h1734 from L1740 (2 ^ m - 0 + 1) 0 su wy _ (Nat.lt_succ_self _) (Nat.zero_le _) h88 h99 h100 h102 (rg2_rf 100 100 102 102 h)
  intro mm
  induction mm with
  | zero =>
    intro s su1 wy1 h1734 hmm hs f1735 f1736 f1737 f1738 k1739
    exact absurd hmm (Nat.not_lt_zero _)
  | succ mm ih1740 =>
    intro s su1 wy1 h1734 hmm hs f1735 f1736 f1737 f1738 k1739
    refine aw_iload 0 dX9_finds_7 rfl ?_
    refine aw_iload_n 1 dX9_finds_9 rfl rfl ?_
    refine aw_icmp_ge 43 dX9_finds_10 (by decide) (fun c10 => ?_) (fun c10 => ?_)
    · have d10 := (nv_le (a := 2 ^ m) (b := s) (rfl) (rfl) (by omega) (by omega)).mp c10
      refine aw_iload_n 3 dX9_finds_43 rfl rfl ?_
      refine aw_iconst (1) dX9_finds_44 (by decide) ?_
      refine aw_isub dX9_finds_45 ?_
      refine aw_istore [(4, .int ((nI n) - 1)), (3, .int (nI (2 ^ m))), (2, .int (nI m)), (1, .int (nI n)), (0, .ref (G.1 + 88))] dX9_finds_46 (by decide) rfl ?_
      refine aw_lv [(4, .int ((nI n) - 1)), (3, .int (nI (2 ^ m))), (2, .int (nI m)), (1, .int (nI n)), (0, .ref (G.1 + 88))] [0, 1, 2, 3, 4] rfl ?_
      suffices L1747 : ∀ (mm : Nat) (x : Nat) (xv : Int32) (su2 : Nat → Int32) (wy2 : Nat → Int32) (h1741 : List va_E), x < mm → ((x = 0 ∧ xv = -1) ∨ ∃ i, i < n ∧ xv = nI i ∧ x = i + 1) → h1741[88]? = some (oB 9 (lM G (nI sp) (nI fa) (nI nb) (nI ns) (nI nm) ho ow sl (nI nv) (nI sh))) → h1741[99]? = some (aI 100 lk) → h1741[100]? = some (aI 11264 su2) → h1741[102]? = some (aI 11264 wy2) → rg2 100 100 102 102 h h1741 → AW l G yX9_finds cX9_finds 11 (some .int) (xR 1 0 0) (fun _ _ => True) QF 0 0 48 [(4, .int xv), (3, .int (nI (2 ^ m))), (2, .int (nI m)), (1, .int (nI n)), (0, .ref (G.1 + 88))] [] h1741 from L1747 (n + 1) n ((nI n) - 1) su1 wy1 _ (Nat.lt_succ_self _) (dec_s (Nat.le_refl _)) f1735 f1736 f1737 f1738 (k1739)
      intro mm
      induction mm with
      | zero =>
        intro x xv su2 wy2 h1741 hmm hx f1742 f1743 f1744 f1745 k1746
        exact absurd hmm (Nat.not_lt_zero _)
      | succ mm ih1747 =>
        intro x xv su2 wy2 h1741 hmm hx f1742 f1743 f1744 f1745 k1746
        rcases hx with ⟨rfl, rfl⟩ | ⟨i, hi, rfl, rfl⟩
        · refine aw_iload 0 dX9_finds_48 rfl ?_
          refine aw_if_lt 262 dX9_finds_50 (by decide) (fun c50 => ?_) (fun c50 => absurd (by decide) c50)
          refine aw_aload_n 4 dX9_finds_262 rfl rfl ?_
          refine aw_get fX9_50 dX9_finds_263 f1742 rfl ?_
          refine aw_iconst (0) dX9_finds_266 (by decide) ?_
          refine aw_iald 0 (rfl) (by decide) (by decide) dX9_finds_267 f1744 ?_
          subst hQF
          exact aw_iret rfl dX9_finds_268 (by decide) (by decide) ⟨_, rfl, _, _, f1744, f1745, k1746, trivial⟩
        · refine aw_iload 0 dX9_finds_48 rfl ?_
          refine aw_if_lt 262 dX9_finds_50 (by decide) (fun c50 => absurd c50 (by simp only [i_lt, (nI_toInt (n := i) (by omega)), (show (0 : Int32).toInt = 0 from rfl)] <;> omega)) (fun c50 => ?_)
          refine aw_iconst (0) dX9_finds_53 (by decide) ?_
          refine aw_istore [(5, .int 0), (4, .int (nI i)), (3, .int (nI (2 ^ m))), (2, .int (nI m)), (1, .int (nI n)), (0, .ref (G.1 + 88))] dX9_finds_54 (by decide) rfl ?_
          refine aw_lv [(5, .int 0), (4, .int (nI i)), (3, .int (nI (2 ^ m))), (2, .int (nI m)), (1, .int (nI n)), (0, .ref (G.1 + 88))] [0, 1, 2, 3, 4, 5] rfl ?_
          suffices L1754 : ∀ (mm : Nat) (s : Nat) (su3 : Nat → Int32) (wy3 : Nat → Int32) (h1748 : List va_E), 2 ^ m - s < mm → (s ≤ 2 ^ m) → h1748[88]? = some (oB 9 (lM G (nI sp) (nI fa) (nI nb) (nI ns) (nI nm) ho ow sl (nI nv) (nI sh))) → h1748[99]? = some (aI 100 lk) → h1748[100]? = some (aI 11264 su3) → h1748[102]? = some (aI 11264 wy3) → rg2 100 100 102 102 h h1748 → AW l G yX9_finds cX9_finds 11 (some .int) (xR 1 0 0) (fun _ _ => True) QF 0 0 56 [(5, .int (nI s)), (4, .int (nI i)), (3, .int (nI (2 ^ m))), (2, .int (nI m)), (1, .int (nI n)), (0, .ref (G.1 + 88))] [] h1748 from L1754 (2 ^ m - 0 + 1) 0 su2 wy2 _ (Nat.lt_succ_self _) (Nat.zero_le _) f1742 f1743 f1744 f1745 (k1746)
          intro mm
          induction mm with
          | zero =>
            intro s su3 wy3 h1748 hmm hs3 f1749 f1750 f1751 f1752 k1753
            exact absurd hmm (Nat.not_lt_zero _)
          | succ mm ih1754 =>
            intro s su3 wy3 h1748 hmm hs3 f1749 f1750 f1751 f1752 k1753
            refine aw_iload 0 dX9_finds_56 rfl ?_
            refine aw_iload_n 2 dX9_finds_58 rfl rfl ?_
            refine aw_icmp_ge 256 dX9_finds_59 (by decide) (fun c59 => ?_) (fun c59 => ?_)
            · have d59 := (nv_le (a := 2 ^ m) (b := s) (rfl) (rfl) (by omega) (by omega)).mp c59
              refine aw_iinc (j := 1) ((nI i) + (-1)) [(4, .int ((nI i) + (-1))), (5, .int (nI s)), (3, .int (nI (2 ^ m))), (2, .int (nI m)), (1, .int (nI n)), (0, .ref (G.1 + 88))] dX9_finds_256 rfl (by rfl) (by decide) rfl ?_
              refine aw_goto 48 dX9_finds_259 (by decide) ?_
              refine aw_lv [(4, .int ((nI i) + (-1))), (3, .int (nI (2 ^ m))), (2, .int (nI m)), (1, .int (nI n)), (0, .ref (G.1 + 88))] [0, 2, 3, 4, 5] rfl ?_
              exact ih1747 i ((nI i) + (-1)) su3 wy3 _ (by omega) (dec_m (by omega)) f1749 f1750 f1751 f1752 (k1753)
            · have d59 := mt (nv_le (a := 2 ^ m) (b := s) (rfl) (rfl) (by omega) (by omega)).mpr c59
              refine aw_aload_n 5 dX9_finds_62 rfl rfl ?_
              refine aw_get fX9_50 dX9_finds_63 f1749 rfl ?_
              refine aw_iload 1 dX9_finds_66 rfl ?_
              refine aw_iconst (1) dX9_finds_68 (by decide) ?_
              refine aw_iadd dX9_finds_69 ?_
              refine aw_toe (nI (i + 1)) (nv_add (rfl) (rfl)) ?_
              refine aw_iload 0 dX9_finds_70 rfl ?_
              refine aw_dS [.int (nI (i + 1)), .int (nI s)] [.ref (G.1 + 100)] lX9_170 sX9_at mX9_at dX9_finds_72 (bX9_at (i := i + 1) (s := s) (by omega)) rfl (Nat.le_of_ble_eq_true rfl) (by decide) (by decide) rfl ?_
              refine aw_iald ((i + 1) * 1024 + s) (rfl) (by omega) (by decide) dX9_finds_75 f1751 ?_
              refine aw_istore [(6, .int (su3 ((i + 1) * 1024 + s))), (5, .int (nI s)), (4, .int (nI i)), (3, .int (nI (2 ^ m))), (2, .int (nI m)), (1, .int (nI n)), (0, .ref (G.1 + 88))] dX9_finds_76 (by decide) rfl ?_
              refine aw_aload_n 6 dX9_finds_78 rfl rfl ?_
              refine aw_get fX9_56 dX9_finds_79 f1749 rfl ?_
              refine aw_iload 2 dX9_finds_82 rfl ?_
              refine aw_iconst (1) dX9_finds_84 (by decide) ?_
              refine aw_iadd dX9_finds_85 ?_
              refine aw_toe (nI (i + 1)) (nv_add (rfl) (rfl)) ?_
              refine aw_iload 1 dX9_finds_86 rfl ?_
              refine aw_dS [.int (nI (i + 1)), .int (nI s)] [.ref (G.1 + 102)] lX9_170 sX9_at mX9_at dX9_finds_88 (bX9_at (i := i + 1) (s := s) (by omega)) rfl (Nat.le_of_ble_eq_true rfl) (by decide) (by decide) rfl ?_
              refine aw_iald ((i + 1) * 1024 + s) (rfl) (by omega) (by decide) dX9_finds_91 f1752 ?_
              refine aw_istore [(7, .int (wy3 ((i + 1) * 1024 + s))), (6, .int (su3 ((i + 1) * 1024 + s))), (5, .int (nI s)), (4, .int (nI i)), (3, .int (nI (2 ^ m))), (2, .int (nI m)), (1, .int (nI n)), (0, .ref (G.1 + 88))] dX9_finds_92 (by decide) rfl ?_
              refine aw_iconst (0) dX9_finds_94 (by decide) ?_
              refine aw_istore [(8, .int 0), (7, .int (wy3 ((i + 1) * 1024 + s))), (6, .int (su3 ((i + 1) * 1024 + s))), (5, .int (nI s)), (4, .int (nI i)), (3, .int (nI (2 ^ m))), (2, .int (nI m)), (1, .int (nI n)), (0, .ref (G.1 + 88))] dX9_finds_95 (by decide) rfl ?_
              refine aw_lv [(8, .int 0), (7, .int (wy3 ((i + 1) * 1024 + s))), (6, .int (su3 ((i + 1) * 1024 + s))), (5, .int (nI s)), (4, .int (nI i)), (3, .int (nI (2 ^ m))), (2, .int (nI m)), (1, .int (nI n)), (0, .ref (G.1 + 88))] [0, 1, 2, 3, 4, 5, 6, 7, 8] rfl ?_
              suffices L1755 : ∀ (mm : Nat) (k : Nat) (wv : Int32) (bv : Int32), m - k < mm → (k ≤ m) → AW l G yX9_finds cX9_finds 11 (some .int) (xR 1 0 0) (fun _ _ => True) QF 0 0 97 [(8, .int (nI k)), (7, .int wv), (6, .int bv), (5, .int (nI s)), (4, .int (nI i)), (3, .int (nI (2 ^ m))), (2, .int (nI m)), (1, .int (nI n)), (0, .ref (G.1 + 88))] [] h1748 from L1755 (m - 0 + 1) 0 (wy3 ((i + 1) * 1024 + s)) (su3 ((i + 1) * 1024 + s)) (Nat.lt_succ_self _) (Nat.zero_le _)
              intro mm
              induction mm with
              | zero =>
                intro k wv bv hmm hk
                exact absurd hmm (Nat.not_lt_zero _)
              | succ mm ih1755 =>
                intro k wv bv hmm hk
                refine aw_iload 0 dX9_finds_97 rfl ?_
                refine aw_iload_n 6 dX9_finds_99 rfl rfl ?_
                refine aw_icmp_ge 222 dX9_finds_100 (by decide) (fun c100 => ?_) (fun c100 => ?_)
                · have d100 := (nv_le (a := m) (b := k) (rfl) (rfl) (by omega) (by omega)).mp c100
                  refine aw_aload_n 8 dX9_finds_222 rfl rfl ?_
                  refine aw_get fX9_50 dX9_finds_223 f1749 rfl ?_
                  refine aw_iload 4 dX9_finds_226 rfl ?_
                  refine aw_iload 3 dX9_finds_228 rfl ?_
                  refine aw_dS [.int (nI i), .int (nI s)] [.ref (G.1 + 100)] lX9_170 sX9_at mX9_at dX9_finds_230 (bX9_at (i := i) (s := s) (by omega)) rfl (Nat.le_of_ble_eq_true rfl) (by decide) (by decide) rfl ?_
                  refine aw_iload 2 dX9_finds_233 rfl ?_
                  refine aw_iast (i * 1024 + s) (rfl) (by omega) (by decide) dX9_finds_235 f1751 ?_
                  refine aw_aload_n 8 dX9_finds_236 rfl rfl ?_
                  refine aw_get fX9_56 dX9_finds_237 (gn (by decide) (f1749)) rfl ?_
                  refine aw_iload 4 dX9_finds_240 rfl ?_
                  refine aw_iload 3 dX9_finds_242 rfl ?_
                  refine aw_dS [.int (nI i), .int (nI s)] [.ref (G.1 + 102)] lX9_170 sX9_at mX9_at dX9_finds_244 (bX9_at (i := i) (s := s) (by omega)) rfl (Nat.le_of_ble_eq_true rfl) (by decide) (by decide) rfl ?_
                  refine aw_iload 1 dX9_finds_247 rfl ?_
                  refine aw_iast (i * 1024 + s) (rfl) (by omega) (by decide) dX9_finds_249 (gn (by decide) (f1752)) ?_
                  refine aw_iinc (j := 3) (nI (s + 1)) [(5, .int (nI (s + 1))), (8, .int (nI k)), (7, .int wv), (6, .int bv), (4, .int (nI i)), (3, .int (nI (2 ^ m))), (2, .int (nI m)), (1, .int (nI n)), (0, .ref (G.1 + 88))] dX9_finds_250 rfl (nv_inc (rfl)) (by decide) rfl ?_
                  refine aw_goto 56 dX9_finds_253 (by decide) ?_
                  refine aw_lv [(5, .int (nI (s + 1))), (4, .int (nI i)), (3, .int (nI (2 ^ m))), (2, .int (nI m)), (1, .int (nI n)), (0, .ref (G.1 + 88))] [0, 4, 5, 6, 7, 8] rfl ?_
                  exact ih1754 (s + 1) (upd su3 (i * 1024 + s) bv) (upd wy3 (i * 1024 + s) wv) _ (by omega) (by omega) (gn (by decide) (gn (by decide) (f1749))) (gn (by decide) (gn (by decide) (f1750))) (gn (by decide) (gs f1751)) (gs (gn (by decide) (f1752))) (rg2_set (rg2_set (k1753) (by decide)) (by decide))
                · have d100 := mt (nv_le (a := m) (b := k) (rfl) (rfl) (by omega) (by omega)).mpr c100
                  refine aw_aload_n 8 dX9_finds_103 rfl rfl ?_
                  refine aw_get fX9_47 dX9_finds_104 f1749 rfl ?_
                  refine aw_bipush (10) dX9_finds_107 (by decide) ?_
                  refine aw_iload 4 dX9_finds_109 rfl ?_
                  refine aw_imul dX9_finds_111 ?_
                  refine aw_toe (nI (10 * i)) (nv_mul (rfl) (rfl)) ?_
                  refine aw_iload 0 dX9_finds_112 rfl ?_
                  refine aw_iadd dX9_finds_114 ?_
                  refine aw_toe (nI ((10 * i) + k)) (nv_add (rfl) (rfl)) ?_
                  refine aw_iald ((10 * i) + k) (rfl) (by omega) (by decide) dX9_finds_115 f1750 ?_
                  refine aw_istore [(9, .int (lk ((10 * i) + k))), (8, .int (nI k)), (7, .int wv), (6, .int bv), (5, .int (nI s)), (4, .int (nI i)), (3, .int (nI (2 ^ m))), (2, .int (nI m)), (1, .int (nI n)), (0, .ref (G.1 + 88))] dX9_finds_116 (by decide) rfl ?_
                  refine aw_iload 0 dX9_finds_118 rfl ?_
                  refine aw_if_eq 216 dX9_finds_120 (by decide) (fun c120 => ?_) (fun c120 => ?_)
                  · have d120 := (j_eq (a := (lk ((10 * i) + k)).toInt) (b := (0)) (rfl) (rfl)).mp c120
                    refine aw_iinc (j := 1) (nI (k + 1)) [(8, .int (nI (k + 1))), (9, .int (lk ((10 * i) + k))), (7, .int wv), (6, .int bv), (5, .int (nI s)), (4, .int (nI i)), (3, .int (nI (2 ^ m))), (2, .int (nI m)), (1, .int (nI n)), (0, .ref (G.1 + 88))] dX9_finds_216 rfl (nv_inc (rfl)) (by decide) rfl ?_
                    refine aw_goto 97 dX9_finds_219 (by decide) ?_
                    refine aw_lv [(8, .int (nI (k + 1))), (7, .int wv), (6, .int bv), (5, .int (nI s)), (4, .int (nI i)), (3, .int (nI (2 ^ m))), (2, .int (nI m)), (1, .int (nI n)), (0, .ref (G.1 + 88))] [0, 2, 3, 4, 5, 6, 7, 8, 9] rfl ?_
                    exact ih1755 (k + 1) wv bv (by omega) (by omega)
                  · have d120 := mt (j_eq (a := (lk ((10 * i) + k)).toInt) (b := (0)) (rfl) (rfl)).mpr c120
                    refine aw_iload 4 dX9_finds_123 rfl ?_
                    refine aw_iload 1 dX9_finds_125 rfl ?_
                    refine aw_ishr dX9_finds_127 ?_
                    refine aw_iconst (1) dX9_finds_128 (by decide) ?_
                    refine aw_iand dX9_finds_129 ?_
                    refine aw_toe (if s.testBit k = true then 1 else 0) (nv_bit (rfl) (rfl) (by omega) (by omega)) ?_
                    refine aw_iconst (1) dX9_finds_130 (by decide) ?_
                    refine aw_icmp_ne 137 dX9_finds_131 (by decide) (fun c131 => ?_) (fun c131 => ?_)
                    · have t131 := ite_0e c131
                      have bq := or_k (a := s) (b := k) (by omega) (by omega)
                      refine aw_iload 0 dX9_finds_137 rfl ?_
                      refine aw_aload_n 9 dX9_finds_139 rfl rfl ?_
                      refine aw_get fX9_50 dX9_finds_140 f1749 rfl ?_
                      refine aw_iload 5 dX9_finds_143 rfl ?_
                      refine aw_iconst (1) dX9_finds_145 (by decide) ?_
                      refine aw_iadd dX9_finds_146 ?_
                      refine aw_toe (nI (i + 1)) (nv_add (rfl) (rfl)) ?_
                      refine aw_iload 4 dX9_finds_147 rfl ?_
                      refine aw_iconst (1) dX9_finds_149 (by decide) ?_
                      refine aw_iload 1 dX9_finds_150 rfl ?_
                      refine aw_ishl dX9_finds_152 ?_
                      refine aw_toe (nI (2 ^ k)) (nv_shl1 (rfl) (by omega)) ?_
                      refine aw_ior dX9_finds_153 ?_
                      refine aw_toe (nI (s ||| (2 ^ k))) (nv_or (rfl) (rfl)) ?_
                      refine aw_dS [.int (nI (i + 1)), .int (nI (s ||| (2 ^ k)))] [.ref (G.1 + 100), .int (lk ((10 * i) + k))] lX9_170 sX9_at mX9_at dX9_finds_154 (bX9_at (i := i + 1) (s := s ||| (2 ^ k)) (by omega)) rfl (Nat.le_of_ble_eq_true rfl) (by decide) (by decide) rfl ?_
                      refine aw_iald ((i + 1) * 1024 + (s ||| (2 ^ k))) (rfl) (by omega) (by decide) dX9_finds_157 f1751 ?_
                      refine aw_iadd dX9_finds_158 ?_
                      refine aw_istore [(10, .int ((lk ((10 * i) + k)) + (su3 ((i + 1) * 1024 + (s ||| (2 ^ k)))))), (9, .int (lk ((10 * i) + k))), (8, .int (nI k)), (7, .int wv), (6, .int bv), (5, .int (nI s)), (4, .int (nI i)), (3, .int (nI (2 ^ m))), (2, .int (nI m)), (1, .int (nI n)), (0, .ref (G.1 + 88))] dX9_finds_159 (by decide) rfl ?_
                      refine aw_iload 0 dX9_finds_161 rfl ?_
                      refine aw_iload 4 dX9_finds_163 rfl ?_
                      refine aw_icmp_le 171 dX9_finds_165 (by decide) (fun c165 => ?_) (fun c165 => ?_)
                      · have d165 := (j_le (a := ((lk ((10 * i) + k)) + (su3 ((i + 1) * 1024 + (s ||| (2 ^ k))))).toInt) (b := bv.toInt) (rfl) (rfl)).mp c165
                        refine aw_iload 0 dX9_finds_171 rfl ?_
                        refine aw_iload 4 dX9_finds_173 rfl ?_
                        refine aw_icmp_lt 207 dX9_finds_175 (by decide) (fun c175 => ?_) (fun c175 => ?_)
                        · have d175 := (j_lt (a := ((lk ((10 * i) + k)) + (su3 ((i + 1) * 1024 + (s ||| (2 ^ k))))).toInt) (b := bv.toInt) (rfl) (rfl)).mp c175
                          refine aw_iload 4 dX9_finds_207 rfl ?_
                          refine aw_iload 0 dX9_finds_209 rfl ?_
                          refine aw_mmax lX9_162 dX9_finds_211 (Nat.le_of_ble_eq_true rfl) (by decide) (by decide) ?_
                          refine aw_istore [(6, .int (if bv < ((lk ((10 * i) + k)) + (su3 ((i + 1) * 1024 + (s ||| (2 ^ k))))) then ((lk ((10 * i) + k)) + (su3 ((i + 1) * 1024 + (s ||| (2 ^ k))))) else bv)), (10, .int ((lk ((10 * i) + k)) + (su3 ((i + 1) * 1024 + (s ||| (2 ^ k)))))), (9, .int (lk ((10 * i) + k))), (8, .int (nI k)), (7, .int wv), (5, .int (nI s)), (4, .int (nI i)), (3, .int (nI (2 ^ m))), (2, .int (nI m)), (1, .int (nI n)), (0, .ref (G.1 + 88))] dX9_finds_214 (by decide) rfl ?_
                          refine aw_iinc (j := 3) (nI (k + 1)) [(8, .int (nI (k + 1))), (6, .int (if bv < ((lk ((10 * i) + k)) + (su3 ((i + 1) * 1024 + (s ||| (2 ^ k))))) then ((lk ((10 * i) + k)) + (su3 ((i + 1) * 1024 + (s ||| (2 ^ k))))) else bv)), (10, .int ((lk ((10 * i) + k)) + (su3 ((i + 1) * 1024 + (s ||| (2 ^ k)))))), (9, .int (lk ((10 * i) + k))), (7, .int wv), (5, .int (nI s)), (4, .int (nI i)), (3, .int (nI (2 ^ m))), (2, .int (nI m)), (1, .int (nI n)), (0, .ref (G.1 + 88))] dX9_finds_216 rfl (nv_inc (rfl)) (by decide) rfl ?_
                          refine aw_goto 97 dX9_finds_219 (by decide) ?_
                          refine aw_lv [(8, .int (nI (k + 1))), (7, .int wv), (6, .int (if bv < ((lk ((10 * i) + k)) + (su3 ((i + 1) * 1024 + (s ||| (2 ^ k))))) then ((lk ((10 * i) + k)) + (su3 ((i + 1) * 1024 + (s ||| (2 ^ k))))) else bv)), (5, .int (nI s)), (4, .int (nI i)), (3, .int (nI (2 ^ m))), (2, .int (nI m)), (1, .int (nI n)), (0, .ref (G.1 + 88))] [0, 4, 1, 5, 6, 7, 8, 9, 10] rfl ?_
                          exact ih1755 (k + 1) wv (if bv < ((lk ((10 * i) + k)) + (su3 ((i + 1) * 1024 + (s ||| (2 ^ k))))) then ((lk ((10 * i) + k)) + (su3 ((i + 1) * 1024 + (s ||| (2 ^ k))))) else bv) (by omega) (by omega)
                        · have d175 := mt (j_lt (a := ((lk ((10 * i) + k)) + (su3 ((i + 1) * 1024 + (s ||| (2 ^ k))))).toInt) (b := bv.toInt) (rfl) (rfl)).mpr c175
                          refine aw_ldc (1000000) kX9_173 dX9_finds_178 ?_
                          refine aw_iload 3 dX9_finds_180 rfl ?_
                          refine aw_aload_n 10 dX9_finds_182 rfl rfl ?_
                          refine aw_get fX9_56 dX9_finds_183 f1749 rfl ?_
                          refine aw_iload 6 dX9_finds_186 rfl ?_
                          refine aw_iconst (1) dX9_finds_188 (by decide) ?_
                          refine aw_iadd dX9_finds_189 ?_
                          refine aw_toe (nI (i + 1)) (nv_add (rfl) (rfl)) ?_
                          refine aw_iload 5 dX9_finds_190 rfl ?_
                          refine aw_iconst (1) dX9_finds_192 (by decide) ?_
                          refine aw_iload 2 dX9_finds_193 rfl ?_
                          refine aw_ishl dX9_finds_195 ?_
                          refine aw_toe (nI (2 ^ k)) (nv_shl1 (rfl) (by omega)) ?_
                          refine aw_ior dX9_finds_196 ?_
                          refine aw_toe (nI (s ||| (2 ^ k))) (nv_or (rfl) (rfl)) ?_
                          refine aw_dS [.int (nI (i + 1)), .int (nI (s ||| (2 ^ k)))] [.ref (G.1 + 102), .int wv, .int 1000000] lX9_170 sX9_at mX9_at dX9_finds_197 (bX9_at (i := i + 1) (s := s ||| (2 ^ k)) (by omega)) rfl (Nat.le_of_ble_eq_true rfl) (by decide) (by decide) rfl ?_
                          refine aw_iald ((i + 1) * 1024 + (s ||| (2 ^ k))) (rfl) (by omega) (by decide) dX9_finds_200 f1752 ?_
                          refine aw_iadd dX9_finds_201 ?_
                          refine aw_mmin lX9_174 dX9_finds_202 (Nat.le_of_ble_eq_true rfl) (by decide) (by decide) ?_
                          refine aw_istore [(7, .int (if (wv + (wy3 ((i + 1) * 1024 + (s ||| (2 ^ k))))) < 1000000 then (wv + (wy3 ((i + 1) * 1024 + (s ||| (2 ^ k))))) else 1000000)), (10, .int ((lk ((10 * i) + k)) + (su3 ((i + 1) * 1024 + (s ||| (2 ^ k)))))), (9, .int (lk ((10 * i) + k))), (8, .int (nI k)), (6, .int bv), (5, .int (nI s)), (4, .int (nI i)), (3, .int (nI (2 ^ m))), (2, .int (nI m)), (1, .int (nI n)), (0, .ref (G.1 + 88))] dX9_finds_205 (by decide) rfl ?_
                          refine aw_iload 4 dX9_finds_207 rfl ?_
                          refine aw_iload 1 dX9_finds_209 rfl ?_
                          refine aw_mmax lX9_162 dX9_finds_211 (Nat.le_of_ble_eq_true rfl) (by decide) (by decide) ?_
                          refine aw_istore [(6, .int (if bv < ((lk ((10 * i) + k)) + (su3 ((i + 1) * 1024 + (s ||| (2 ^ k))))) then ((lk ((10 * i) + k)) + (su3 ((i + 1) * 1024 + (s ||| (2 ^ k))))) else bv)), (7, .int (if (wv + (wy3 ((i + 1) * 1024 + (s ||| (2 ^ k))))) < 1000000 then (wv + (wy3 ((i + 1) * 1024 + (s ||| (2 ^ k))))) else 1000000)), (10, .int ((lk ((10 * i) + k)) + (su3 ((i + 1) * 1024 + (s ||| (2 ^ k)))))), (9, .int (lk ((10 * i) + k))), (8, .int (nI k)), (5, .int (nI s)), (4, .int (nI i)), (3, .int (nI (2 ^ m))), (2, .int (nI m)), (1, .int (nI n)), (0, .ref (G.1 + 88))] dX9_finds_214 (by decide) rfl ?_
                          refine aw_iinc (j := 4) (nI (k + 1)) [(8, .int (nI (k + 1))), (6, .int (if bv < ((lk ((10 * i) + k)) + (su3 ((i + 1) * 1024 + (s ||| (2 ^ k))))) then ((lk ((10 * i) + k)) + (su3 ((i + 1) * 1024 + (s ||| (2 ^ k))))) else bv)), (7, .int (if (wv + (wy3 ((i + 1) * 1024 + (s ||| (2 ^ k))))) < 1000000 then (wv + (wy3 ((i + 1) * 1024 + (s ||| (2 ^ k))))) else 1000000)), (10, .int ((lk ((10 * i) + k)) + (su3 ((i + 1) * 1024 + (s ||| (2 ^ k)))))), (9, .int (lk ((10 * i) + k))), (5, .int (nI s)), (4, .int (nI i)), (3, .int (nI (2 ^ m))), (2, .int (nI m)), (1, .int (nI n)), (0, .ref (G.1 + 88))] dX9_finds_216 rfl (nv_inc (rfl)) (by decide) rfl ?_
                          refine aw_goto 97 dX9_finds_219 (by decide) ?_
                          refine aw_lv [(8, .int (nI (k + 1))), (7, .int (if (wv + (wy3 ((i + 1) * 1024 + (s ||| (2 ^ k))))) < 1000000 then (wv + (wy3 ((i + 1) * 1024 + (s ||| (2 ^ k))))) else 1000000)), (6, .int (if bv < ((lk ((10 * i) + k)) + (su3 ((i + 1) * 1024 + (s ||| (2 ^ k))))) then ((lk ((10 * i) + k)) + (su3 ((i + 1) * 1024 + (s ||| (2 ^ k))))) else bv)), (5, .int (nI s)), (4, .int (nI i)), (3, .int (nI (2 ^ m))), (2, .int (nI m)), (1, .int (nI n)), (0, .ref (G.1 + 88))] [0, 2, 1, 5, 6, 7, 8, 9, 10] rfl ?_
                          exact ih1755 (k + 1) (if (wv + (wy3 ((i + 1) * 1024 + (s ||| (2 ^ k))))) < 1000000 then (wv + (wy3 ((i + 1) * 1024 + (s ||| (2 ^ k))))) else 1000000) (if bv < ((lk ((10 * i) + k)) + (su3 ((i + 1) * 1024 + (s ||| (2 ^ k))))) then ((lk ((10 * i) + k)) + (su3 ((i + 1) * 1024 + (s ||| (2 ^ k))))) else bv) (by omega) (by omega)
                      · have d165 := mt (j_le (a := ((lk ((10 * i) + k)) + (su3 ((i + 1) * 1024 + (s ||| (2 ^ k))))).toInt) (b := bv.toInt) (rfl) (rfl)).mpr c165
                        refine aw_iconst (0) dX9_finds_168 (by decide) ?_
                        refine aw_istore [(7, .int 0), (10, .int ((lk ((10 * i) + k)) + (su3 ((i + 1) * 1024 + (s ||| (2 ^ k)))))), (9, .int (lk ((10 * i) + k))), (8, .int (nI k)), (6, .int bv), (5, .int (nI s)), (4, .int (nI i)), (3, .int (nI (2 ^ m))), (2, .int (nI m)), (1, .int (nI n)), (0, .ref (G.1 + 88))] dX9_finds_169 (by decide) rfl ?_
                        refine aw_iload 1 dX9_finds_171 rfl ?_
                        refine aw_iload 4 dX9_finds_173 rfl ?_
                        refine aw_icmp_lt 207 dX9_finds_175 (by decide) (fun c175 => ?_) (fun c175 => ?_)
                        · have d175 := (j_lt (a := ((lk ((10 * i) + k)) + (su3 ((i + 1) * 1024 + (s ||| (2 ^ k))))).toInt) (b := bv.toInt) (rfl) (rfl)).mp c175
                          refine aw_iload 4 dX9_finds_207 rfl ?_
                          refine aw_iload 1 dX9_finds_209 rfl ?_
                          refine aw_mmax lX9_162 dX9_finds_211 (Nat.le_of_ble_eq_true rfl) (by decide) (by decide) ?_
                          refine aw_istore [(6, .int (if bv < ((lk ((10 * i) + k)) + (su3 ((i + 1) * 1024 + (s ||| (2 ^ k))))) then ((lk ((10 * i) + k)) + (su3 ((i + 1) * 1024 + (s ||| (2 ^ k))))) else bv)), (7, .int 0), (10, .int ((lk ((10 * i) + k)) + (su3 ((i + 1) * 1024 + (s ||| (2 ^ k)))))), (9, .int (lk ((10 * i) + k))), (8, .int (nI k)), (5, .int (nI s)), (4, .int (nI i)), (3, .int (nI (2 ^ m))), (2, .int (nI m)), (1, .int (nI n)), (0, .ref (G.1 + 88))] dX9_finds_214 (by decide) rfl ?_
                          refine aw_iinc (j := 4) (nI (k + 1)) [(8, .int (nI (k + 1))), (6, .int (if bv < ((lk ((10 * i) + k)) + (su3 ((i + 1) * 1024 + (s ||| (2 ^ k))))) then ((lk ((10 * i) + k)) + (su3 ((i + 1) * 1024 + (s ||| (2 ^ k))))) else bv)), (7, .int 0), (10, .int ((lk ((10 * i) + k)) + (su3 ((i + 1) * 1024 + (s ||| (2 ^ k)))))), (9, .int (lk ((10 * i) + k))), (5, .int (nI s)), (4, .int (nI i)), (3, .int (nI (2 ^ m))), (2, .int (nI m)), (1, .int (nI n)), (0, .ref (G.1 + 88))] dX9_finds_216 rfl (nv_inc (rfl)) (by decide) rfl ?_
                          refine aw_goto 97 dX9_finds_219 (by decide) ?_
                          refine aw_lv [(8, .int (nI (k + 1))), (7, .int 0), (6, .int (if bv < ((lk ((10 * i) + k)) + (su3 ((i + 1) * 1024 + (s ||| (2 ^ k))))) then ((lk ((10 * i) + k)) + (su3 ((i + 1) * 1024 + (s ||| (2 ^ k))))) else bv)), (5, .int (nI s)), (4, .int (nI i)), (3, .int (nI (2 ^ m))), (2, .int (nI m)), (1, .int (nI n)), (0, .ref (G.1 + 88))] [0, 2, 1, 5, 6, 7, 8, 9, 10] rfl ?_
                          exact ih1755 (k + 1) 0 (if bv < ((lk ((10 * i) + k)) + (su3 ((i + 1) * 1024 + (s ||| (2 ^ k))))) then ((lk ((10 * i) + k)) + (su3 ((i + 1) * 1024 + (s ||| (2 ^ k))))) else bv) (by omega) (by omega)
                        · have d175 := mt (j_lt (a := ((lk ((10 * i) + k)) + (su3 ((i + 1) * 1024 + (s ||| (2 ^ k))))).toInt) (b := bv.toInt) (rfl) (rfl)).mpr c175
                          refine aw_ldc (1000000) kX9_173 dX9_finds_178 ?_
                          refine aw_iload 0 dX9_finds_180 rfl ?_
                          refine aw_aload_n 10 dX9_finds_182 rfl rfl ?_
                          refine aw_get fX9_56 dX9_finds_183 f1749 rfl ?_
                          refine aw_iload 6 dX9_finds_186 rfl ?_
                          refine aw_iconst (1) dX9_finds_188 (by decide) ?_
                          refine aw_iadd dX9_finds_189 ?_
                          refine aw_toe (nI (i + 1)) (nv_add (rfl) (rfl)) ?_
                          refine aw_iload 5 dX9_finds_190 rfl ?_
                          refine aw_iconst (1) dX9_finds_192 (by decide) ?_
                          refine aw_iload 3 dX9_finds_193 rfl ?_
                          refine aw_ishl dX9_finds_195 ?_
                          refine aw_toe (nI (2 ^ k)) (nv_shl1 (rfl) (by omega)) ?_
                          refine aw_ior dX9_finds_196 ?_
                          refine aw_toe (nI (s ||| (2 ^ k))) (nv_or (rfl) (rfl)) ?_
                          refine aw_dS [.int (nI (i + 1)), .int (nI (s ||| (2 ^ k)))] [.ref (G.1 + 102), .int 0, .int 1000000] lX9_170 sX9_at mX9_at dX9_finds_197 (bX9_at (i := i + 1) (s := s ||| (2 ^ k)) (by omega)) rfl (Nat.le_of_ble_eq_true rfl) (by decide) (by decide) rfl ?_
                          refine aw_iald ((i + 1) * 1024 + (s ||| (2 ^ k))) (rfl) (by omega) (by decide) dX9_finds_200 f1752 ?_
                          refine aw_iadd dX9_finds_201 ?_
                          refine aw_mmin lX9_174 dX9_finds_202 (Nat.le_of_ble_eq_true rfl) (by decide) (by decide) ?_
                          refine aw_istore [(7, .int (if (0 + (wy3 ((i + 1) * 1024 + (s ||| (2 ^ k))))) < 1000000 then (0 + (wy3 ((i + 1) * 1024 + (s ||| (2 ^ k))))) else 1000000)), (10, .int ((lk ((10 * i) + k)) + (su3 ((i + 1) * 1024 + (s ||| (2 ^ k)))))), (9, .int (lk ((10 * i) + k))), (8, .int (nI k)), (6, .int bv), (5, .int (nI s)), (4, .int (nI i)), (3, .int (nI (2 ^ m))), (2, .int (nI m)), (1, .int (nI n)), (0, .ref (G.1 + 88))] dX9_finds_205 (by decide) rfl ?_
                          refine aw_iload 4 dX9_finds_207 rfl ?_
                          refine aw_iload 1 dX9_finds_209 rfl ?_
                          refine aw_mmax lX9_162 dX9_finds_211 (Nat.le_of_ble_eq_true rfl) (by decide) (by decide) ?_
                          refine aw_istore [(6, .int (if bv < ((lk ((10 * i) + k)) + (su3 ((i + 1) * 1024 + (s ||| (2 ^ k))))) then ((lk ((10 * i) + k)) + (su3 ((i + 1) * 1024 + (s ||| (2 ^ k))))) else bv)), (7, .int (if (0 + (wy3 ((i + 1) * 1024 + (s ||| (2 ^ k))))) < 1000000 then (0 + (wy3 ((i + 1) * 1024 + (s ||| (2 ^ k))))) else 1000000)), (10, .int ((lk ((10 * i) + k)) + (su3 ((i + 1) * 1024 + (s ||| (2 ^ k)))))), (9, .int (lk ((10 * i) + k))), (8, .int (nI k)), (5, .int (nI s)), (4, .int (nI i)), (3, .int (nI (2 ^ m))), (2, .int (nI m)), (1, .int (nI n)), (0, .ref (G.1 + 88))] dX9_finds_214 (by decide) rfl ?_
                          refine aw_iinc (j := 4) (nI (k + 1)) [(8, .int (nI (k + 1))), (6, .int (if bv < ((lk ((10 * i) + k)) + (su3 ((i + 1) * 1024 + (s ||| (2 ^ k))))) then ((lk ((10 * i) + k)) + (su3 ((i + 1) * 1024 + (s ||| (2 ^ k))))) else bv)), (7, .int (if (0 + (wy3 ((i + 1) * 1024 + (s ||| (2 ^ k))))) < 1000000 then (0 + (wy3 ((i + 1) * 1024 + (s ||| (2 ^ k))))) else 1000000)), (10, .int ((lk ((10 * i) + k)) + (su3 ((i + 1) * 1024 + (s ||| (2 ^ k)))))), (9, .int (lk ((10 * i) + k))), (5, .int (nI s)), (4, .int (nI i)), (3, .int (nI (2 ^ m))), (2, .int (nI m)), (1, .int (nI n)), (0, .ref (G.1 + 88))] dX9_finds_216 rfl (nv_inc (rfl)) (by decide) rfl ?_
                          refine aw_goto 97 dX9_finds_219 (by decide) ?_
                          refine aw_lv [(8, .int (nI (k + 1))), (7, .int (if (0 + (wy3 ((i + 1) * 1024 + (s ||| (2 ^ k))))) < 1000000 then (0 + (wy3 ((i + 1) * 1024 + (s ||| (2 ^ k))))) else 1000000)), (6, .int (if bv < ((lk ((10 * i) + k)) + (su3 ((i + 1) * 1024 + (s ||| (2 ^ k))))) then ((lk ((10 * i) + k)) + (su3 ((i + 1) * 1024 + (s ||| (2 ^ k))))) else bv)), (5, .int (nI s)), (4, .int (nI i)), (3, .int (nI (2 ^ m))), (2, .int (nI m)), (1, .int (nI n)), (0, .ref (G.1 + 88))] [0, 2, 1, 5, 6, 7, 8, 9, 10] rfl ?_
                          exact ih1755 (k + 1) (if (0 + (wy3 ((i + 1) * 1024 + (s ||| (2 ^ k))))) < 1000000 then (0 + (wy3 ((i + 1) * 1024 + (s ||| (2 ^ k))))) else 1000000) (if bv < ((lk ((10 * i) + k)) + (su3 ((i + 1) * 1024 + (s ||| (2 ^ k))))) then ((lk ((10 * i) + k)) + (su3 ((i + 1) * 1024 + (s ||| (2 ^ k))))) else bv) (by omega) (by omega)
                    · have t131 := ite_1e c131
                      refine aw_goto 216 dX9_finds_134 (by decide) ?_
                      refine aw_iinc (j := 1) (nI (k + 1)) [(8, .int (nI (k + 1))), (9, .int (lk ((10 * i) + k))), (7, .int wv), (6, .int bv), (5, .int (nI s)), (4, .int (nI i)), (3, .int (nI (2 ^ m))), (2, .int (nI m)), (1, .int (nI n)), (0, .ref (G.1 + 88))] dX9_finds_216 rfl (nv_inc (rfl)) (by decide) rfl ?_
                      refine aw_goto 97 dX9_finds_219 (by decide) ?_
                      refine aw_lv [(8, .int (nI (k + 1))), (7, .int wv), (6, .int bv), (5, .int (nI s)), (4, .int (nI i)), (3, .int (nI (2 ^ m))), (2, .int (nI m)), (1, .int (nI n)), (0, .ref (G.1 + 88))] [0, 2, 3, 4, 5, 6, 7, 8, 9] rfl ?_
                      exact ih1755 (k + 1) wv bv (by omega) (by omega)
    · have d10 := mt (nv_le (a := 2 ^ m) (b := s) (rfl) (rfl) (by omega) (by omega)).mpr c10
      refine aw_aload_n 4 dX9_finds_13 rfl rfl ?_
      refine aw_get fX9_50 dX9_finds_14 f1735 rfl ?_
      refine aw_iload_n 3 dX9_finds_17 rfl rfl ?_
      refine aw_iload 0 dX9_finds_18 rfl ?_
      refine aw_dS [.int (nI n), .int (nI s)] [.ref (G.1 + 100)] lX9_170 sX9_at mX9_at dX9_finds_20 (bX9_at (i := n) (s := s) (by omega)) rfl (Nat.le_of_ble_eq_true rfl) (by decide) (by decide) rfl ?_
      refine aw_iconst (0) dX9_finds_23 (by decide) ?_
      refine aw_iast (n * 1024 + s) (rfl) (by omega) (by decide) dX9_finds_24 f1737 ?_
      refine aw_aload_n 4 dX9_finds_25 rfl rfl ?_
      refine aw_get fX9_56 dX9_finds_26 (gn (by decide) (f1735)) rfl ?_
      refine aw_iload_n 3 dX9_finds_29 rfl rfl ?_
      refine aw_iload 0 dX9_finds_30 rfl ?_
      refine aw_dS [.int (nI n), .int (nI s)] [.ref (G.1 + 102)] lX9_170 sX9_at mX9_at dX9_finds_32 (bX9_at (i := n) (s := s) (by omega)) rfl (Nat.le_of_ble_eq_true rfl) (by decide) (by decide) rfl ?_
      refine aw_iconst (1) dX9_finds_35 (by decide) ?_
      refine aw_iast (n * 1024 + s) (rfl) (by omega) (by decide) dX9_finds_36 (gn (by decide) (f1738)) ?_
      refine aw_iinc (j := 0) (nI (s + 1)) [(4, .int (nI (s + 1))), (3, .int (nI (2 ^ m))), (2, .int (nI m)), (1, .int (nI n)), (0, .ref (G.1 + 88))] dX9_finds_37 rfl (nv_inc (rfl)) (by decide) rfl ?_
      refine aw_goto 7 dX9_finds_40 (by decide) ?_
      refine aw_lv [(4, .int (nI (s + 1))), (3, .int (nI (2 ^ m))), (2, .int (nI m)), (1, .int (nI n)), (0, .ref (G.1 + 88))] [0, 1, 2, 3, 4] rfl ?_
      exact ih1740 (s + 1) (upd su1 (n * 1024 + s) 0) (upd wy1 (n * 1024 + s) 1) _ (by omega) (by omega) (gn (by decide) (gn (by decide) (f1735))) (gn (by decide) (gn (by decide) (f1736))) (gn (by decide) (gs f1737)) (gs (gn (by decide) (f1738))) (rg2_set (rg2_set (k1739) (by decide)) (by decide))
