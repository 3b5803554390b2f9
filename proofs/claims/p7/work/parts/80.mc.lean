set_option maxHeartbeats 4000000 in
theorem bX9_finds {l : Launch} {G : xG} {h : List va_E} {sp fa nb ns nm nv sh : Nat} {ho ow sl : Int32} {lk su wy : Nat → Int32} {n m : Nat} {lx : Nat → Nat → Nat} (h88 : h[88]? = some (oB 9 (lM G (nI sp) (nI fa) (nI nb) (nI ns) (nI nm) ho ow sl (nI nv) (nI sh)))) (h99 : h[99]? = some (aI 100 lk)) (h100 : h[100]? = some (aI 11264 su)) (h102 : h[102]? = some (aI 11264 wy)) (hn : n ≤ 10) (hm : m ≤ 10) (hLk : jL lx n m lk) (hlx3 : ∀ i k, lx i k ≤ 300) : CE l G yX9_finds cX9_finds 11 (some .int) 1 0 0 [.ref (G.1 + 88), .int (nI n), .int (nI m)] h (some (.int (nI (jS lx m n 0 0)))) (fun h1 => ∃ su1 : Nat → Int32, ∃ wy1 : Nat → Int32, h1[100]? = some (aI 11264 su1) ∧ h1[102]? = some (aI 11264 wy1) ∧ rg2 100 100 102 102 h h1 ∧ fR lx n m 0 su1 ∧ fW lx n m 0 wy1) := by
  refine cm_ofQ rfl (Nat.le_of_ble_eq_true rfl) [(0, .ref (G.1 + 88)), (1, .int (nI n)), (2, .int (nI m))] rfl (fun QF hQF => ?_)
  have pw := pw10 m hm
  refine aw_iconst (1) dX9_finds_0 (by decide) ?_
  refine aw_iload_n 2 dX9_finds_1 rfl rfl ?_
  refine aw_ishl dX9_finds_2 ?_
  refine aw_toe (nI (2 ^ m)) (nv_shl1 (rfl) (by omega)) ?_
  refine aw_istore_n [(3, .int (nI (2 ^ m))), (0, .ref (G.1 + 88)), (1, .int (nI n)), (2, .int (nI m))] dX9_finds_3 rfl (by decide) rfl ?_
  refine aw_iconst (0) dX9_finds_4 (by decide) ?_
  refine aw_istore [(4, .int 0), (3, .int (nI (2 ^ m))), (0, .ref (G.1 + 88)), (1, .int (nI n)), (2, .int (nI m))] dX9_finds_5 (by decide) rfl ?_
  refine aw_lv [(4, .int 0), (3, .int (nI (2 ^ m))), (2, .int (nI m)), (1, .int (nI n)), (0, .ref (G.1 + 88))] [0, 1, 4, 3, 2] rfl ?_
  suffices L1729 : ∀ (mm : Nat) (s : Nat) (su1 : Nat → Int32) (wy1 : Nat → Int32) (h1723 : List va_E), 2 ^ m - s < mm → (s ≤ 2 ^ m) → (∀ t, t < s → su1 (n * 1024 + t) = 0) → (∀ t, t < s → wy1 (n * 1024 + t) = 1) → h1723[88]? = some (oB 9 (lM G (nI sp) (nI fa) (nI nb) (nI ns) (nI nm) ho ow sl (nI nv) (nI sh))) → h1723[99]? = some (aI 100 lk) → h1723[100]? = some (aI 11264 su1) → h1723[102]? = some (aI 11264 wy1) → rg2 100 100 102 102 h h1723 → AW l G yX9_finds cX9_finds 11 (some .int) (xR 1 0 0) (fun _ _ => True) QF 0 0 7 [(4, .int (nI s)), (3, .int (nI (2 ^ m))), (2, .int (nI m)), (1, .int (nI n)), (0, .ref (G.1 + 88))] [] h1723 from L1729 (2 ^ m - 0 + 1) 0 su wy _ (Nat.lt_succ_self _) (Nat.zero_le _) (fun q h8 => absurd h8 (Nat.not_lt_zero _)) (fun q h8 => absurd h8 (Nat.not_lt_zero _)) h88 h99 h100 h102 (rg2_rf 100 100 102 102 h)
  intro mm
  induction mm with
  | zero =>
    intro s su1 wy1 h1723 hmm hs h0 h1 f1724 f1725 f1726 f1727 k1728
    exact absurd hmm (Nat.not_lt_zero _)
  | succ mm ih1729 =>
    intro s su1 wy1 h1723 hmm hs h0 h1 f1724 f1725 f1726 f1727 k1728
    refine aw_iload 0 dX9_finds_7 rfl ?_
    refine aw_iload_n 1 dX9_finds_9 rfl rfl ?_
    refine aw_icmp_ge 43 dX9_finds_10 (by decide) (fun c10 => ?_) (fun c10 => ?_)
    · have d10 := (nv_le (a := 2 ^ m) (b := s) (rfl) (rfl) (by omega) (by omega)).mp c10
      refine aw_iload_n 3 dX9_finds_43 rfl rfl ?_
      refine aw_iconst (1) dX9_finds_44 (by decide) ?_
      refine aw_isub dX9_finds_45 ?_
      refine aw_istore [(4, .int ((nI n) - 1)), (3, .int (nI (2 ^ m))), (2, .int (nI m)), (1, .int (nI n)), (0, .ref (G.1 + 88))] dX9_finds_46 (by decide) rfl ?_
      refine aw_lv [(4, .int ((nI n) - 1)), (3, .int (nI (2 ^ m))), (2, .int (nI m)), (1, .int (nI n)), (0, .ref (G.1 + 88))] [0, 1, 2, 3, 4] rfl ?_
      suffices L1736 : ∀ (mm : Nat) (x : Nat) (xv : Int32) (su2 : Nat → Int32) (wy2 : Nat → Int32) (h1730 : List va_E), x < mm → ((x = 0 ∧ xv = -1) ∨ ∃ i, i < n ∧ xv = nI i ∧ x = i + 1) → (fR lx n m x su2) → (fW lx n m x wy2) → h1730[88]? = some (oB 9 (lM G (nI sp) (nI fa) (nI nb) (nI ns) (nI nm) ho ow sl (nI nv) (nI sh))) → h1730[99]? = some (aI 100 lk) → h1730[100]? = some (aI 11264 su2) → h1730[102]? = some (aI 11264 wy2) → rg2 100 100 102 102 h h1730 → AW l G yX9_finds cX9_finds 11 (some .int) (xR 1 0 0) (fun _ _ => True) QF 0 0 48 [(4, .int xv), (3, .int (nI (2 ^ m))), (2, .int (nI m)), (1, .int (nI n)), (0, .ref (G.1 + 88))] [] h1730 from L1736 (n + 1) n ((nI n) - 1) su1 wy1 _ (Nat.lt_succ_self _) (dec_s (Nat.le_refl _)) (fR_0 (fun t ht => h0 t (by omega))) (fW_0 (fun t ht => h1 t (by omega))) f1724 f1725 f1726 f1727 (k1728)
      intro mm
      induction mm with
      | zero =>
        intro x xv su2 wy2 h1730 hmm hx hF hW f1731 f1732 f1733 f1734 k1735
        exact absurd hmm (Nat.not_lt_zero _)
      | succ mm ih1736 =>
        intro x xv su2 wy2 h1730 hmm hx hF hW f1731 f1732 f1733 f1734 k1735
        rcases hx with ⟨rfl, rfl⟩ | ⟨i, hi, rfl, rfl⟩
        · refine aw_iload 0 dX9_finds_48 rfl ?_
          refine aw_if_lt 262 dX9_finds_50 (by decide) (fun c50 => ?_) (fun c50 => absurd (by decide) c50)
          refine aw_aload_n 4 dX9_finds_262 rfl rfl ?_
          refine aw_get fX9_50 dX9_finds_263 f1731 rfl ?_
          refine aw_iconst (0) dX9_finds_266 (by decide) ?_
          refine aw_iald 0 (rfl) (by decide) (by decide) dX9_finds_267 f1733 ?_
          subst hQF
          exact aw_iret rfl dX9_finds_268 (by decide) (by decide) ⟨by rw [fR_00 hF], _, _, f1733, f1734, k1735, hF, hW⟩
        · refine aw_iload 0 dX9_finds_48 rfl ?_
          refine aw_if_lt 262 dX9_finds_50 (by decide) (fun c50 => absurd c50 (by simp only [i_lt, (nI_toInt (n := i) (by omega)), (show (0 : Int32).toInt = 0 from rfl)] <;> omega)) (fun c50 => ?_)
          refine aw_iconst (0) dX9_finds_53 (by decide) ?_
          refine aw_istore [(5, .int 0), (4, .int (nI i)), (3, .int (nI (2 ^ m))), (2, .int (nI m)), (1, .int (nI n)), (0, .ref (G.1 + 88))] dX9_finds_54 (by decide) rfl ?_
          refine aw_lv [(5, .int 0), (4, .int (nI i)), (3, .int (nI (2 ^ m))), (2, .int (nI m)), (1, .int (nI n)), (0, .ref (G.1 + 88))] [0, 1, 2, 3, 4, 5] rfl ?_
          suffices L1743 : ∀ (mm : Nat) (s : Nat) (su3 : Nat → Int32) (wy3 : Nat → Int32) (h1737 : List va_E), 2 ^ m - s < mm → (s ≤ 2 ^ m) → (fR lx n m (i + 1) su3) → (∀ t, t < s → su3 (i * 1024 + t) = nI (jS lx m (n - i) i t)) → (fW lx n m (i + 1) wy3) → (∀ t, t < s → wy3 (i * 1024 + t) = nI (min 1000000 (jC lx m (n - i) i t))) → h1737[88]? = some (oB 9 (lM G (nI sp) (nI fa) (nI nb) (nI ns) (nI nm) ho ow sl (nI nv) (nI sh))) → h1737[99]? = some (aI 100 lk) → h1737[100]? = some (aI 11264 su3) → h1737[102]? = some (aI 11264 wy3) → rg2 100 100 102 102 h h1737 → AW l G yX9_finds cX9_finds 11 (some .int) (xR 1 0 0) (fun _ _ => True) QF 0 0 56 [(5, .int (nI s)), (4, .int (nI i)), (3, .int (nI (2 ^ m))), (2, .int (nI m)), (1, .int (nI n)), (0, .ref (G.1 + 88))] [] h1737 from L1743 (2 ^ m - 0 + 1) 0 su2 wy2 _ (Nat.lt_succ_self _) (Nat.zero_le _) (hF) (fun q h8 => absurd h8 (Nat.not_lt_zero _)) (hW) (fun q h8 => absurd h8 (Nat.not_lt_zero _)) f1731 f1732 f1733 f1734 (k1735)
          intro mm
          induction mm with
          | zero =>
            intro s su3 wy3 h1737 hmm hs3 hF3 hS3 hW3 hV3 f1738 f1739 f1740 f1741 k1742
            exact absurd hmm (Nat.not_lt_zero _)
          | succ mm ih1743 =>
            intro s su3 wy3 h1737 hmm hs3 hF3 hS3 hW3 hV3 f1738 f1739 f1740 f1741 k1742
            refine aw_iload 0 dX9_finds_56 rfl ?_
            refine aw_iload_n 2 dX9_finds_58 rfl rfl ?_
            refine aw_icmp_ge 256 dX9_finds_59 (by decide) (fun c59 => ?_) (fun c59 => ?_)
            · have d59 := (nv_le (a := 2 ^ m) (b := s) (rfl) (rfl) (by omega) (by omega)).mp c59
              refine aw_iinc (j := 1) ((nI i) + (-1)) [(4, .int ((nI i) + (-1))), (5, .int (nI s)), (3, .int (nI (2 ^ m))), (2, .int (nI m)), (1, .int (nI n)), (0, .ref (G.1 + 88))] dX9_finds_256 rfl (by rfl) (by decide) rfl ?_
              refine aw_goto 48 dX9_finds_259 (by decide) ?_
              refine aw_lv [(4, .int ((nI i) + (-1))), (3, .int (nI (2 ^ m))), (2, .int (nI m)), (1, .int (nI n)), (0, .ref (G.1 + 88))] [0, 2, 3, 4, 5] rfl ?_
              exact ih1736 i ((nI i) + (-1)) su3 wy3 _ (by omega) (dec_m (by omega)) (fi_3 hF3 hS3 (by omega)) (fw_3 hW3 hV3 (by omega)) f1738 f1739 f1740 f1741 (k1742)
            · have d59 := mt (nv_le (a := 2 ^ m) (b := s) (rfl) (rfl) (by omega) (by omega)).mpr c59
              refine aw_aload_n 5 dX9_finds_62 rfl rfl ?_
              refine aw_get fX9_50 dX9_finds_63 f1738 rfl ?_
              refine aw_iload 1 dX9_finds_66 rfl ?_
              refine aw_iconst (1) dX9_finds_68 (by decide) ?_
              refine aw_iadd dX9_finds_69 ?_
              refine aw_toe (nI (i + 1)) (nv_add (rfl) (rfl)) ?_
              refine aw_iload 0 dX9_finds_70 rfl ?_
              refine aw_dS [.int (nI (i + 1)), .int (nI s)] [.ref (G.1 + 100)] lX9_170 sX9_at mX9_at dX9_finds_72 (bX9_at (i := i + 1) (s := s) (by omega)) rfl (Nat.le_of_ble_eq_true rfl) (by decide) (by decide) rfl ?_
              refine aw_iald ((i + 1) * 1024 + s) (rfl) (by omega) (by decide) dX9_finds_75 f1740 ?_
              refine aw_toe (nI (jS lx m (n - (i + 1)) (i + 1) s)) (hF3 (i + 1) (Nat.le_refl _) hi s (by omega)) ?_
              refine aw_istore [(6, .int (nI (jS lx m (n - (i + 1)) (i + 1) s))), (5, .int (nI s)), (4, .int (nI i)), (3, .int (nI (2 ^ m))), (2, .int (nI m)), (1, .int (nI n)), (0, .ref (G.1 + 88))] dX9_finds_76 (by decide) rfl ?_
              refine aw_aload_n 6 dX9_finds_78 rfl rfl ?_
              refine aw_get fX9_56 dX9_finds_79 f1738 rfl ?_
              refine aw_iload 2 dX9_finds_82 rfl ?_
              refine aw_iconst (1) dX9_finds_84 (by decide) ?_
              refine aw_iadd dX9_finds_85 ?_
              refine aw_toe (nI (i + 1)) (nv_add (rfl) (rfl)) ?_
              refine aw_iload 1 dX9_finds_86 rfl ?_
              refine aw_dS [.int (nI (i + 1)), .int (nI s)] [.ref (G.1 + 102)] lX9_170 sX9_at mX9_at dX9_finds_88 (bX9_at (i := i + 1) (s := s) (by omega)) rfl (Nat.le_of_ble_eq_true rfl) (by decide) (by decide) rfl ?_
              refine aw_iald ((i + 1) * 1024 + s) (rfl) (by omega) (by decide) dX9_finds_91 f1741 ?_
              refine aw_toe (nI (min 1000000 (jC lx m (n - (i + 1)) (i + 1) s))) (hW3 (i + 1) (Nat.le_refl _) hi s (by omega)) ?_
              refine aw_istore [(7, .int (nI (min 1000000 (jC lx m (n - (i + 1)) (i + 1) s)))), (6, .int (nI (jS lx m (n - (i + 1)) (i + 1) s))), (5, .int (nI s)), (4, .int (nI i)), (3, .int (nI (2 ^ m))), (2, .int (nI m)), (1, .int (nI n)), (0, .ref (G.1 + 88))] dX9_finds_92 (by decide) rfl ?_
              refine aw_iconst (0) dX9_finds_94 (by decide) ?_
              refine aw_istore [(8, .int 0), (7, .int (nI (min 1000000 (jC lx m (n - (i + 1)) (i + 1) s)))), (6, .int (nI (jS lx m (n - (i + 1)) (i + 1) s))), (5, .int (nI s)), (4, .int (nI i)), (3, .int (nI (2 ^ m))), (2, .int (nI m)), (1, .int (nI n)), (0, .ref (G.1 + 88))] dX9_finds_95 (by decide) rfl ?_
              refine aw_lv [(8, .int 0), (7, .int (nI (min 1000000 (jC lx m (n - (i + 1)) (i + 1) s)))), (6, .int (nI (jS lx m (n - (i + 1)) (i + 1) s))), (5, .int (nI s)), (4, .int (nI i)), (3, .int (nI (2 ^ m))), (2, .int (nI m)), (1, .int (nI n)), (0, .ref (G.1 + 88))] [0, 1, 2, 3, 4, 5, 6, 7, 8] rfl ?_
              suffices L1744 : ∀ (mm : Nat) (k : Nat) (wn : Nat) (b : Nat), m - k < mm → (k ≤ m) → (b = jM lx (jS lx m (n - (i + 1)) (i + 1)) i s k) → (wn = min 1000000 (jW lx (jS lx m (n - (i + 1)) (i + 1)) (jC lx m (n - (i + 1)) (i + 1)) i s (jM lx (jS lx m (n - (i + 1)) (i + 1)) i s k) k)) → AW l G yX9_finds cX9_finds 11 (some .int) (xR 1 0 0) (fun _ _ => True) QF 0 0 97 [(8, .int (nI k)), (7, .int (nI wn)), (6, .int (nI b)), (5, .int (nI s)), (4, .int (nI i)), (3, .int (nI (2 ^ m))), (2, .int (nI m)), (1, .int (nI n)), (0, .ref (G.1 + 88))] [] h1737 from L1744 (m - 0 + 1) 0 (min 1000000 (jC lx m (n - (i + 1)) (i + 1) s)) (jS lx m (n - (i + 1)) (i + 1) s) (Nat.lt_succ_self _) (Nat.zero_le _) (rfl) (by rw [jW_0])
              intro mm
              induction mm with
              | zero =>
                intro k wn b hmm hk hb hwn
                exact absurd hmm (Nat.not_lt_zero _)
              | succ mm ih1744 =>
                intro k wn b hmm hk hb hwn
                have bb9 := jM_le (T := jS lx m (n - (i + 1)) (i + 1)) (i := i) (s := s) (B := 3000) (fun t => by have h9 := jS_le (m := m) hlx3 (n - (i + 1)) (i + 1) t; omega) hlx3 k
                rw [← hb] at bb9
                refine aw_iload 0 dX9_finds_97 rfl ?_
                refine aw_iload_n 6 dX9_finds_99 rfl rfl ?_
                refine aw_icmp_ge 222 dX9_finds_100 (by decide) (fun c100 => ?_) (fun c100 => ?_)
                · have d100 := (nv_le (a := m) (b := k) (rfl) (rfl) (by omega) (by omega)).mp c100
                  refine aw_aload_n 8 dX9_finds_222 rfl rfl ?_
                  refine aw_get fX9_50 dX9_finds_223 f1738 rfl ?_
                  refine aw_iload 4 dX9_finds_226 rfl ?_
                  refine aw_iload 3 dX9_finds_228 rfl ?_
                  refine aw_dS [.int (nI i), .int (nI s)] [.ref (G.1 + 100)] lX9_170 sX9_at mX9_at dX9_finds_230 (bX9_at (i := i) (s := s) (by omega)) rfl (Nat.le_of_ble_eq_true rfl) (by decide) (by decide) rfl ?_
                  refine aw_iload 2 dX9_finds_233 rfl ?_
                  refine aw_iast (i * 1024 + s) (rfl) (by omega) (by decide) dX9_finds_235 f1740 ?_
                  refine aw_aload_n 8 dX9_finds_236 rfl rfl ?_
                  refine aw_get fX9_56 dX9_finds_237 (gn (by decide) (f1738)) rfl ?_
                  refine aw_iload 4 dX9_finds_240 rfl ?_
                  refine aw_iload 3 dX9_finds_242 rfl ?_
                  refine aw_dS [.int (nI i), .int (nI s)] [.ref (G.1 + 102)] lX9_170 sX9_at mX9_at dX9_finds_244 (bX9_at (i := i) (s := s) (by omega)) rfl (Nat.le_of_ble_eq_true rfl) (by decide) (by decide) rfl ?_
                  refine aw_iload 1 dX9_finds_247 rfl ?_
                  refine aw_iast (i * 1024 + s) (rfl) (by omega) (by decide) dX9_finds_249 (gn (by decide) (f1741)) ?_
                  refine aw_iinc (j := 3) (nI (s + 1)) [(5, .int (nI (s + 1))), (8, .int (nI k)), (7, .int (nI wn)), (6, .int (nI b)), (4, .int (nI i)), (3, .int (nI (2 ^ m))), (2, .int (nI m)), (1, .int (nI n)), (0, .ref (G.1 + 88))] dX9_finds_250 rfl (nv_inc (rfl)) (by decide) rfl ?_
                  refine aw_goto 56 dX9_finds_253 (by decide) ?_
                  refine aw_lv [(5, .int (nI (s + 1))), (4, .int (nI i)), (3, .int (nI (2 ^ m))), (2, .int (nI m)), (1, .int (nI n)), (0, .ref (G.1 + 88))] [0, 4, 5, 6, 7, 8] rfl ?_
                  exact ih1743 (s + 1) (upd su3 (i * 1024 + s) (nI b)) (upd wy3 (i * 1024 + s) (nI wn)) _ (by omega) (by omega) (fi_1 (by omega) (by omega) hF3) (fi_2 hS3 hi (by rw [hb]) (by omega)) (fw_1 (by omega) (by omega) hW3) (fw_2 hV3 hi (by rw [hwn]) (by omega)) (gn (by decide) (gn (by decide) (f1738))) (gn (by decide) (gn (by decide) (f1739))) (gn (by decide) (gs f1740)) (gs (gn (by decide) (f1741))) (rg2_set (rg2_set (k1742) (by decide)) (by decide))
                · have d100 := mt (nv_le (a := m) (b := k) (rfl) (rfl) (by omega) (by omega)).mpr c100
                  refine aw_aload_n 8 dX9_finds_103 rfl rfl ?_
                  refine aw_get fX9_47 dX9_finds_104 f1738 rfl ?_
                  refine aw_bipush (10) dX9_finds_107 (by decide) ?_
                  refine aw_iload 4 dX9_finds_109 rfl ?_
                  refine aw_imul dX9_finds_111 ?_
                  refine aw_toe (nI (i * 10)) (by rw [Nat.mul_comm i 10]; exact nv_mul (rfl) (rfl)) ?_
                  refine aw_iload 0 dX9_finds_112 rfl ?_
                  refine aw_iadd dX9_finds_114 ?_
                  refine aw_toe (nI ((i * 10) + k)) (nv_add (rfl) (rfl)) ?_
                  refine aw_iald ((i * 10) + k) (rfl) (by omega) (by decide) dX9_finds_115 f1739 ?_
                  have bl := hlx3 i k
                  refine aw_toe (nI (lx i k)) (hLk i hi k (by omega)) ?_
                  refine aw_istore [(9, .int (nI (lx i k))), (8, .int (nI k)), (7, .int (nI wn)), (6, .int (nI b)), (5, .int (nI s)), (4, .int (nI i)), (3, .int (nI (2 ^ m))), (2, .int (nI m)), (1, .int (nI n)), (0, .ref (G.1 + 88))] dX9_finds_116 (by decide) rfl ?_
                  refine aw_iload 0 dX9_finds_118 rfl ?_
                  refine aw_if_eq 216 dX9_finds_120 (by decide) (fun c120 => ?_) (fun c120 => ?_)
                  · have d120 := (nv_eq (a := lx i k) (b := 0) (rfl) (rfl) (by omega) (by omega)).mp c120
                    refine aw_iinc (j := 1) (nI (k + 1)) [(8, .int (nI (k + 1))), (9, .int (nI (lx i k))), (7, .int (nI wn)), (6, .int (nI b)), (5, .int (nI s)), (4, .int (nI i)), (3, .int (nI (2 ^ m))), (2, .int (nI m)), (1, .int (nI n)), (0, .ref (G.1 + 88))] dX9_finds_216 rfl (nv_inc (rfl)) (by decide) rfl ?_
                    refine aw_goto 97 dX9_finds_219 (by decide) ?_
                    refine aw_lv [(8, .int (nI (k + 1))), (7, .int (nI wn)), (6, .int (nI b)), (5, .int (nI s)), (4, .int (nI i)), (3, .int (nI (2 ^ m))), (2, .int (nI m)), (1, .int (nI n)), (0, .ref (G.1 + 88))] [0, 2, 3, 4, 5, 6, 7, 8, 9] rfl ?_
                    exact ih1744 (k + 1) wn b (by omega) (by omega) (hb.trans (jM_k (Or.inl d120)).symm) (by rw [jW_n (Or.inl d120)]; exact hwn)
                  · have d120 := mt (nv_eq (a := lx i k) (b := 0) (rfl) (rfl) (by omega) (by omega)).mpr c120
                    refine aw_iload 4 dX9_finds_123 rfl ?_
                    refine aw_iload 1 dX9_finds_125 rfl ?_
                    refine aw_ishr dX9_finds_127 ?_
                    refine aw_iconst (1) dX9_finds_128 (by decide) ?_
                    refine aw_iand dX9_finds_129 ?_
                    refine aw_toe (if s.testBit k = true then 1 else 0) (nv_bit (rfl) (rfl) (by omega) (by omega)) ?_
                    refine aw_iconst (1) dX9_finds_130 (by decide) ?_
                    refine aw_icmp_ne 137 dX9_finds_131 (by decide) (fun c131 => ?_) (fun c131 => ?_)
                    · have t131 := ite_0e c131
                      have bq := or_k (a := s) (b := k) (by omega) (by omega)
                      refine aw_iload 0 dX9_finds_137 rfl ?_
                      refine aw_aload_n 9 dX9_finds_139 rfl rfl ?_
                      refine aw_get fX9_50 dX9_finds_140 f1738 rfl ?_
                      refine aw_iload 5 dX9_finds_143 rfl ?_
                      refine aw_iconst (1) dX9_finds_145 (by decide) ?_
                      refine aw_iadd dX9_finds_146 ?_
                      refine aw_toe (nI (i + 1)) (nv_add (rfl) (rfl)) ?_
                      refine aw_iload 4 dX9_finds_147 rfl ?_
                      refine aw_iconst (1) dX9_finds_149 (by decide) ?_
                      refine aw_iload 1 dX9_finds_150 rfl ?_
                      refine aw_ishl dX9_finds_152 ?_
                      refine aw_toe (nI (2 ^ k)) (nv_shl1 (rfl) (by omega)) ?_
                      refine aw_ior dX9_finds_153 ?_
                      refine aw_toe (nI (s ||| (2 ^ k))) (nv_or (rfl) (rfl)) ?_
                      refine aw_dS [.int (nI (i + 1)), .int (nI (s ||| (2 ^ k)))] [.ref (G.1 + 100), .int (nI (lx i k))] lX9_170 sX9_at mX9_at dX9_finds_154 (bX9_at (i := i + 1) (s := s ||| (2 ^ k)) (by omega)) rfl (Nat.le_of_ble_eq_true rfl) (by decide) (by decide) rfl ?_
                      refine aw_iald ((i + 1) * 1024 + (s ||| (2 ^ k))) (rfl) (by omega) (by decide) dX9_finds_157 f1740 ?_
                      refine aw_toe (nI (jS lx m (n - (i + 1)) (i + 1) (s ||| 2 ^ k))) (hF3 (i + 1) (Nat.le_refl _) hi _ (or_2m (by omega) (by omega))) ?_
                      have bj := jS_le (m := m) hlx3 (n - (i + 1)) (i + 1) (s ||| 2 ^ k)
                      refine aw_iadd dX9_finds_158 ?_
                      refine aw_toe (nI ((lx i k) + (jS lx m (n - (i + 1)) (i + 1) (s ||| 2 ^ k)))) (nv_add (rfl) (rfl)) ?_
                      refine aw_istore [(10, .int (nI ((lx i k) + (jS lx m (n - (i + 1)) (i + 1) (s ||| 2 ^ k))))), (9, .int (nI (lx i k))), (8, .int (nI k)), (7, .int (nI wn)), (6, .int (nI b)), (5, .int (nI s)), (4, .int (nI i)), (3, .int (nI (2 ^ m))), (2, .int (nI m)), (1, .int (nI n)), (0, .ref (G.1 + 88))] dX9_finds_159 (by decide) rfl ?_
                      refine aw_iload 0 dX9_finds_161 rfl ?_
                      refine aw_iload 4 dX9_finds_163 rfl ?_
                      refine aw_icmp_le 171 dX9_finds_165 (by decide) (fun c165 => ?_) (fun c165 => ?_)
                      · have d165 := (nv_le (a := (lx i k) + (jS lx m (n - (i + 1)) (i + 1) (s ||| 2 ^ k))) (b := b) (rfl) (rfl) (by omega) (by omega)).mp c165
                        refine aw_iload 0 dX9_finds_171 rfl ?_
                        refine aw_iload 4 dX9_finds_173 rfl ?_
                        refine aw_icmp_lt 207 dX9_finds_175 (by decide) (fun c175 => ?_) (fun c175 => ?_)
                        · have d175 := (nv_lt (a := (lx i k) + (jS lx m (n - (i + 1)) (i + 1) (s ||| 2 ^ k))) (b := b) (rfl) (rfl) (by omega) (by omega)).mp c175
                          refine aw_iload 4 dX9_finds_207 rfl ?_
                          refine aw_iload 0 dX9_finds_209 rfl ?_
                          refine aw_mmax lX9_162 dX9_finds_211 (Nat.le_of_ble_eq_true rfl) (by decide) (by decide) ?_
                          refine aw_toe (nI (max b ((lx i k) + (jS lx m (n - (i + 1)) (i + 1) (s ||| 2 ^ k))))) (nv_max (rfl) (rfl) (by omega) (by omega)) ?_
                          refine aw_istore [(6, .int (nI (max b ((lx i k) + (jS lx m (n - (i + 1)) (i + 1) (s ||| 2 ^ k)))))), (10, .int (nI ((lx i k) + (jS lx m (n - (i + 1)) (i + 1) (s ||| 2 ^ k))))), (9, .int (nI (lx i k))), (8, .int (nI k)), (7, .int (nI wn)), (5, .int (nI s)), (4, .int (nI i)), (3, .int (nI (2 ^ m))), (2, .int (nI m)), (1, .int (nI n)), (0, .ref (G.1 + 88))] dX9_finds_214 (by decide) rfl ?_
                          refine aw_iinc (j := 3) (nI (k + 1)) [(8, .int (nI (k + 1))), (6, .int (nI (max b ((lx i k) + (jS lx m (n - (i + 1)) (i + 1) (s ||| 2 ^ k)))))), (10, .int (nI ((lx i k) + (jS lx m (n - (i + 1)) (i + 1) (s ||| 2 ^ k))))), (9, .int (nI (lx i k))), (7, .int (nI wn)), (5, .int (nI s)), (4, .int (nI i)), (3, .int (nI (2 ^ m))), (2, .int (nI m)), (1, .int (nI n)), (0, .ref (G.1 + 88))] dX9_finds_216 rfl (nv_inc (rfl)) (by decide) rfl ?_
                          refine aw_goto 97 dX9_finds_219 (by decide) ?_
                          refine aw_lv [(8, .int (nI (k + 1))), (7, .int (nI wn)), (6, .int (nI (max b ((lx i k) + (jS lx m (n - (i + 1)) (i + 1) (s ||| 2 ^ k)))))), (5, .int (nI s)), (4, .int (nI i)), (3, .int (nI (2 ^ m))), (2, .int (nI m)), (1, .int (nI n)), (0, .ref (G.1 + 88))] [0, 4, 1, 5, 6, 7, 8, 9, 10] rfl ?_
                          exact ih1744 (k + 1) wn (max b ((lx i k) + (jS lx m (n - (i + 1)) (i + 1) (s ||| 2 ^ k)))) (by omega) (by omega) (by rw [jM_s (fun q9 => q9.elim d120 t131), ← hb]) (by rw [jW_l (c := (jC lx m (n - (i + 1)) (i + 1))) (fun q9 => q9.elim d120 t131) (by rw [← hb]; omega)]; exact hwn)
                        · have d175 := mt (nv_lt (a := (lx i k) + (jS lx m (n - (i + 1)) (i + 1) (s ||| 2 ^ k))) (b := b) (rfl) (rfl) (by omega) (by omega)).mpr c175
                          refine aw_ldc (1000000) kX9_173 dX9_finds_178 ?_
                          refine aw_iload 3 dX9_finds_180 rfl ?_
                          refine aw_aload_n 10 dX9_finds_182 rfl rfl ?_
                          refine aw_get fX9_56 dX9_finds_183 f1738 rfl ?_
                          refine aw_iload 6 dX9_finds_186 rfl ?_
                          refine aw_iconst (1) dX9_finds_188 (by decide) ?_
                          refine aw_iadd dX9_finds_189 ?_
                          refine aw_toe (nI (i + 1)) (nv_add (rfl) (rfl)) ?_
                          refine aw_iload 5 dX9_finds_190 rfl ?_
                          refine aw_iconst (1) dX9_finds_192 (by decide) ?_
                          refine aw_iload 2 dX9_finds_193 rfl ?_
                          refine aw_ishl dX9_finds_195 ?_
                          refine aw_toe (nI (2 ^ k)) (nv_shl1 (rfl) (by omega)) ?_
                          refine aw_ior dX9_finds_196 ?_
                          refine aw_toe (nI (s ||| (2 ^ k))) (nv_or (rfl) (rfl)) ?_
                          refine aw_dS [.int (nI (i + 1)), .int (nI (s ||| (2 ^ k)))] [.ref (G.1 + 102), .int (nI wn), .int 1000000] lX9_170 sX9_at mX9_at dX9_finds_197 (bX9_at (i := i + 1) (s := s ||| (2 ^ k)) (by omega)) rfl (Nat.le_of_ble_eq_true rfl) (by decide) (by decide) rfl ?_
                          refine aw_iald ((i + 1) * 1024 + (s ||| (2 ^ k))) (rfl) (by omega) (by decide) dX9_finds_200 f1741 ?_
                          refine aw_toe (nI (min 1000000 (jC lx m (n - (i + 1)) (i + 1) (s ||| 2 ^ k)))) (hW3 (i + 1) (Nat.le_refl _) hi _ (or_2m (by omega) (by omega))) ?_
                          refine aw_iadd dX9_finds_201 ?_
                          refine aw_toe (nI (wn + (min 1000000 (jC lx m (n - (i + 1)) (i + 1) (s ||| 2 ^ k))))) (nv_add (rfl) (rfl)) ?_
                          refine aw_mmin lX9_174 dX9_finds_202 (Nat.le_of_ble_eq_true rfl) (by decide) (by decide) ?_
                          refine aw_toe (nI (min 1000000 (wn + (min 1000000 (jC lx m (n - (i + 1)) (i + 1) (s ||| 2 ^ k)))))) (nv_min rfl rfl (by omega) (by omega)) ?_
                          refine aw_istore [(7, .int (nI (min 1000000 (wn + (min 1000000 (jC lx m (n - (i + 1)) (i + 1) (s ||| 2 ^ k))))))), (10, .int (nI ((lx i k) + (jS lx m (n - (i + 1)) (i + 1) (s ||| 2 ^ k))))), (9, .int (nI (lx i k))), (8, .int (nI k)), (6, .int (nI b)), (5, .int (nI s)), (4, .int (nI i)), (3, .int (nI (2 ^ m))), (2, .int (nI m)), (1, .int (nI n)), (0, .ref (G.1 + 88))] dX9_finds_205 (by decide) rfl ?_
                          refine aw_iload 4 dX9_finds_207 rfl ?_
                          refine aw_iload 1 dX9_finds_209 rfl ?_
                          refine aw_mmax lX9_162 dX9_finds_211 (Nat.le_of_ble_eq_true rfl) (by decide) (by decide) ?_
                          refine aw_toe (nI (max b ((lx i k) + (jS lx m (n - (i + 1)) (i + 1) (s ||| 2 ^ k))))) (nv_max (rfl) (rfl) (by omega) (by omega)) ?_
                          refine aw_istore [(6, .int (nI (max b ((lx i k) + (jS lx m (n - (i + 1)) (i + 1) (s ||| 2 ^ k)))))), (7, .int (nI (min 1000000 (wn + (min 1000000 (jC lx m (n - (i + 1)) (i + 1) (s ||| 2 ^ k))))))), (10, .int (nI ((lx i k) + (jS lx m (n - (i + 1)) (i + 1) (s ||| 2 ^ k))))), (9, .int (nI (lx i k))), (8, .int (nI k)), (5, .int (nI s)), (4, .int (nI i)), (3, .int (nI (2 ^ m))), (2, .int (nI m)), (1, .int (nI n)), (0, .ref (G.1 + 88))] dX9_finds_214 (by decide) rfl ?_
                          refine aw_iinc (j := 4) (nI (k + 1)) [(8, .int (nI (k + 1))), (6, .int (nI (max b ((lx i k) + (jS lx m (n - (i + 1)) (i + 1) (s ||| 2 ^ k)))))), (7, .int (nI (min 1000000 (wn + (min 1000000 (jC lx m (n - (i + 1)) (i + 1) (s ||| 2 ^ k))))))), (10, .int (nI ((lx i k) + (jS lx m (n - (i + 1)) (i + 1) (s ||| 2 ^ k))))), (9, .int (nI (lx i k))), (5, .int (nI s)), (4, .int (nI i)), (3, .int (nI (2 ^ m))), (2, .int (nI m)), (1, .int (nI n)), (0, .ref (G.1 + 88))] dX9_finds_216 rfl (nv_inc (rfl)) (by decide) rfl ?_
                          refine aw_goto 97 dX9_finds_219 (by decide) ?_
                          refine aw_lv [(8, .int (nI (k + 1))), (7, .int (nI (min 1000000 (wn + (min 1000000 (jC lx m (n - (i + 1)) (i + 1) (s ||| 2 ^ k))))))), (6, .int (nI (max b ((lx i k) + (jS lx m (n - (i + 1)) (i + 1) (s ||| 2 ^ k)))))), (5, .int (nI s)), (4, .int (nI i)), (3, .int (nI (2 ^ m))), (2, .int (nI m)), (1, .int (nI n)), (0, .ref (G.1 + 88))] [0, 2, 1, 5, 6, 7, 8, 9, 10] rfl ?_
                          exact ih1744 (k + 1) (min 1000000 (wn + (min 1000000 (jC lx m (n - (i + 1)) (i + 1) (s ||| 2 ^ k))))) (max b ((lx i k) + (jS lx m (n - (i + 1)) (i + 1) (s ||| 2 ^ k)))) (by omega) (by omega) (by rw [jM_s (fun q9 => q9.elim d120 t131), ← hb]) (by rw [jW_e (c := (jC lx m (n - (i + 1)) (i + 1))) (fun q9 => q9.elim d120 t131) (by rw [← hb]; omega), hwn]; exact mn_2 _ _)
                      · have d165 := mt (nv_le (a := (lx i k) + (jS lx m (n - (i + 1)) (i + 1) (s ||| 2 ^ k))) (b := b) (rfl) (rfl) (by omega) (by omega)).mpr c165
                        refine aw_iconst (0) dX9_finds_168 (by decide) ?_
                        refine aw_istore [(7, .int 0), (10, .int (nI ((lx i k) + (jS lx m (n - (i + 1)) (i + 1) (s ||| 2 ^ k))))), (9, .int (nI (lx i k))), (8, .int (nI k)), (6, .int (nI b)), (5, .int (nI s)), (4, .int (nI i)), (3, .int (nI (2 ^ m))), (2, .int (nI m)), (1, .int (nI n)), (0, .ref (G.1 + 88))] dX9_finds_169 (by decide) rfl ?_
                        refine aw_iload 1 dX9_finds_171 rfl ?_
                        refine aw_iload 4 dX9_finds_173 rfl ?_
                        refine aw_icmp_lt 207 dX9_finds_175 (by decide) (fun c175 => ?_) (fun c175 => ?_)
                        · have d175 := (nv_lt (a := (lx i k) + (jS lx m (n - (i + 1)) (i + 1) (s ||| 2 ^ k))) (b := b) (rfl) (rfl) (by omega) (by omega)).mp c175
                          refine aw_iload 4 dX9_finds_207 rfl ?_
                          refine aw_iload 1 dX9_finds_209 rfl ?_
                          refine aw_mmax lX9_162 dX9_finds_211 (Nat.le_of_ble_eq_true rfl) (by decide) (by decide) ?_
                          refine aw_toe (nI (max b ((lx i k) + (jS lx m (n - (i + 1)) (i + 1) (s ||| 2 ^ k))))) (nv_max (rfl) (rfl) (by omega) (by omega)) ?_
                          refine aw_istore [(6, .int (nI (max b ((lx i k) + (jS lx m (n - (i + 1)) (i + 1) (s ||| 2 ^ k)))))), (7, .int 0), (10, .int (nI ((lx i k) + (jS lx m (n - (i + 1)) (i + 1) (s ||| 2 ^ k))))), (9, .int (nI (lx i k))), (8, .int (nI k)), (5, .int (nI s)), (4, .int (nI i)), (3, .int (nI (2 ^ m))), (2, .int (nI m)), (1, .int (nI n)), (0, .ref (G.1 + 88))] dX9_finds_214 (by decide) rfl ?_
                          refine aw_iinc (j := 4) (nI (k + 1)) [(8, .int (nI (k + 1))), (6, .int (nI (max b ((lx i k) + (jS lx m (n - (i + 1)) (i + 1) (s ||| 2 ^ k)))))), (7, .int 0), (10, .int (nI ((lx i k) + (jS lx m (n - (i + 1)) (i + 1) (s ||| 2 ^ k))))), (9, .int (nI (lx i k))), (5, .int (nI s)), (4, .int (nI i)), (3, .int (nI (2 ^ m))), (2, .int (nI m)), (1, .int (nI n)), (0, .ref (G.1 + 88))] dX9_finds_216 rfl (nv_inc (rfl)) (by decide) rfl ?_
                          refine aw_goto 97 dX9_finds_219 (by decide) ?_
                          refine aw_lv [(8, .int (nI (k + 1))), (7, .int 0), (6, .int (nI (max b ((lx i k) + (jS lx m (n - (i + 1)) (i + 1) (s ||| 2 ^ k)))))), (5, .int (nI s)), (4, .int (nI i)), (3, .int (nI (2 ^ m))), (2, .int (nI m)), (1, .int (nI n)), (0, .ref (G.1 + 88))] [0, 2, 1, 5, 6, 7, 8, 9, 10] rfl ?_
                          exfalso
                          omega
                        · have d175 := mt (nv_lt (a := (lx i k) + (jS lx m (n - (i + 1)) (i + 1) (s ||| 2 ^ k))) (b := b) (rfl) (rfl) (by omega) (by omega)).mpr c175
                          refine aw_ldc (1000000) kX9_173 dX9_finds_178 ?_
                          refine aw_iload 0 dX9_finds_180 rfl ?_
                          refine aw_aload_n 10 dX9_finds_182 rfl rfl ?_
                          refine aw_get fX9_56 dX9_finds_183 f1738 rfl ?_
                          refine aw_iload 6 dX9_finds_186 rfl ?_
                          refine aw_iconst (1) dX9_finds_188 (by decide) ?_
                          refine aw_iadd dX9_finds_189 ?_
                          refine aw_toe (nI (i + 1)) (nv_add (rfl) (rfl)) ?_
                          refine aw_iload 5 dX9_finds_190 rfl ?_
                          refine aw_iconst (1) dX9_finds_192 (by decide) ?_
                          refine aw_iload 3 dX9_finds_193 rfl ?_
                          refine aw_ishl dX9_finds_195 ?_
                          refine aw_toe (nI (2 ^ k)) (nv_shl1 (rfl) (by omega)) ?_
                          refine aw_ior dX9_finds_196 ?_
                          refine aw_toe (nI (s ||| (2 ^ k))) (nv_or (rfl) (rfl)) ?_
                          refine aw_dS [.int (nI (i + 1)), .int (nI (s ||| (2 ^ k)))] [.ref (G.1 + 102), .int 0, .int 1000000] lX9_170 sX9_at mX9_at dX9_finds_197 (bX9_at (i := i + 1) (s := s ||| (2 ^ k)) (by omega)) rfl (Nat.le_of_ble_eq_true rfl) (by decide) (by decide) rfl ?_
                          refine aw_iald ((i + 1) * 1024 + (s ||| (2 ^ k))) (rfl) (by omega) (by decide) dX9_finds_200 f1741 ?_
                          refine aw_toe (nI (min 1000000 (jC lx m (n - (i + 1)) (i + 1) (s ||| 2 ^ k)))) (hW3 (i + 1) (Nat.le_refl _) hi _ (or_2m (by omega) (by omega))) ?_
                          refine aw_iadd dX9_finds_201 ?_
                          refine aw_toe (nI (0 + (min 1000000 (jC lx m (n - (i + 1)) (i + 1) (s ||| 2 ^ k))))) (nv_add (rfl) (rfl)) ?_
                          refine aw_mmin lX9_174 dX9_finds_202 (Nat.le_of_ble_eq_true rfl) (by decide) (by decide) ?_
                          refine aw_toe (nI (min 1000000 (0 + (min 1000000 (jC lx m (n - (i + 1)) (i + 1) (s ||| 2 ^ k)))))) (nv_min rfl rfl (by omega) (by omega)) ?_
                          refine aw_istore [(7, .int (nI (min 1000000 (0 + (min 1000000 (jC lx m (n - (i + 1)) (i + 1) (s ||| 2 ^ k))))))), (10, .int (nI ((lx i k) + (jS lx m (n - (i + 1)) (i + 1) (s ||| 2 ^ k))))), (9, .int (nI (lx i k))), (8, .int (nI k)), (6, .int (nI b)), (5, .int (nI s)), (4, .int (nI i)), (3, .int (nI (2 ^ m))), (2, .int (nI m)), (1, .int (nI n)), (0, .ref (G.1 + 88))] dX9_finds_205 (by decide) rfl ?_
                          refine aw_iload 4 dX9_finds_207 rfl ?_
                          refine aw_iload 1 dX9_finds_209 rfl ?_
                          refine aw_mmax lX9_162 dX9_finds_211 (Nat.le_of_ble_eq_true rfl) (by decide) (by decide) ?_
                          refine aw_toe (nI (max b ((lx i k) + (jS lx m (n - (i + 1)) (i + 1) (s ||| 2 ^ k))))) (nv_max (rfl) (rfl) (by omega) (by omega)) ?_
                          refine aw_istore [(6, .int (nI (max b ((lx i k) + (jS lx m (n - (i + 1)) (i + 1) (s ||| 2 ^ k)))))), (7, .int (nI (min 1000000 (0 + (min 1000000 (jC lx m (n - (i + 1)) (i + 1) (s ||| 2 ^ k))))))), (10, .int (nI ((lx i k) + (jS lx m (n - (i + 1)) (i + 1) (s ||| 2 ^ k))))), (9, .int (nI (lx i k))), (8, .int (nI k)), (5, .int (nI s)), (4, .int (nI i)), (3, .int (nI (2 ^ m))), (2, .int (nI m)), (1, .int (nI n)), (0, .ref (G.1 + 88))] dX9_finds_214 (by decide) rfl ?_
                          refine aw_iinc (j := 4) (nI (k + 1)) [(8, .int (nI (k + 1))), (6, .int (nI (max b ((lx i k) + (jS lx m (n - (i + 1)) (i + 1) (s ||| 2 ^ k)))))), (7, .int (nI (min 1000000 (0 + (min 1000000 (jC lx m (n - (i + 1)) (i + 1) (s ||| 2 ^ k))))))), (10, .int (nI ((lx i k) + (jS lx m (n - (i + 1)) (i + 1) (s ||| 2 ^ k))))), (9, .int (nI (lx i k))), (5, .int (nI s)), (4, .int (nI i)), (3, .int (nI (2 ^ m))), (2, .int (nI m)), (1, .int (nI n)), (0, .ref (G.1 + 88))] dX9_finds_216 rfl (nv_inc (rfl)) (by decide) rfl ?_
                          refine aw_goto 97 dX9_finds_219 (by decide) ?_
                          refine aw_lv [(8, .int (nI (k + 1))), (7, .int (nI (min 1000000 (0 + (min 1000000 (jC lx m (n - (i + 1)) (i + 1) (s ||| 2 ^ k))))))), (6, .int (nI (max b ((lx i k) + (jS lx m (n - (i + 1)) (i + 1) (s ||| 2 ^ k)))))), (5, .int (nI s)), (4, .int (nI i)), (3, .int (nI (2 ^ m))), (2, .int (nI m)), (1, .int (nI n)), (0, .ref (G.1 + 88))] [0, 2, 1, 5, 6, 7, 8, 9, 10] rfl ?_
                          exact ih1744 (k + 1) (min 1000000 (0 + (min 1000000 (jC lx m (n - (i + 1)) (i + 1) (s ||| 2 ^ k))))) (max b ((lx i k) + (jS lx m (n - (i + 1)) (i + 1) (s ||| 2 ^ k)))) (by omega) (by omega) (by rw [jM_s (fun q9 => q9.elim d120 t131), ← hb]) (by rw [jW_g (c := (jC lx m (n - (i + 1)) (i + 1))) (fun q9 => q9.elim d120 t131) (by rw [← hb]; omega)]; omega)
                    · have t131 := ite_1e c131
                      refine aw_goto 216 dX9_finds_134 (by decide) ?_
                      refine aw_iinc (j := 1) (nI (k + 1)) [(8, .int (nI (k + 1))), (9, .int (nI (lx i k))), (7, .int (nI wn)), (6, .int (nI b)), (5, .int (nI s)), (4, .int (nI i)), (3, .int (nI (2 ^ m))), (2, .int (nI m)), (1, .int (nI n)), (0, .ref (G.1 + 88))] dX9_finds_216 rfl (nv_inc (rfl)) (by decide) rfl ?_
                      refine aw_goto 97 dX9_finds_219 (by decide) ?_
                      refine aw_lv [(8, .int (nI (k + 1))), (7, .int (nI wn)), (6, .int (nI b)), (5, .int (nI s)), (4, .int (nI i)), (3, .int (nI (2 ^ m))), (2, .int (nI m)), (1, .int (nI n)), (0, .ref (G.1 + 88))] [0, 2, 3, 4, 5, 6, 7, 8, 9] rfl ?_
                      exact ih1744 (k + 1) wn b (by omega) (by omega) (hb.trans (jM_k (Or.inr t131)).symm) (by rw [jW_n (Or.inr t131)]; exact hwn)
    · have d10 := mt (nv_le (a := 2 ^ m) (b := s) (rfl) (rfl) (by omega) (by omega)).mpr c10
      refine aw_aload_n 4 dX9_finds_13 rfl rfl ?_
      refine aw_get fX9_50 dX9_finds_14 f1724 rfl ?_
      refine aw_iload_n 3 dX9_finds_17 rfl rfl ?_
      refine aw_iload 0 dX9_finds_18 rfl ?_
      refine aw_dS [.int (nI n), .int (nI s)] [.ref (G.1 + 100)] lX9_170 sX9_at mX9_at dX9_finds_20 (bX9_at (i := n) (s := s) (by omega)) rfl (Nat.le_of_ble_eq_true rfl) (by decide) (by decide) rfl ?_
      refine aw_iconst (0) dX9_finds_23 (by decide) ?_
      refine aw_iast (n * 1024 + s) (rfl) (by omega) (by decide) dX9_finds_24 f1726 ?_
      refine aw_aload_n 4 dX9_finds_25 rfl rfl ?_
      refine aw_get fX9_56 dX9_finds_26 (gn (by decide) (f1724)) rfl ?_
      refine aw_iload_n 3 dX9_finds_29 rfl rfl ?_
      refine aw_iload 0 dX9_finds_30 rfl ?_
      refine aw_dS [.int (nI n), .int (nI s)] [.ref (G.1 + 102)] lX9_170 sX9_at mX9_at dX9_finds_32 (bX9_at (i := n) (s := s) (by omega)) rfl (Nat.le_of_ble_eq_true rfl) (by decide) (by decide) rfl ?_
      refine aw_iconst (1) dX9_finds_35 (by decide) ?_
      refine aw_iast (n * 1024 + s) (rfl) (by omega) (by decide) dX9_finds_36 (gn (by decide) (f1727)) ?_
      refine aw_iinc (j := 0) (nI (s + 1)) [(4, .int (nI (s + 1))), (3, .int (nI (2 ^ m))), (2, .int (nI m)), (1, .int (nI n)), (0, .ref (G.1 + 88))] dX9_finds_37 rfl (nv_inc (rfl)) (by decide) rfl ?_
      refine aw_goto 7 dX9_finds_40 (by decide) ?_
      refine aw_lv [(4, .int (nI (s + 1))), (3, .int (nI (2 ^ m))), (2, .int (nI m)), (1, .int (nI n)), (0, .ref (G.1 + 88))] [0, 1, 2, 3, 4] rfl ?_
      exact ih1729 (s + 1) (upd su1 (n * 1024 + s) 0) (upd wy1 (n * 1024 + s) 1) _ (by omega) (by omega) (fi_0 h0) (fv_0 h1) (gn (by decide) (gn (by decide) (f1724))) (gn (by decide) (gn (by decide) (f1725))) (gn (by decide) (gs f1726)) (gs (gn (by decide) (f1727))) (rg2_set (rg2_set (k1728) (by decide)) (by decide))
