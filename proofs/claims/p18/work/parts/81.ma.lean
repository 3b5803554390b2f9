set_option maxHeartbeats 4000000 in
theorem bX9_joins {l : Launch} {G : xG} {h : List va_E} {sp fa nb ns nm nv sh : Nat} {ho ow sl : Int32} {m ye b1 b2 : Nat → Nat} {W Z Ro Co : Nat → Int32} {fi : Nat → Nat} {lk su jd wy : Nat → Int32} {a b : Nat} (h88 : h[88]? = some (oB 9 (lM G (nI sp) (nI fa) (nI nb) (nI ns) (nI nm) ho ow sl (nI nv) (nI sh)))) (h90 : h[90]? = some (aI 20 (nA m))) (h91 : h[91]? = some (aI 4 (nA ye))) (h93 : h[93]? = some (aI 40 W)) (h94 : h[94]? = some (aI 40 Z)) (h95 : h[95]? = some (aI 40 Ro)) (h96 : h[96]? = some (aI 40 Co)) (h97 : h[97]? = some (aI 30 (nA b1))) (h98 : h[98]? = some (aI 30 (nA b2))) (h92 : h[92]? = some (aI 4 (nA fi))) (h99 : h[99]? = some (aI 100 lk)) (h100 : h[100]? = some (aI 11264 su)) (h101 : h[101]? = some (aI 10 jd)) (h102 : h[102]? = some (aI 11264 wy)) (hm : ∀ j, j < 20 → m j ≤ j) (hye : ∀ j, j < 4 → ye j < 1901) (hnb : nb ≤ 30) (bb1 : ∀ j, j < 30 → b1 j < 40) (bb2 : ∀ j, j < 30 → b2 j < 40) (hsp : sp ≤ 50) (hfd : fa ≤ 9) (hfi : ∀ j, j < 4 → fi j < 11) (ba : a < 4) (bb : b < 4) (hjd : pB jd) : CU l G yX9_joins cX9_joins 8 (some .int) 4 0 0 [.ref (G.1 + 88), .int (nI a), .int (nI b)] h (fun r h1 => ∃ lk1 : Nat → Int32, ∃ su1 : Nat → Int32, ∃ jd1 : Nat → Int32, ∃ wy1 : Nat → Int32, h1[99]? = some (aI 100 lk1) ∧ h1[100]? = some (aI 11264 su1) ∧ h1[101]? = some (aI 10 jd1) ∧ h1[102]? = some (aI 11264 wy1) ∧ rng 99 102 h h1 ∧ pB jd1 ∧ True) := by
  refine cm_ofQ rfl (Nat.le_of_ble_eq_true rfl) [(0, .ref (G.1 + 88)), (1, .int (nI a)), (2, .int (nI b))] rfl (fun QF hQF => ?_)
  have fa0 := hfi a ba
  have fb0 := hfi b bb
  refine aw_aload_n 0 dX9_joins_0 rfl rfl ?_
  refine aw_iload_n 1 dX9_joins_1 rfl rfl ?_
  refine aw_iload_n 2 dX9_joins_2 rfl rfl ?_
  refine aw_eW [.int (nI a), .int (nI b)] [] lX9_177 vX9_measure mX9_measure dX9_joins_3 (bX9_measure (sp := sp) (fa := fa) (nb := nb) (ns := ns) (nm := nm) (nv := nv) (sh := sh) (ho := ho) (ow := ow) (sl := sl) (m := m) (ye := ye) (b1 := b1) (b2 := b2) (W := W) (Z := Z) (Ro := Ro) (Co := Co) (fi := fi) (lk := lk) (a := a) (b := b) h88 h90 h91 h93 h94 h95 h96 h97 h98 h92 h99 hm hye (by omega) bb1 bb2 (by omega) (by omega) hfi (by omega) (by omega)) h88 rfl rfl rfl (Nat.le_of_ble_eq_true rfl) (by decide) (by decide) rfl (fun h1758 q1757 => ?_)
  obtain ⟨lk11756, f1759, k1760⟩ := q1757
  have f1761 := rng_at k1760 (by decide) h88
  have f1762 := rng_at k1760 (by decide) h90
  have f1763 := rng_at k1760 (by decide) h91
  have f1764 := rng_at k1760 (by decide) h93
  have f1765 := rng_at k1760 (by decide) h94
  have f1766 := rng_at k1760 (by decide) h95
  have f1767 := rng_at k1760 (by decide) h96
  have f1768 := rng_at k1760 (by decide) h97
  have f1769 := rng_at k1760 (by decide) h98
  have f1770 := rng_at k1760 (by decide) h92
  have f1771 := rng_at k1760 (by decide) h100
  have f1772 := rng_at k1760 (by decide) h101
  have f1773 := rng_at k1760 (by decide) h102
  refine aw_aload_n 0 dX9_joins_6 rfl rfl ?_
  refine aw_aload_n 0 dX9_joins_7 rfl rfl ?_
  refine aw_get fX9_19 dX9_joins_8 f1761 rfl ?_
  refine aw_iload_n 1 dX9_joins_11 rfl rfl ?_
  refine aw_iald a (rfl) (by omega) (by decide) dX9_joins_12 f1770 ?_
  refine aw_toe (nI (fi a)) (rfl) ?_
  refine aw_aload_n 0 dX9_joins_13 rfl rfl ?_
  refine aw_get fX9_19 dX9_joins_14 f1761 rfl ?_
  refine aw_iload_n 2 dX9_joins_17 rfl rfl ?_
  refine aw_iald b (rfl) (by omega) (by decide) dX9_joins_18 f1770 ?_
  refine aw_toe (nI (fi b)) (rfl) ?_
  refine aw_uV [.int (nI (fi a)), .int (nI (fi b))] [] lX9_181 vX9_finds mX9_finds dX9_joins_19 (bX9_finds (sp := sp) (fa := fa) (nb := nb) (ns := ns) (nm := nm) (nv := nv) (sh := sh) (ho := ho) (ow := ow) (sl := sl) (lk := lk11756) (su := su) (wy := wy) (n := fi a) (m := fi b) f1761 f1759 f1771 f1773 (by omega) (by omega)) f1761 rfl rfl rfl (Nat.le_of_ble_eq_true rfl) (by decide) (by decide) rfl (fun r1777 h1778 q1776 => ?_)
  obtain ⟨su11774, wy11775, f1779, f1780, k1781, u1782⟩ := q1776
  have f1783 := rg2_at k1781 (by decide) f1759
  have f1784 := rg2_at k1781 (by decide) f1761
  have f1785 := rg2_at k1781 (by decide) f1762
  have f1786 := rg2_at k1781 (by decide) f1763
  have f1787 := rg2_at k1781 (by decide) f1764
  have f1788 := rg2_at k1781 (by decide) f1765
  have f1789 := rg2_at k1781 (by decide) f1766
  have f1790 := rg2_at k1781 (by decide) f1767
  have f1791 := rg2_at k1781 (by decide) f1768
  have f1792 := rg2_at k1781 (by decide) f1769
  have f1793 := rg2_at k1781 (by decide) f1770
  have f1794 := rg2_at k1781 (by decide) f1772
  refine aw_istore_n [(3, .int r1777), (0, .ref (G.1 + 88)), (1, .int (nI a)), (2, .int (nI b))] dX9_joins_22 rfl (by decide) rfl ?_
  refine aw_iconst (0) dX9_joins_23 (by decide) ?_
  refine aw_istore [(4, .int 0), (3, .int r1777), (0, .ref (G.1 + 88)), (1, .int (nI a)), (2, .int (nI b))] dX9_joins_24 (by decide) rfl ?_
  refine aw_iconst (0) dX9_joins_26 (by decide) ?_
  refine aw_istore [(5, .int 0), (4, .int 0), (3, .int r1777), (0, .ref (G.1 + 88)), (1, .int (nI a)), (2, .int (nI b))] dX9_joins_27 (by decide) rfl ?_
  refine aw_lv [(5, .int 0), (4, .int 0), (3, .int r1777), (2, .int (nI b)), (1, .int (nI a)), (0, .ref (G.1 + 88))] [0, 1, 2, 5, 4, 3] rfl ?_
  suffices L1811 : ∀ (mm : Nat) (i : Nat) (s : Nat) (jd1 : Nat → Int32) (h1795 : List va_E), fi a - i < mm → (i ≤ fi a) → (s < 1024) → (pB jd1) → h1795[100]? = some (aI 11264 su11774) → h1795[102]? = some (aI 11264 wy11775) → h1795[99]? = some (aI 100 lk11756) → h1795[88]? = some (oB 9 (lM G (nI sp) (nI fa) (nI nb) (nI ns) (nI nm) ho ow sl (nI nv) (nI sh))) → h1795[90]? = some (aI 20 (nA m)) → h1795[91]? = some (aI 4 (nA ye)) → h1795[93]? = some (aI 40 W) → h1795[94]? = some (aI 40 Z) → h1795[95]? = some (aI 40 Ro) → h1795[96]? = some (aI 40 Co) → h1795[97]? = some (aI 30 (nA b1)) → h1795[98]? = some (aI 30 (nA b2)) → h1795[92]? = some (aI 4 (nA fi)) → h1795[101]? = some (aI 10 jd1) → rng 99 102 h h1795 → AW l G yX9_joins cX9_joins 8 (some .int) (xR 4 0 0) (fun _ _ => True) QF 0 0 29 [(5, .int (nI i)), (4, .int (nI s)), (3, .int r1777), (2, .int (nI b)), (1, .int (nI a)), (0, .ref (G.1 + 88))] [] h1795 from L1811 (fi a - 0 + 1) 0 0 jd _ (Nat.lt_succ_self _) (Nat.zero_le _) (by decide) (hjd) f1779 f1780 f1783 f1784 f1785 f1786 f1787 f1788 f1789 f1790 f1791 f1792 f1793 f1794 (rng_tr (rng_tr (rng_rf 99 102 h) (rng_w k1760 (by decide) (by decide))) (rng_w2 k1781 (by decide) (by decide)))
  intro mm
  induction mm with
  | zero =>
    intro i s jd1 h1795 hmm hi bs hp f1796 f1797 f1798 f1799 f1800 f1801 f1802 f1803 f1804 f1805 f1806 f1807 f1808 f1809 k1810
    exact absurd hmm (Nat.not_lt_zero _)
  | succ mm ih1811 =>
    intro i s jd1 h1795 hmm hi bs hp f1796 f1797 f1798 f1799 f1800 f1801 f1802 f1803 f1804 f1805 f1806 f1807 f1808 f1809 k1810
    refine aw_iload 0 dX9_joins_29 rfl ?_
    refine aw_aload_n 5 dX9_joins_31 rfl rfl ?_
    refine aw_get fX9_19 dX9_joins_32 f1799 rfl ?_
    refine aw_iload_n 4 dX9_joins_35 rfl rfl ?_
    refine aw_iald a (rfl) (by omega) (by decide) dX9_joins_36 f1808 ?_
    refine aw_toe (nI (fi a)) (rfl) ?_
    refine aw_icmp_ge 185 dX9_joins_37 (by decide) (fun c37 => ?_) (fun c37 => ?_)
    · have d37 := (nv_le (a := fi a) (b := i) (rfl) (rfl) (by omega) (by omega)).mp c37
      refine aw_iload_n 2 dX9_joins_185 rfl rfl ?_
      subst hQF
      exact aw_iret rfl dX9_joins_186 (by decide) (by decide) ⟨_, rfl, _, _, _, _, f1798, f1796, f1809, f1797, k1810, hp, trivial⟩
    · have d37 := mt (nv_le (a := fi a) (b := i) (rfl) (rfl) (by omega) (by omega)).mpr c37
      refine aw_aload_n 5 dX9_joins_40 rfl rfl ?_
      refine aw_get fX9_53 dX9_joins_41 f1799 rfl ?_
      refine aw_iload 0 dX9_joins_44 rfl ?_
      refine aw_bipush (-9) dX9_joins_46 (by decide) ?_
      refine aw_iast i (rfl) (by omega) (by decide) dX9_joins_48 f1809 ?_
      refine aw_iconst (0) dX9_joins_49 (by decide) ?_
      refine aw_istore [(6, .int 0), (5, .int (nI i)), (4, .int (nI s)), (3, .int r1777), (2, .int (nI b)), (1, .int (nI a)), (0, .ref (G.1 + 88))] dX9_joins_50 (by decide) rfl ?_
      refine aw_lv [(6, .int 0), (5, .int (nI i)), (4, .int (nI s)), (3, .int r1777), (2, .int (nI b)), (1, .int (nI a)), (0, .ref (G.1 + 88))] [0, 1, 2, 3, 4, 5, 6] rfl ?_
      suffices L1828 : ∀ (mm : Nat) (k : Nat) (jd2 : Nat → Int32) (h1812 : List va_E), fi b - k < mm → (k ≤ fi b) → (pB jd2) → h1812[100]? = some (aI 11264 su11774) → h1812[102]? = some (aI 11264 wy11775) → h1812[99]? = some (aI 100 lk11756) → h1812[88]? = some (oB 9 (lM G (nI sp) (nI fa) (nI nb) (nI ns) (nI nm) ho ow sl (nI nv) (nI sh))) → h1812[90]? = some (aI 20 (nA m)) → h1812[91]? = some (aI 4 (nA ye)) → h1812[93]? = some (aI 40 W) → h1812[94]? = some (aI 40 Z) → h1812[95]? = some (aI 40 Ro) → h1812[96]? = some (aI 40 Co) → h1812[97]? = some (aI 30 (nA b1)) → h1812[98]? = some (aI 30 (nA b2)) → h1812[92]? = some (aI 4 (nA fi)) → h1812[101]? = some (aI 10 jd2) → rng 99 102 h h1812 → AW l G yX9_joins cX9_joins 8 (some .int) (xR 4 0 0) (fun _ _ => True) QF 0 0 52 [(6, .int (nI k)), (5, .int (nI i)), (4, .int (nI s)), (3, .int r1777), (2, .int (nI b)), (1, .int (nI a)), (0, .ref (G.1 + 88))] [] h1812 from L1828 (fi b - 0 + 1) 0 (upd jd1 i (-9)) _ (Nat.lt_succ_self _) (Nat.zero_le _) (pB_u hp (Or.inl rfl)) (gn (by decide) (f1796)) (gn (by decide) (f1797)) (gn (by decide) (f1798)) (gn (by decide) (f1799)) (gn (by decide) (f1800)) (gn (by decide) (f1801)) (gn (by decide) (f1802)) (gn (by decide) (f1803)) (gn (by decide) (f1804)) (gn (by decide) (f1805)) (gn (by decide) (f1806)) (gn (by decide) (f1807)) (gn (by decide) (f1808)) (gs f1809) (rng_set (k1810) (by decide) (by decide))
      intro mm
      induction mm with
      | zero =>
        intro k jd2 h1812 hmm hk hp2 f1813 f1814 f1815 f1816 f1817 f1818 f1819 f1820 f1821 f1822 f1823 f1824 f1825 f1826 k1827
        exact absurd hmm (Nat.not_lt_zero _)
      | succ mm ih1828 =>
        intro k jd2 h1812 hmm hk hp2 f1813 f1814 f1815 f1816 f1817 f1818 f1819 f1820 f1821 f1822 f1823 f1824 f1825 f1826 k1827
        refine aw_iload 0 dX9_joins_52 rfl ?_
        refine aw_aload_n 6 dX9_joins_54 rfl rfl ?_
        refine aw_get fX9_19 dX9_joins_55 f1816 rfl ?_
        refine aw_iload_n 4 dX9_joins_58 rfl rfl ?_
        refine aw_iald b (rfl) (by omega) (by decide) dX9_joins_59 f1825 ?_
        refine aw_toe (nI (fi b)) (rfl) ?_
        refine aw_icmp_ge 155 dX9_joins_60 (by decide) (fun c60 => ?_) (fun c60 => ?_)
        · have d60 := (nv_le (a := fi b) (b := k) (rfl) (rfl) (by omega) (by omega)).mp c60
          refine aw_aload_n 6 dX9_joins_155 rfl rfl ?_
          refine aw_get fX9_53 dX9_joins_156 f1816 rfl ?_
          refine aw_iload 1 dX9_joins_159 rfl ?_
          refine aw_iald i (rfl) (by omega) (by decide) dX9_joins_161 f1826 ?_
          refine aw_if_lt 179 dX9_joins_162 (by decide) (fun c162 => ?_) (fun c162 => ?_)
          · have d162 := (j_lt (a := (jd2 i).toInt) (b := (0)) (rfl) (rfl)).mp c162
            refine aw_iinc (j := 1) (nI (i + 1)) [(5, .int (nI (i + 1))), (6, .int (nI k)), (4, .int (nI s)), (3, .int r1777), (2, .int (nI b)), (1, .int (nI a)), (0, .ref (G.1 + 88))] dX9_joins_179 rfl (nv_inc (rfl)) (by decide) rfl ?_
            refine aw_goto 29 dX9_joins_182 (by decide) ?_
            refine aw_lv [(5, .int (nI (i + 1))), (4, .int (nI s)), (3, .int r1777), (2, .int (nI b)), (1, .int (nI a)), (0, .ref (G.1 + 88))] [0, 2, 3, 4, 5, 6] rfl ?_
            exact ih1811 (i + 1) s jd2 _ (by omega) (by omega) (bs) (hp2) f1813 f1814 f1815 f1816 f1817 f1818 f1819 f1820 f1821 f1822 f1823 f1824 f1825 f1826 (k1827)
          · have d162 := mt (j_lt (a := (jd2 i).toInt) (b := (0)) (rfl) (rfl)).mpr c162
            obtain ⟨q, bq, eq⟩ := pB_g hp2 (show i < 10 by omega) d162
            refine aw_iload 2 dX9_joins_165 rfl ?_
            refine aw_iconst (1) dX9_joins_167 (by decide) ?_
            refine aw_aload_n 6 dX9_joins_168 rfl rfl ?_
            refine aw_get fX9_53 dX9_joins_169 f1816 rfl ?_
            refine aw_iload 1 dX9_joins_172 rfl ?_
            refine aw_iald i (rfl) (by omega) (by decide) dX9_joins_174 f1826 ?_
            refine aw_toe (nI q) (eq) ?_
            refine aw_ishl dX9_joins_175 ?_
            refine aw_toe (nI (2 ^ q)) (nv_shl1 (rfl) (by omega)) ?_
            refine aw_ior dX9_joins_176 ?_
            refine aw_toe (nI (s ||| (2 ^ q))) (nv_or (rfl) (rfl)) ?_
            refine aw_istore [(4, .int (nI (s ||| (2 ^ q)))), (6, .int (nI k)), (5, .int (nI i)), (3, .int r1777), (2, .int (nI b)), (1, .int (nI a)), (0, .ref (G.1 + 88))] dX9_joins_177 (by decide) rfl ?_
            refine aw_iinc (j := 2) (nI (i + 1)) [(5, .int (nI (i + 1))), (4, .int (nI (s ||| (2 ^ q)))), (6, .int (nI k)), (3, .int r1777), (2, .int (nI b)), (1, .int (nI a)), (0, .ref (G.1 + 88))] dX9_joins_179 rfl (nv_inc (rfl)) (by decide) rfl ?_
            refine aw_goto 29 dX9_joins_182 (by decide) ?_
            refine aw_lv [(5, .int (nI (i + 1))), (4, .int (nI (s ||| (2 ^ q)))), (3, .int r1777), (2, .int (nI b)), (1, .int (nI a)), (0, .ref (G.1 + 88))] [0, 1, 3, 4, 5, 6] rfl ?_
            exact ih1811 (i + 1) (s ||| (2 ^ q)) jd2 _ (by omega) (by omega) (or_k bs (by omega)) (hp2) f1813 f1814 f1815 f1816 f1817 f1818 f1819 f1820 f1821 f1822 f1823 f1824 f1825 f1826 (k1827)
        · have d60 := mt (nv_le (a := fi b) (b := k) (rfl) (rfl) (by omega) (by omega)).mpr c60
          refine aw_aload_n 6 dX9_joins_63 rfl rfl ?_
          refine aw_get fX9_53 dX9_joins_64 f1816 rfl ?_
          refine aw_iload 1 dX9_joins_67 rfl ?_
          refine aw_iald i (rfl) (by omega) (by decide) dX9_joins_69 f1826 ?_
          refine aw_if_ge 155 dX9_joins_70 (by decide) (fun c70 => ?_) (fun c70 => ?_)
          · have d70 := (j_le (a := (0)) (b := (jd2 i).toInt) (rfl) (rfl)).mp c70
            refine aw_aload_n 6 dX9_joins_155 rfl rfl ?_
            refine aw_get fX9_53 dX9_joins_156 f1816 rfl ?_
            refine aw_iload 1 dX9_joins_159 rfl ?_
            refine aw_iald i (rfl) (by omega) (by decide) dX9_joins_161 f1826 ?_
            refine aw_if_lt 179 dX9_joins_162 (by decide) (fun c162 => ?_) (fun c162 => ?_)
            · have d162 := (j_lt (a := (jd2 i).toInt) (b := (0)) (rfl) (rfl)).mp c162
              refine aw_iinc (j := 1) (nI (i + 1)) [(5, .int (nI (i + 1))), (6, .int (nI k)), (4, .int (nI s)), (3, .int r1777), (2, .int (nI b)), (1, .int (nI a)), (0, .ref (G.1 + 88))] dX9_joins_179 rfl (nv_inc (rfl)) (by decide) rfl ?_
              refine aw_goto 29 dX9_joins_182 (by decide) ?_
              refine aw_lv [(5, .int (nI (i + 1))), (4, .int (nI s)), (3, .int r1777), (2, .int (nI b)), (1, .int (nI a)), (0, .ref (G.1 + 88))] [0, 2, 3, 4, 5, 6] rfl ?_
              exact ih1811 (i + 1) s jd2 _ (by omega) (by omega) (bs) (hp2) f1813 f1814 f1815 f1816 f1817 f1818 f1819 f1820 f1821 f1822 f1823 f1824 f1825 f1826 (k1827)
            · have d162 := mt (j_lt (a := (jd2 i).toInt) (b := (0)) (rfl) (rfl)).mpr c162
              obtain ⟨q, bq, eq⟩ := pB_g hp2 (show i < 10 by omega) d162
              refine aw_iload 2 dX9_joins_165 rfl ?_
              refine aw_iconst (1) dX9_joins_167 (by decide) ?_
              refine aw_aload_n 6 dX9_joins_168 rfl rfl ?_
              refine aw_get fX9_53 dX9_joins_169 f1816 rfl ?_
              refine aw_iload 1 dX9_joins_172 rfl ?_
              refine aw_iald i (rfl) (by omega) (by decide) dX9_joins_174 f1826 ?_
              refine aw_toe (nI q) (eq) ?_
              refine aw_ishl dX9_joins_175 ?_
              refine aw_toe (nI (2 ^ q)) (nv_shl1 (rfl) (by omega)) ?_
              refine aw_ior dX9_joins_176 ?_
              refine aw_toe (nI (s ||| (2 ^ q))) (nv_or (rfl) (rfl)) ?_
              refine aw_istore [(4, .int (nI (s ||| (2 ^ q)))), (6, .int (nI k)), (5, .int (nI i)), (3, .int r1777), (2, .int (nI b)), (1, .int (nI a)), (0, .ref (G.1 + 88))] dX9_joins_177 (by decide) rfl ?_
              refine aw_iinc (j := 2) (nI (i + 1)) [(5, .int (nI (i + 1))), (4, .int (nI (s ||| (2 ^ q)))), (6, .int (nI k)), (3, .int r1777), (2, .int (nI b)), (1, .int (nI a)), (0, .ref (G.1 + 88))] dX9_joins_179 rfl (nv_inc (rfl)) (by decide) rfl ?_
              refine aw_goto 29 dX9_joins_182 (by decide) ?_
              refine aw_lv [(5, .int (nI (i + 1))), (4, .int (nI (s ||| (2 ^ q)))), (3, .int r1777), (2, .int (nI b)), (1, .int (nI a)), (0, .ref (G.1 + 88))] [0, 1, 3, 4, 5, 6] rfl ?_
              exact ih1811 (i + 1) (s ||| (2 ^ q)) jd2 _ (by omega) (by omega) (or_k bs (by omega)) (hp2) f1813 f1814 f1815 f1816 f1817 f1818 f1819 f1820 f1821 f1822 f1823 f1824 f1825 f1826 (k1827)
          · have d70 := mt (j_le (a := (0)) (b := (jd2 i).toInt) (rfl) (rfl)).mpr c70
            refine aw_aload_n 6 dX9_joins_73 rfl rfl ?_
            refine aw_get fX9_47 dX9_joins_74 f1816 rfl ?_
            refine aw_bipush (10) dX9_joins_77 (by decide) ?_
            refine aw_iload 1 dX9_joins_79 rfl ?_
            refine aw_imul dX9_joins_81 ?_
            refine aw_toe (nI (10 * i)) (nv_mul (rfl) (rfl)) ?_
            refine aw_iload 0 dX9_joins_82 rfl ?_
            refine aw_iadd dX9_joins_84 ?_
            refine aw_toe (nI ((10 * i) + k)) (nv_add (rfl) (rfl)) ?_
            refine aw_iald ((10 * i) + k) (rfl) (by omega) (by decide) dX9_joins_85 f1815 ?_
            refine aw_istore [(7, .int (lk11756 ((10 * i) + k))), (6, .int (nI k)), (5, .int (nI i)), (4, .int (nI s)), (3, .int r1777), (2, .int (nI b)), (1, .int (nI a)), (0, .ref (G.1 + 88))] dX9_joins_86 (by decide) rfl ?_
            refine aw_iload 0 dX9_joins_88 rfl ?_
            refine aw_if_le 149 dX9_joins_90 (by decide) (fun c90 => ?_) (fun c90 => ?_)
            · have d90 := (j_le (a := (lk11756 ((10 * i) + k)).toInt) (b := (0)) (rfl) (rfl)).mp c90
              refine aw_iinc (j := 1) (nI (k + 1)) [(6, .int (nI (k + 1))), (7, .int (lk11756 ((10 * i) + k))), (5, .int (nI i)), (4, .int (nI s)), (3, .int r1777), (2, .int (nI b)), (1, .int (nI a)), (0, .ref (G.1 + 88))] dX9_joins_149 rfl (nv_inc (rfl)) (by decide) rfl ?_
              refine aw_goto 52 dX9_joins_152 (by decide) ?_
              refine aw_lv [(6, .int (nI (k + 1))), (5, .int (nI i)), (4, .int (nI s)), (3, .int r1777), (2, .int (nI b)), (1, .int (nI a)), (0, .ref (G.1 + 88))] [0, 2, 3, 4, 5, 6, 7] rfl ?_
              exact ih1828 (k + 1) jd2 _ (by omega) (by omega) (hp2) f1813 f1814 f1815 f1816 f1817 f1818 f1819 f1820 f1821 f1822 f1823 f1824 f1825 f1826 (k1827)
            · have d90 := mt (j_le (a := (lk11756 ((10 * i) + k)).toInt) (b := (0)) (rfl) (rfl)).mpr c90
              refine aw_iload 3 dX9_joins_93 rfl ?_
              refine aw_iload 1 dX9_joins_95 rfl ?_
              refine aw_ishr dX9_joins_97 ?_
              refine aw_iconst (1) dX9_joins_98 (by decide) ?_
              refine aw_iand dX9_joins_99 ?_
              refine aw_toe (if s.testBit k = true then 1 else 0) (nv_bit (rfl) (rfl) (by omega) (by omega)) ?_
              refine aw_if_ne 149 dX9_joins_100 (by decide) (fun c100 => ?_) (fun c100 => ?_)
              · have t100 := ite_1 c100
                refine aw_iinc (j := 1) (nI (k + 1)) [(6, .int (nI (k + 1))), (7, .int (lk11756 ((10 * i) + k))), (5, .int (nI i)), (4, .int (nI s)), (3, .int r1777), (2, .int (nI b)), (1, .int (nI a)), (0, .ref (G.1 + 88))] dX9_joins_149 rfl (nv_inc (rfl)) (by decide) rfl ?_
                refine aw_goto 52 dX9_joins_152 (by decide) ?_
                refine aw_lv [(6, .int (nI (k + 1))), (5, .int (nI i)), (4, .int (nI s)), (3, .int r1777), (2, .int (nI b)), (1, .int (nI a)), (0, .ref (G.1 + 88))] [0, 2, 3, 4, 5, 6, 7] rfl ?_
                exact ih1828 (k + 1) jd2 _ (by omega) (by omega) (hp2) f1813 f1814 f1815 f1816 f1817 f1818 f1819 f1820 f1821 f1822 f1823 f1824 f1825 f1826 (k1827)
              · have t100 := ite_0 c100
                have bq0 := or_k (a := s) (b := k) (by omega) (by omega)
                refine aw_iload 0 dX9_joins_103 rfl ?_
                refine aw_aload_n 7 dX9_joins_105 rfl rfl ?_
                refine aw_get fX9_50 dX9_joins_106 f1816 rfl ?_
                refine aw_iload 2 dX9_joins_109 rfl ?_
                refine aw_iconst (1) dX9_joins_111 (by decide) ?_
                refine aw_iadd dX9_joins_112 ?_
                refine aw_toe (nI (i + 1)) (nv_add (rfl) (rfl)) ?_
                refine aw_iload 3 dX9_joins_113 rfl ?_
                refine aw_iconst (1) dX9_joins_115 (by decide) ?_
                refine aw_iload 1 dX9_joins_116 rfl ?_
                refine aw_ishl dX9_joins_118 ?_
                refine aw_toe (nI (2 ^ k)) (nv_shl1 (rfl) (by omega)) ?_
                refine aw_ior dX9_joins_119 ?_
                refine aw_toe (nI (s ||| (2 ^ k))) (nv_or (rfl) (rfl)) ?_
                refine aw_dS [.int (nI (i + 1)), .int (nI (s ||| (2 ^ k)))] [.ref (G.1 + 100), .int (lk11756 ((10 * i) + k))] lX9_170 sX9_at mX9_at dX9_joins_120 (bX9_at (i := i + 1) (s := s ||| (2 ^ k)) (by omega)) rfl (Nat.le_of_ble_eq_true rfl) (by decide) (by decide) rfl ?_
                refine aw_iald ((i + 1) * 1024 + (s ||| (2 ^ k))) (rfl) (by omega) (by decide) dX9_joins_123 f1813 ?_
                refine aw_iadd dX9_joins_124 ?_
                refine aw_aload_n 7 dX9_joins_125 rfl rfl ?_
                refine aw_get fX9_50 dX9_joins_126 f1816 rfl ?_
                refine aw_iload 2 dX9_joins_129 rfl ?_
                refine aw_iload 3 dX9_joins_131 rfl ?_
                refine aw_dS [.int (nI i), .int (nI s)] [.ref (G.1 + 100), .int ((lk11756 ((10 * i) + k)) + (su11774 ((i + 1) * 1024 + (s ||| (2 ^ k)))))] lX9_170 sX9_at mX9_at dX9_joins_133 (bX9_at (i := i) (s := s) (by omega)) rfl (Nat.le_of_ble_eq_true rfl) (by decide) (by decide) rfl ?_
                refine aw_iald (i * 1024 + s) (rfl) (by omega) (by decide) dX9_joins_136 f1813 ?_
                refine aw_icmp_ne 149 dX9_joins_137 (by decide) (fun c137 => ?_) (fun c137 => ?_)
                · have d137 := mt (j_eq (a := ((lk11756 ((10 * i) + k)) + (su11774 ((i + 1) * 1024 + (s ||| (2 ^ k))))).toInt) (b := (su11774 (i * 1024 + s)).toInt) (rfl) (rfl)).mpr c137
                  refine aw_iinc (j := 1) (nI (k + 1)) [(6, .int (nI (k + 1))), (7, .int (lk11756 ((10 * i) + k))), (5, .int (nI i)), (4, .int (nI s)), (3, .int r1777), (2, .int (nI b)), (1, .int (nI a)), (0, .ref (G.1 + 88))] dX9_joins_149 rfl (nv_inc (rfl)) (by decide) rfl ?_
                  refine aw_goto 52 dX9_joins_152 (by decide) ?_
                  refine aw_lv [(6, .int (nI (k + 1))), (5, .int (nI i)), (4, .int (nI s)), (3, .int r1777), (2, .int (nI b)), (1, .int (nI a)), (0, .ref (G.1 + 88))] [0, 2, 3, 4, 5, 6, 7] rfl ?_
                  exact ih1828 (k + 1) jd2 _ (by omega) (by omega) (hp2) f1813 f1814 f1815 f1816 f1817 f1818 f1819 f1820 f1821 f1822 f1823 f1824 f1825 f1826 (k1827)
                · have d137 := (j_eq (a := ((lk11756 ((10 * i) + k)) + (su11774 ((i + 1) * 1024 + (s ||| (2 ^ k))))).toInt) (b := (su11774 (i * 1024 + s)).toInt) (rfl) (rfl)).mp c137
                  refine aw_aload_n 7 dX9_joins_140 rfl rfl ?_
                  refine aw_get fX9_53 dX9_joins_141 f1816 rfl ?_
                  refine aw_iload 2 dX9_joins_144 rfl ?_
                  refine aw_iload 1 dX9_joins_146 rfl ?_
                  refine aw_iast i (rfl) (by omega) (by decide) dX9_joins_148 f1826 ?_
                  refine aw_iinc (j := 1) (nI (k + 1)) [(6, .int (nI (k + 1))), (7, .int (lk11756 ((10 * i) + k))), (5, .int (nI i)), (4, .int (nI s)), (3, .int r1777), (2, .int (nI b)), (1, .int (nI a)), (0, .ref (G.1 + 88))] dX9_joins_149 rfl (nv_inc (rfl)) (by decide) rfl ?_
                  refine aw_goto 52 dX9_joins_152 (by decide) ?_
                  refine aw_lv [(6, .int (nI (k + 1))), (5, .int (nI i)), (4, .int (nI s)), (3, .int r1777), (2, .int (nI b)), (1, .int (nI a)), (0, .ref (G.1 + 88))] [0, 2, 3, 4, 5, 6, 7] rfl ?_
                  exact ih1828 (k + 1) (upd jd2 i (nI k)) _ (by omega) (by omega) (pB_u hp2 (Or.inr ⟨_, by omega, rfl⟩)) (gn (by decide) (f1813)) (gn (by decide) (f1814)) (gn (by decide) (f1815)) (gn (by decide) (f1816)) (gn (by decide) (f1817)) (gn (by decide) (f1818)) (gn (by decide) (f1819)) (gn (by decide) (f1820)) (gn (by decide) (f1821)) (gn (by decide) (f1822)) (gn (by decide) (f1823)) (gn (by decide) (f1824)) (gn (by decide) (f1825)) (gs f1826) (rng_set (k1827) (by decide) (by decide))
