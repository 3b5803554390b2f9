set_option maxHeartbeats 4000000 in
theorem bX9_joins {l : Launch} {G : xG} {h : List va_E} {sp fa nb ns nm nv sh : Nat} {ho ow sl : Int32} {m ye b1 b2 : Nat → Nat} {W Z Ro Co : Nat → Int32} {fi : Nat → Nat} {lk su jd wy : Nat → Int32} {a b : Nat} {lx : Nat → Nat → Nat} (h88 : h[88]? = some (oB 9 (lM G (nI sp) (nI fa) (nI nb) (nI ns) (nI nm) ho ow sl (nI nv) (nI sh)))) (h90 : h[90]? = some (aI 20 (nA m))) (h91 : h[91]? = some (aI 4 (nA ye))) (h93 : h[93]? = some (aI 40 W)) (h94 : h[94]? = some (aI 40 Z)) (h95 : h[95]? = some (aI 40 Ro)) (h96 : h[96]? = some (aI 40 Co)) (h97 : h[97]? = some (aI 30 (nA b1))) (h98 : h[98]? = some (aI 30 (nA b2))) (h92 : h[92]? = some (aI 4 (nA fi))) (h99 : h[99]? = some (aI 100 lk)) (h100 : h[100]? = some (aI 11264 su)) (h101 : h[101]? = some (aI 10 jd)) (h102 : h[102]? = some (aI 11264 wy)) (hm : ∀ j, j < 20 → m j ≤ j) (hye : ∀ j, j < 4 → ye j < 1901) (hnb : nb ≤ 30) (bb1 : ∀ j, j < 30 → b1 j < 40) (bb2 : ∀ j, j < 30 → b2 j < 40) (hsp : sp ≤ 50) (hfd : fa ≤ 9) (hfi : ∀ j, j < 4 → fi j < 11) (ba : a < 4) (bb : b < 4) (hjd : pB jd) (hlx : ∀ i, i < fi a → ∀ k, k < fi b → (lkS ye (fun j => snF (root m) (W j) 20) Z Ro Co (brF b1 b2 (a * 10 + i) (b * 10 + k) nb = true) sp fa a i b k) = nI (lx i k)) (hlx3 : ∀ i k, lx i k ≤ 300) : CE l G yX9_joins cX9_joins 8 (some .int) 4 0 0 [.ref (G.1 + 88), .int (nI a), .int (nI b)] h (some (.int (nI (jS lx (fi b) (fi a) 0 0)))) (fun h1 => ∃ lk1 : Nat → Int32, ∃ su1 : Nat → Int32, ∃ jd1 : Nat → Int32, ∃ wy1 : Nat → Int32, h1[99]? = some (aI 100 lk1) ∧ h1[100]? = some (aI 11264 su1) ∧ h1[101]? = some (aI 10 jd1) ∧ h1[102]? = some (aI 11264 wy1) ∧ rng 99 102 h h1 ∧ pB jd1 ∧ (∀ j, j < fi a → jd1 j = jP lx (fi b) (fi a) j) ∧ jL lx (fi a) (fi b) lk1 ∧ wy1 0 = nI (min 1000000 (jC lx (fi b) (fi a) 0 0))) := by
  refine cm_ofQ rfl (Nat.le_of_ble_eq_true rfl) [(0, .ref (G.1 + 88)), (1, .int (nI a)), (2, .int (nI b))] rfl (fun QF hQF => ?_)
  have fa0 := hfi a ba
  have fb0 := hfi b bb
  refine aw_aload_n 0 dX9_joins_0 rfl rfl ?_
  refine aw_iload_n 1 dX9_joins_1 rfl rfl ?_
  refine aw_iload_n 2 dX9_joins_2 rfl rfl ?_
  refine aw_eW [.int (nI a), .int (nI b)] [] lX9_177 vX9_measure mX9_measure dX9_joins_3 (bX9_measure (sp := sp) (fa := fa) (nb := nb) (ns := ns) (nm := nm) (nv := nv) (sh := sh) (ho := ho) (ow := ow) (sl := sl) (m := m) (ye := ye) (b1 := b1) (b2 := b2) (W := W) (Z := Z) (Ro := Ro) (Co := Co) (fi := fi) (lk := lk) (a := a) (b := b) h88 h90 h91 h93 h94 h95 h96 h97 h98 h92 h99 hm hye (by omega) bb1 bb2 (by omega) (by omega) hfi (by omega) (by omega) hlx) h88 rfl rfl rfl (Nat.le_of_ble_eq_true rfl) (by decide) (by decide) rfl (fun h1747 q1746 => ?_)
  obtain ⟨lk11745, f1748, k1749, p1750⟩ := q1746
  have f1751 := rng_at k1749 (by decide) h88
  have f1752 := rng_at k1749 (by decide) h90
  have f1753 := rng_at k1749 (by decide) h91
  have f1754 := rng_at k1749 (by decide) h93
  have f1755 := rng_at k1749 (by decide) h94
  have f1756 := rng_at k1749 (by decide) h95
  have f1757 := rng_at k1749 (by decide) h96
  have f1758 := rng_at k1749 (by decide) h97
  have f1759 := rng_at k1749 (by decide) h98
  have f1760 := rng_at k1749 (by decide) h92
  have f1761 := rng_at k1749 (by decide) h100
  have f1762 := rng_at k1749 (by decide) h101
  have f1763 := rng_at k1749 (by decide) h102
  have hL := p1750
  refine aw_aload_n 0 dX9_joins_6 rfl rfl ?_
  refine aw_aload_n 0 dX9_joins_7 rfl rfl ?_
  refine aw_get fX9_19 dX9_joins_8 f1751 rfl ?_
  refine aw_iload_n 1 dX9_joins_11 rfl rfl ?_
  refine aw_iald a (rfl) (by omega) (by decide) dX9_joins_12 f1760 ?_
  refine aw_toe (nI (fi a)) (rfl) ?_
  refine aw_aload_n 0 dX9_joins_13 rfl rfl ?_
  refine aw_get fX9_19 dX9_joins_14 f1751 rfl ?_
  refine aw_iload_n 2 dX9_joins_17 rfl rfl ?_
  refine aw_iald b (rfl) (by omega) (by decide) dX9_joins_18 f1760 ?_
  refine aw_toe (nI (fi b)) (rfl) ?_
  refine aw_eV [.int (nI (fi a)), .int (nI (fi b))] [] lX9_181 vX9_finds mX9_finds dX9_joins_19 (bX9_finds (sp := sp) (fa := fa) (nb := nb) (ns := ns) (nm := nm) (nv := nv) (sh := sh) (ho := ho) (ow := ow) (sl := sl) (lk := lk11745) (su := su) (wy := wy) (n := fi a) (m := fi b) f1751 f1748 f1761 f1763 (by omega) (by omega) hL hlx3) f1751 rfl rfl rfl (Nat.le_of_ble_eq_true rfl) (by decide) (by decide) rfl (fun h1767 q1766 => ?_)
  obtain ⟨su11764, wy11765, f1768, f1769, k1770, p1771, p1772⟩ := q1766
  have f1773 := rg2_at k1770 (by decide) f1748
  have f1774 := rg2_at k1770 (by decide) f1751
  have f1775 := rg2_at k1770 (by decide) f1752
  have f1776 := rg2_at k1770 (by decide) f1753
  have f1777 := rg2_at k1770 (by decide) f1754
  have f1778 := rg2_at k1770 (by decide) f1755
  have f1779 := rg2_at k1770 (by decide) f1756
  have f1780 := rg2_at k1770 (by decide) f1757
  have f1781 := rg2_at k1770 (by decide) f1758
  have f1782 := rg2_at k1770 (by decide) f1759
  have f1783 := rg2_at k1770 (by decide) f1760
  have f1784 := rg2_at k1770 (by decide) f1762
  have hF := p1771
  have hWW := p1772
  have hL9 := hL
  refine aw_istore_n [(3, .int (nI (jS lx (fi b) (fi a) 0 0))), (0, .ref (G.1 + 88)), (1, .int (nI a)), (2, .int (nI b))] dX9_joins_22 rfl (by decide) rfl ?_
  refine aw_iconst (0) dX9_joins_23 (by decide) ?_
  refine aw_istore [(4, .int 0), (3, .int (nI (jS lx (fi b) (fi a) 0 0))), (0, .ref (G.1 + 88)), (1, .int (nI a)), (2, .int (nI b))] dX9_joins_24 (by decide) rfl ?_
  refine aw_iconst (0) dX9_joins_26 (by decide) ?_
  refine aw_istore [(5, .int 0), (4, .int 0), (3, .int (nI (jS lx (fi b) (fi a) 0 0))), (0, .ref (G.1 + 88)), (1, .int (nI a)), (2, .int (nI b))] dX9_joins_27 (by decide) rfl ?_
  refine aw_lv [(5, .int 0), (4, .int 0), (3, .int (nI (jS lx (fi b) (fi a) 0 0))), (2, .int (nI b)), (1, .int (nI a)), (0, .ref (G.1 + 88))] [0, 1, 2, 5, 4, 3] rfl ?_
  suffices L1801 : ∀ (mm : Nat) (i : Nat) (s : Nat) (jd1 : Nat → Int32) (h1785 : List va_E), fi a - i < mm → (i ≤ fi a) → (s < 1024) → (pB jd1) → (s = jTk lx (fi b) (fi a) i) → (∀ j, j < i → jd1 j = jP lx (fi b) (fi a) j) → h1785[100]? = some (aI 11264 su11764) → h1785[102]? = some (aI 11264 wy11765) → h1785[99]? = some (aI 100 lk11745) → h1785[88]? = some (oB 9 (lM G (nI sp) (nI fa) (nI nb) (nI ns) (nI nm) ho ow sl (nI nv) (nI sh))) → h1785[90]? = some (aI 20 (nA m)) → h1785[91]? = some (aI 4 (nA ye)) → h1785[93]? = some (aI 40 W) → h1785[94]? = some (aI 40 Z) → h1785[95]? = some (aI 40 Ro) → h1785[96]? = some (aI 40 Co) → h1785[97]? = some (aI 30 (nA b1)) → h1785[98]? = some (aI 30 (nA b2)) → h1785[92]? = some (aI 4 (nA fi)) → h1785[101]? = some (aI 10 jd1) → rng 99 102 h h1785 → AW l G yX9_joins cX9_joins 8 (some .int) (xR 4 0 0) (fun _ _ => True) QF 0 0 29 [(5, .int (nI i)), (4, .int (nI s)), (3, .int (nI (jS lx (fi b) (fi a) 0 0))), (2, .int (nI b)), (1, .int (nI a)), (0, .ref (G.1 + 88))] [] h1785 from L1801 (fi a - 0 + 1) 0 0 jd _ (Nat.lt_succ_self _) (Nat.zero_le _) (by decide) (hjd) (rfl) (fun q h8 => absurd h8 (Nat.not_lt_zero _)) f1768 f1769 f1773 f1774 f1775 f1776 f1777 f1778 f1779 f1780 f1781 f1782 f1783 f1784 (rng_tr (rng_tr (rng_rf 99 102 h) (rng_w k1749 (by decide) (by decide))) (rng_w2 k1770 (by decide) (by decide)))
  intro mm
  induction mm with
  | zero =>
    intro i s jd1 h1785 hmm hi bs hp hs hq f1786 f1787 f1788 f1789 f1790 f1791 f1792 f1793 f1794 f1795 f1796 f1797 f1798 f1799 k1800
    exact absurd hmm (Nat.not_lt_zero _)
  | succ mm ih1801 =>
    intro i s jd1 h1785 hmm hi bs hp hs hq f1786 f1787 f1788 f1789 f1790 f1791 f1792 f1793 f1794 f1795 f1796 f1797 f1798 f1799 k1800
    have hTm := jT_m (lk := lx) (m := fi b) (n := fi a) (by omega) i
    rw [← hs] at hTm
    refine aw_iload 0 dX9_joins_29 rfl ?_
    refine aw_aload_n 5 dX9_joins_31 rfl rfl ?_
    refine aw_get fX9_19 dX9_joins_32 f1789 rfl ?_
    refine aw_iload_n 4 dX9_joins_35 rfl rfl ?_
    refine aw_iald a (rfl) (by omega) (by decide) dX9_joins_36 f1798 ?_
    refine aw_toe (nI (fi a)) (rfl) ?_
    refine aw_icmp_ge 185 dX9_joins_37 (by decide) (fun c37 => ?_) (fun c37 => ?_)
    · have d37 := (nv_le (a := fi a) (b := i) (rfl) (rfl) (by omega) (by omega)).mp c37
      refine aw_iload_n 2 dX9_joins_185 rfl rfl ?_
      subst hQF
      exact aw_iret rfl dX9_joins_186 (by decide) (by decide) ⟨rfl, _, _, _, _, f1788, f1786, f1799, f1787, k1800, hp, fun j hj => hq j (by omega), hL, fW_00 hWW⟩
    · have d37 := mt (nv_le (a := fi a) (b := i) (rfl) (rfl) (by omega) (by omega)).mpr c37
      refine aw_aload_n 5 dX9_joins_40 rfl rfl ?_
      refine aw_get fX9_53 dX9_joins_41 f1789 rfl ?_
      refine aw_iload 0 dX9_joins_44 rfl ?_
      refine aw_bipush (-9) dX9_joins_46 (by decide) ?_
      refine aw_iast i (rfl) (by omega) (by decide) dX9_joins_48 f1799 ?_
      refine aw_iconst (0) dX9_joins_49 (by decide) ?_
      refine aw_istore [(6, .int 0), (5, .int (nI i)), (4, .int (nI s)), (3, .int (nI (jS lx (fi b) (fi a) 0 0))), (2, .int (nI b)), (1, .int (nI a)), (0, .ref (G.1 + 88))] dX9_joins_50 (by decide) rfl ?_
      refine aw_lv [(6, .int 0), (5, .int (nI i)), (4, .int (nI s)), (3, .int (nI (jS lx (fi b) (fi a) 0 0))), (2, .int (nI b)), (1, .int (nI a)), (0, .ref (G.1 + 88))] [0, 1, 2, 3, 4, 5, 6] rfl ?_
      suffices L1818 : ∀ (mm : Nat) (k : Nat) (jd2 : Nat → Int32) (h1802 : List va_E), fi b - k < mm → (k ≤ fi b) → (pB jd2) → (∀ j, j < i → jd2 j = jP lx (fi b) (fi a) j) → (jd2 i = jF lx (jS lx (fi b) (fi a - i - 1) (i + 1)) i s (jS lx (fi b) (fi a - i) i s) k) → h1802[100]? = some (aI 11264 su11764) → h1802[102]? = some (aI 11264 wy11765) → h1802[99]? = some (aI 100 lk11745) → h1802[88]? = some (oB 9 (lM G (nI sp) (nI fa) (nI nb) (nI ns) (nI nm) ho ow sl (nI nv) (nI sh))) → h1802[90]? = some (aI 20 (nA m)) → h1802[91]? = some (aI 4 (nA ye)) → h1802[93]? = some (aI 40 W) → h1802[94]? = some (aI 40 Z) → h1802[95]? = some (aI 40 Ro) → h1802[96]? = some (aI 40 Co) → h1802[97]? = some (aI 30 (nA b1)) → h1802[98]? = some (aI 30 (nA b2)) → h1802[92]? = some (aI 4 (nA fi)) → h1802[101]? = some (aI 10 jd2) → rng 99 102 h h1802 → AW l G yX9_joins cX9_joins 8 (some .int) (xR 4 0 0) (fun _ _ => True) QF 0 0 52 [(6, .int (nI k)), (5, .int (nI i)), (4, .int (nI s)), (3, .int (nI (jS lx (fi b) (fi a) 0 0))), (2, .int (nI b)), (1, .int (nI a)), (0, .ref (G.1 + 88))] [] h1802 from L1818 (fi b - 0 + 1) 0 (upd jd1 i (-9)) _ (Nat.lt_succ_self _) (Nat.zero_le _) (pB_u hp (Or.inl rfl)) (pd_u hq) (jd_0) (gn (by decide) (f1786)) (gn (by decide) (f1787)) (gn (by decide) (f1788)) (gn (by decide) (f1789)) (gn (by decide) (f1790)) (gn (by decide) (f1791)) (gn (by decide) (f1792)) (gn (by decide) (f1793)) (gn (by decide) (f1794)) (gn (by decide) (f1795)) (gn (by decide) (f1796)) (gn (by decide) (f1797)) (gn (by decide) (f1798)) (gs f1799) (rng_set (k1800) (by decide) (by decide))
      intro mm
      induction mm with
      | zero =>
        intro k jd2 h1802 hmm hk hp2 hq2 hc f1803 f1804 f1805 f1806 f1807 f1808 f1809 f1810 f1811 f1812 f1813 f1814 f1815 f1816 k1817
        exact absurd hmm (Nat.not_lt_zero _)
      | succ mm ih1818 =>
        intro k jd2 h1802 hmm hk hp2 hq2 hc f1803 f1804 f1805 f1806 f1807 f1808 f1809 f1810 f1811 f1812 f1813 f1814 f1815 f1816 k1817
        refine aw_iload 0 dX9_joins_52 rfl ?_
        refine aw_aload_n 6 dX9_joins_54 rfl rfl ?_
        refine aw_get fX9_19 dX9_joins_55 f1806 rfl ?_
        refine aw_iload_n 4 dX9_joins_58 rfl rfl ?_
        refine aw_iald b (rfl) (by omega) (by decide) dX9_joins_59 f1815 ?_
        refine aw_toe (nI (fi b)) (rfl) ?_
        refine aw_icmp_ge 155 dX9_joins_60 (by decide) (fun c60 => ?_) (fun c60 => ?_)
        · have d60 := (nv_le (a := fi b) (b := k) (rfl) (rfl) (by omega) (by omega)).mp c60
          refine aw_aload_n 6 dX9_joins_155 rfl rfl ?_
          refine aw_get fX9_53 dX9_joins_156 f1806 rfl ?_
          refine aw_iload 1 dX9_joins_159 rfl ?_
          refine aw_iald i (rfl) (by omega) (by decide) dX9_joins_161 f1816 ?_
          refine aw_if_lt 179 dX9_joins_162 (by decide) (fun c162 => ?_) (fun c162 => ?_)
          · have d162 := (j_lt (a := (jd2 i).toInt) (b := (0)) (rfl) (rfl)).mp c162
            refine aw_iinc (j := 1) (nI (i + 1)) [(5, .int (nI (i + 1))), (6, .int (nI k)), (4, .int (nI s)), (3, .int (nI (jS lx (fi b) (fi a) 0 0))), (2, .int (nI b)), (1, .int (nI a)), (0, .ref (G.1 + 88))] dX9_joins_179 rfl (nv_inc (rfl)) (by decide) rfl ?_
            refine aw_goto 29 dX9_joins_182 (by decide) ?_
            refine aw_lv [(5, .int (nI (i + 1))), (4, .int (nI s)), (3, .int (nI (jS lx (fi b) (fi a) 0 0))), (2, .int (nI b)), (1, .int (nI a)), (0, .ref (G.1 + 88))] [0, 2, 3, 4, 5, 6] rfl ?_
            have EJ : jP lx (fi b) (fi a) i = jd2 i := jP_1 hs (by omega) hc
            have ET : jP lx (fi b) (fi a) i = -9 := EJ.trans (pB_9 hp2 (by omega) (by omega))
            exact ih1801 (i + 1) s jd2 _ (by omega) (by omega) (bs) (hp2) (by rw [jT_s, if_pos ET]; exact hs) (pd_s hq2 EJ) f1803 f1804 f1805 f1806 f1807 f1808 f1809 f1810 f1811 f1812 f1813 f1814 f1815 f1816 (k1817)
          · have d162 := mt (j_lt (a := (jd2 i).toInt) (b := (0)) (rfl) (rfl)).mpr c162
            obtain ⟨q, bq, eq⟩ := pB_g hp2 (show i < 10 by omega) d162
            refine aw_iload 2 dX9_joins_165 rfl ?_
            refine aw_iconst (1) dX9_joins_167 (by decide) ?_
            refine aw_aload_n 6 dX9_joins_168 rfl rfl ?_
            refine aw_get fX9_53 dX9_joins_169 f1806 rfl ?_
            refine aw_iload 1 dX9_joins_172 rfl ?_
            refine aw_iald i (rfl) (by omega) (by decide) dX9_joins_174 f1816 ?_
            refine aw_toe (nI q) (eq) ?_
            refine aw_ishl dX9_joins_175 ?_
            refine aw_toe (nI (2 ^ q)) (nv_shl1 (rfl) (by omega)) ?_
            refine aw_ior dX9_joins_176 ?_
            refine aw_toe (nI (s ||| (2 ^ q))) (nv_or (rfl) (rfl)) ?_
            refine aw_istore [(4, .int (nI (s ||| (2 ^ q)))), (6, .int (nI k)), (5, .int (nI i)), (3, .int (nI (jS lx (fi b) (fi a) 0 0))), (2, .int (nI b)), (1, .int (nI a)), (0, .ref (G.1 + 88))] dX9_joins_177 (by decide) rfl ?_
            refine aw_iinc (j := 2) (nI (i + 1)) [(5, .int (nI (i + 1))), (4, .int (nI (s ||| (2 ^ q)))), (6, .int (nI k)), (3, .int (nI (jS lx (fi b) (fi a) 0 0))), (2, .int (nI b)), (1, .int (nI a)), (0, .ref (G.1 + 88))] dX9_joins_179 rfl (nv_inc (rfl)) (by decide) rfl ?_
            refine aw_goto 29 dX9_joins_182 (by decide) ?_
            refine aw_lv [(5, .int (nI (i + 1))), (4, .int (nI (s ||| (2 ^ q)))), (3, .int (nI (jS lx (fi b) (fi a) 0 0))), (2, .int (nI b)), (1, .int (nI a)), (0, .ref (G.1 + 88))] [0, 1, 3, 4, 5, 6] rfl ?_
            have EJ : jP lx (fi b) (fi a) i = jd2 i := jP_1 hs (by omega) hc
            have ET : jP lx (fi b) (fi a) i = nI q := EJ.trans eq
            exact ih1801 (i + 1) (s ||| (2 ^ q)) jd2 _ (by omega) (by omega) (or_k bs (by omega)) (hp2) (by rw [jT_s, ET, if_neg (nI_9 (by omega)), jn_nI (by omega), ← hs]) (pd_s hq2 EJ) f1803 f1804 f1805 f1806 f1807 f1808 f1809 f1810 f1811 f1812 f1813 f1814 f1815 f1816 (k1817)
        · have d60 := mt (nv_le (a := fi b) (b := k) (rfl) (rfl) (by omega) (by omega)).mpr c60
          refine aw_aload_n 6 dX9_joins_63 rfl rfl ?_
          refine aw_get fX9_53 dX9_joins_64 f1806 rfl ?_
          refine aw_iload 1 dX9_joins_67 rfl ?_
          refine aw_iald i (rfl) (by omega) (by decide) dX9_joins_69 f1816 ?_
          refine aw_if_ge 155 dX9_joins_70 (by decide) (fun c70 => ?_) (fun c70 => ?_)
          · have d70 := (j_le (a := (0)) (b := (jd2 i).toInt) (rfl) (rfl)).mp c70
            refine aw_aload_n 6 dX9_joins_155 rfl rfl ?_
            refine aw_get fX9_53 dX9_joins_156 f1806 rfl ?_
            refine aw_iload 1 dX9_joins_159 rfl ?_
            refine aw_iald i (rfl) (by omega) (by decide) dX9_joins_161 f1816 ?_
            refine aw_if_lt 179 dX9_joins_162 (by decide) (fun c162 => ?_) (fun c162 => ?_)
            · have d162 := (j_lt (a := (jd2 i).toInt) (b := (0)) (rfl) (rfl)).mp c162
              refine aw_iinc (j := 1) (nI (i + 1)) [(5, .int (nI (i + 1))), (6, .int (nI k)), (4, .int (nI s)), (3, .int (nI (jS lx (fi b) (fi a) 0 0))), (2, .int (nI b)), (1, .int (nI a)), (0, .ref (G.1 + 88))] dX9_joins_179 rfl (nv_inc (rfl)) (by decide) rfl ?_
              refine aw_goto 29 dX9_joins_182 (by decide) ?_
              refine aw_lv [(5, .int (nI (i + 1))), (4, .int (nI s)), (3, .int (nI (jS lx (fi b) (fi a) 0 0))), (2, .int (nI b)), (1, .int (nI a)), (0, .ref (G.1 + 88))] [0, 2, 3, 4, 5, 6] rfl ?_
              exfalso
              omega
            · have d162 := mt (j_lt (a := (jd2 i).toInt) (b := (0)) (rfl) (rfl)).mpr c162
              obtain ⟨q, bq, eq⟩ := pB_g hp2 (show i < 10 by omega) d162
              refine aw_iload 2 dX9_joins_165 rfl ?_
              refine aw_iconst (1) dX9_joins_167 (by decide) ?_
              refine aw_aload_n 6 dX9_joins_168 rfl rfl ?_
              refine aw_get fX9_53 dX9_joins_169 f1806 rfl ?_
              refine aw_iload 1 dX9_joins_172 rfl ?_
              refine aw_iald i (rfl) (by omega) (by decide) dX9_joins_174 f1816 ?_
              refine aw_toe (nI q) (eq) ?_
              refine aw_ishl dX9_joins_175 ?_
              refine aw_toe (nI (2 ^ q)) (nv_shl1 (rfl) (by omega)) ?_
              refine aw_ior dX9_joins_176 ?_
              refine aw_toe (nI (s ||| (2 ^ q))) (nv_or (rfl) (rfl)) ?_
              refine aw_istore [(4, .int (nI (s ||| (2 ^ q)))), (6, .int (nI k)), (5, .int (nI i)), (3, .int (nI (jS lx (fi b) (fi a) 0 0))), (2, .int (nI b)), (1, .int (nI a)), (0, .ref (G.1 + 88))] dX9_joins_177 (by decide) rfl ?_
              refine aw_iinc (j := 2) (nI (i + 1)) [(5, .int (nI (i + 1))), (4, .int (nI (s ||| (2 ^ q)))), (6, .int (nI k)), (3, .int (nI (jS lx (fi b) (fi a) 0 0))), (2, .int (nI b)), (1, .int (nI a)), (0, .ref (G.1 + 88))] dX9_joins_179 rfl (nv_inc (rfl)) (by decide) rfl ?_
              refine aw_goto 29 dX9_joins_182 (by decide) ?_
              refine aw_lv [(5, .int (nI (i + 1))), (4, .int (nI (s ||| (2 ^ q)))), (3, .int (nI (jS lx (fi b) (fi a) 0 0))), (2, .int (nI b)), (1, .int (nI a)), (0, .ref (G.1 + 88))] [0, 1, 3, 4, 5, 6] rfl ?_
              have EJ : jP lx (fi b) (fi a) i = jd2 i := jP_2 hs (by omega) (by rw [eq]; exact nI_9 (by omega)) hc
              have ET : jP lx (fi b) (fi a) i = nI q := EJ.trans eq
              exact ih1801 (i + 1) (s ||| (2 ^ q)) jd2 _ (by omega) (by omega) (or_k bs (by omega)) (hp2) (by rw [jT_s, ET, if_neg (nI_9 (by omega)), jn_nI (by omega), ← hs]) (pd_s hq2 EJ) f1803 f1804 f1805 f1806 f1807 f1808 f1809 f1810 f1811 f1812 f1813 f1814 f1815 f1816 (k1817)
          · have d70 := mt (j_le (a := (0)) (b := (jd2 i).toInt) (rfl) (rfl)).mpr c70
            refine aw_aload_n 6 dX9_joins_73 rfl rfl ?_
            refine aw_get fX9_47 dX9_joins_74 f1806 rfl ?_
            refine aw_bipush (10) dX9_joins_77 (by decide) ?_
            refine aw_iload 1 dX9_joins_79 rfl ?_
            refine aw_imul dX9_joins_81 ?_
            refine aw_toe (nI (i * 10)) (by rw [Nat.mul_comm i 10]; exact nv_mul (rfl) (rfl)) ?_
            refine aw_iload 0 dX9_joins_82 rfl ?_
            refine aw_iadd dX9_joins_84 ?_
            refine aw_toe (nI ((i * 10) + k)) (nv_add (rfl) (rfl)) ?_
            refine aw_iald ((i * 10) + k) (rfl) (by omega) (by decide) dX9_joins_85 f1805 ?_
            have bl := hlx3 i k
            refine aw_toe (nI (lx i k)) (hL i (by omega) k (by omega)) ?_
            refine aw_istore [(7, .int (nI (lx i k))), (6, .int (nI k)), (5, .int (nI i)), (4, .int (nI s)), (3, .int (nI (jS lx (fi b) (fi a) 0 0))), (2, .int (nI b)), (1, .int (nI a)), (0, .ref (G.1 + 88))] dX9_joins_86 (by decide) rfl ?_
            refine aw_iload 0 dX9_joins_88 rfl ?_
            refine aw_if_le 149 dX9_joins_90 (by decide) (fun c90 => ?_) (fun c90 => ?_)
            · have d90 := (nv_le (a := lx i k) (b := 0) (rfl) (rfl) (by omega) (by omega)).mp c90
              refine aw_iinc (j := 1) (nI (k + 1)) [(6, .int (nI (k + 1))), (7, .int (nI (lx i k))), (5, .int (nI i)), (4, .int (nI s)), (3, .int (nI (jS lx (fi b) (fi a) 0 0))), (2, .int (nI b)), (1, .int (nI a)), (0, .ref (G.1 + 88))] dX9_joins_149 rfl (nv_inc (rfl)) (by decide) rfl ?_
              refine aw_goto 52 dX9_joins_152 (by decide) ?_
              refine aw_lv [(6, .int (nI (k + 1))), (5, .int (nI i)), (4, .int (nI s)), (3, .int (nI (jS lx (fi b) (fi a) 0 0))), (2, .int (nI b)), (1, .int (nI a)), (0, .ref (G.1 + 88))] [0, 2, 3, 4, 5, 6, 7] rfl ?_
              exact ih1818 (k + 1) jd2 _ (by omega) (by omega) (hp2) (hq2) (jd_n hc (pB_9 hp2 (by omega) (by omega)) (Or.inl (Or.inl (by omega)))) f1803 f1804 f1805 f1806 f1807 f1808 f1809 f1810 f1811 f1812 f1813 f1814 f1815 f1816 (k1817)
            · have d90 := mt (nv_le (a := lx i k) (b := 0) (rfl) (rfl) (by omega) (by omega)).mpr c90
              refine aw_iload 3 dX9_joins_93 rfl ?_
              refine aw_iload 1 dX9_joins_95 rfl ?_
              refine aw_ishr dX9_joins_97 ?_
              refine aw_iconst (1) dX9_joins_98 (by decide) ?_
              refine aw_iand dX9_joins_99 ?_
              refine aw_toe (if s.testBit k = true then 1 else 0) (nv_bit (rfl) (rfl) (by omega) (by omega)) ?_
              refine aw_if_ne 149 dX9_joins_100 (by decide) (fun c100 => ?_) (fun c100 => ?_)
              · have t100 := ite_1 c100
                refine aw_iinc (j := 1) (nI (k + 1)) [(6, .int (nI (k + 1))), (7, .int (nI (lx i k))), (5, .int (nI i)), (4, .int (nI s)), (3, .int (nI (jS lx (fi b) (fi a) 0 0))), (2, .int (nI b)), (1, .int (nI a)), (0, .ref (G.1 + 88))] dX9_joins_149 rfl (nv_inc (rfl)) (by decide) rfl ?_
                refine aw_goto 52 dX9_joins_152 (by decide) ?_
                refine aw_lv [(6, .int (nI (k + 1))), (5, .int (nI i)), (4, .int (nI s)), (3, .int (nI (jS lx (fi b) (fi a) 0 0))), (2, .int (nI b)), (1, .int (nI a)), (0, .ref (G.1 + 88))] [0, 2, 3, 4, 5, 6, 7] rfl ?_
                exact ih1818 (k + 1) jd2 _ (by omega) (by omega) (hp2) (hq2) (jd_n hc (pB_9 hp2 (by omega) (by omega)) (Or.inl (Or.inr t100))) f1803 f1804 f1805 f1806 f1807 f1808 f1809 f1810 f1811 f1812 f1813 f1814 f1815 f1816 (k1817)
              · have t100 := ite_0 c100
                have bq0 := or_k (a := s) (b := k) (by omega) (by omega)
                refine aw_iload 0 dX9_joins_103 rfl ?_
                refine aw_aload_n 7 dX9_joins_105 rfl rfl ?_
                refine aw_get fX9_50 dX9_joins_106 f1806 rfl ?_
                refine aw_iload 2 dX9_joins_109 rfl ?_
                refine aw_iconst (1) dX9_joins_111 (by decide) ?_
                refine aw_iadd dX9_joins_112 ?_
                refine aw_toe (nI (i + 1)) (nv_add (rfl) (rfl)) ?_
                refine aw_iload 3 dX9_joins_113 rfl ?_
                refine aw_iconst (1) dX9_joins_115 (by decide) ?_
                refine aw_iload 1 dX9_joins_116 rfl ?_
                refine aw_ishl dX9_joins_118 ?_
                refine aw_toe (nI (2 ^ k)) (nv_shl1 (rfl) (by omega)) ?_
                refine aw_ior dX9_joins_119 ?_
                refine aw_toe (nI (s ||| (2 ^ k))) (nv_or (rfl) (rfl)) ?_
                refine aw_dS [.int (nI (i + 1)), .int (nI (s ||| (2 ^ k)))] [.ref (G.1 + 100), .int (nI (lx i k))] lX9_170 sX9_at mX9_at dX9_joins_120 (bX9_at (i := i + 1) (s := s ||| (2 ^ k)) (by omega)) rfl (Nat.le_of_ble_eq_true rfl) (by decide) (by decide) rfl ?_
                refine aw_iald ((i + 1) * 1024 + (s ||| (2 ^ k))) (rfl) (by omega) (by decide) dX9_joins_123 f1803 ?_
                refine aw_toe (nI (jS lx (fi b) (fi a - i - 1) (i + 1) (s ||| 2 ^ k))) (by have h9 := hF (i + 1) (Nat.zero_le _) (by omega) (s ||| 2 ^ k) (or_2m hTm (by omega)); rw [show fi a - i - 1 = fi a - (i + 1) by omega]; exact h9) ?_
                have bj1 := jS_le (m := fi b) hlx3 (fi a - i - 1) (i + 1) (s ||| 2 ^ k)
                refine aw_iadd dX9_joins_124 ?_
                refine aw_toe (nI ((lx i k) + (jS lx (fi b) (fi a - i - 1) (i + 1) (s ||| 2 ^ k)))) (nv_add (rfl) (rfl)) ?_
                refine aw_aload_n 7 dX9_joins_125 rfl rfl ?_
                refine aw_get fX9_50 dX9_joins_126 f1806 rfl ?_
                refine aw_iload 2 dX9_joins_129 rfl ?_
                refine aw_iload 3 dX9_joins_131 rfl ?_
                refine aw_dS [.int (nI i), .int (nI s)] [.ref (G.1 + 100), .int (nI ((lx i k) + (jS lx (fi b) (fi a - i - 1) (i + 1) (s ||| 2 ^ k))))] lX9_170 sX9_at mX9_at dX9_joins_133 (bX9_at (i := i) (s := s) (by omega)) rfl (Nat.le_of_ble_eq_true rfl) (by decide) (by decide) rfl ?_
                refine aw_iald (i * 1024 + s) (rfl) (by omega) (by decide) dX9_joins_136 f1803 ?_
                refine aw_toe (nI (jS lx (fi b) (fi a - i) i s)) (hF i (Nat.zero_le _) (by omega) s hTm) ?_
                have bj2 := jS_le (m := fi b) hlx3 (fi a - i) i s
                refine aw_icmp_ne 149 dX9_joins_137 (by decide) (fun c137 => ?_) (fun c137 => ?_)
                · have d137 := mt (nv_eq (a := (lx i k) + (jS lx (fi b) (fi a - i - 1) (i + 1) (s ||| 2 ^ k))) (b := jS lx (fi b) (fi a - i) i s) (rfl) (rfl) (by omega) (by omega)).mpr c137
                  refine aw_iinc (j := 1) (nI (k + 1)) [(6, .int (nI (k + 1))), (7, .int (nI (lx i k))), (5, .int (nI i)), (4, .int (nI s)), (3, .int (nI (jS lx (fi b) (fi a) 0 0))), (2, .int (nI b)), (1, .int (nI a)), (0, .ref (G.1 + 88))] dX9_joins_149 rfl (nv_inc (rfl)) (by decide) rfl ?_
                  refine aw_goto 52 dX9_joins_152 (by decide) ?_
                  refine aw_lv [(6, .int (nI (k + 1))), (5, .int (nI i)), (4, .int (nI s)), (3, .int (nI (jS lx (fi b) (fi a) 0 0))), (2, .int (nI b)), (1, .int (nI a)), (0, .ref (G.1 + 88))] [0, 2, 3, 4, 5, 6, 7] rfl ?_
                  exact ih1818 (k + 1) jd2 _ (by omega) (by omega) (hp2) (hq2) (jd_n hc (pB_9 hp2 (by omega) (by omega)) (Or.inr d137)) f1803 f1804 f1805 f1806 f1807 f1808 f1809 f1810 f1811 f1812 f1813 f1814 f1815 f1816 (k1817)
                · have d137 := (nv_eq (a := (lx i k) + (jS lx (fi b) (fi a - i - 1) (i + 1) (s ||| 2 ^ k))) (b := jS lx (fi b) (fi a - i) i s) (rfl) (rfl) (by omega) (by omega)).mp c137
                  refine aw_aload_n 7 dX9_joins_140 rfl rfl ?_
                  refine aw_get fX9_53 dX9_joins_141 f1806 rfl ?_
                  refine aw_iload 2 dX9_joins_144 rfl ?_
                  refine aw_iload 1 dX9_joins_146 rfl ?_
                  refine aw_iast i (rfl) (by omega) (by decide) dX9_joins_148 f1816 ?_
                  refine aw_iinc (j := 1) (nI (k + 1)) [(6, .int (nI (k + 1))), (7, .int (nI (lx i k))), (5, .int (nI i)), (4, .int (nI s)), (3, .int (nI (jS lx (fi b) (fi a) 0 0))), (2, .int (nI b)), (1, .int (nI a)), (0, .ref (G.1 + 88))] dX9_joins_149 rfl (nv_inc (rfl)) (by decide) rfl ?_
                  refine aw_goto 52 dX9_joins_152 (by decide) ?_
                  refine aw_lv [(6, .int (nI (k + 1))), (5, .int (nI i)), (4, .int (nI s)), (3, .int (nI (jS lx (fi b) (fi a) 0 0))), (2, .int (nI b)), (1, .int (nI a)), (0, .ref (G.1 + 88))] [0, 2, 3, 4, 5, 6, 7] rfl ?_
                  exact ih1818 (k + 1) (upd jd2 i (nI k)) _ (by omega) (by omega) (pB_u hp2 (Or.inr ⟨_, by omega, rfl⟩)) (pd_u hq2) (jd_y hc (pB_9 hp2 (by omega) (by omega)) (fun q9 => q9.elim (fun z9 => by omega) t100) d137) (gn (by decide) (f1803)) (gn (by decide) (f1804)) (gn (by decide) (f1805)) (gn (by decide) (f1806)) (gn (by decide) (f1807)) (gn (by decide) (f1808)) (gn (by decide) (f1809)) (gn (by decide) (f1810)) (gn (by decide) (f1811)) (gn (by decide) (f1812)) (gn (by decide) (f1813)) (gn (by decide) (f1814)) (gn (by decide) (f1815)) (gs f1816) (rng_set (k1817) (by decide) (by decide))
