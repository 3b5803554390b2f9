set_option maxHeartbeats 4000000 in
theorem bX9_at {l : Launch} {G : xG} {h : List va_E} {i s : Nat}  (bi : i < 2048) : CD l G yX9_at cX9_at 2 (some .int) 0 0 0 [.int (nI i), .int (nI s)] h (some (.int (nI (i * 1024 + s)))) h := by
  refine cm_ofQ rfl (Nat.le_of_ble_eq_true rfl) [(0, .int (nI i)), (1, .int (nI s))] rfl (fun QF hQF => ?_)
  refine aw_iload_n 0 dX9_at_0 rfl rfl ?_
  refine aw_bipush (10) dX9_at_1 (by decide) ?_
  refine aw_ishl dX9_at_3 ?_
  refine aw_toe (nI (i * 1024)) (nv_shl10 rfl bi) ?_
  refine aw_iload_n 1 dX9_at_4 rfl rfl ?_
  refine aw_iadd dX9_at_5 ?_
  refine aw_toe (nI ((i * 1024) + s)) (nv_add (rfl) (rfl)) ?_
  subst hQF
  exact aw_iret rfl dX9_at_6 (by decide) (by decide) ⟨by (first | rfl | simp_all), rfl⟩
set_option maxHeartbeats 4000000 in
theorem bX9_measure {l : Launch} {G : xG} {h : List va_E} {sp fa nb ns nm nv sh : Nat} {ho ow sl : Int32} {m ye b1 b2 : Nat → Nat} {W Z Ro Co : Nat → Int32} {fi : Nat → Nat} {lk : Nat → Int32} {a b : Nat} (h88 : h[88]? = some (oB 9 (lM G (nI sp) (nI fa) (nI nb) (nI ns) (nI nm) ho ow sl (nI nv) (nI sh)))) (h90 : h[90]? = some (aI 20 (nA m))) (h91 : h[91]? = some (aI 4 (nA ye))) (h93 : h[93]? = some (aI 40 W)) (h94 : h[94]? = some (aI 40 Z)) (h95 : h[95]? = some (aI 40 Ro)) (h96 : h[96]? = some (aI 40 Co)) (h97 : h[97]? = some (aI 30 (nA b1))) (h98 : h[98]? = some (aI 30 (nA b2))) (h92 : h[92]? = some (aI 4 (nA fi))) (h99 : h[99]? = some (aI 100 lk)) (hm : ∀ j, j < 20 → m j ≤ j) (hye : ∀ j, j < 4 → ye j < 1901) (hnb : nb ≤ 30) (bb1 : ∀ j, j < 30 → b1 j < 40) (bb2 : ∀ j, j < 30 → b2 j < 40) (hsp : sp ≤ 50) (hfd : fa ≤ 9) (hfi : ∀ j, j < 4 → fi j < 11) (ba : a < 4) (bb : b < 4) : CE l G yX9_measure cX9_measure 5 none 3 0 0 [.ref (G.1 + 88), .int (nI a), .int (nI b)] h none (fun h1 => ∃ lk1 : Nat → Int32, h1[99]? = some (aI 100 lk1) ∧ rng 99 99 h h1) := by
  refine cm_ofQ rfl (Nat.le_of_ble_eq_true rfl) [(0, .ref (G.1 + 88)), (1, .int (nI a)), (2, .int (nI b))] rfl (fun QF hQF => ?_)
  have fa0 := hfi a ba
  have fb0 := hfi b bb
  refine aw_iconst (0) dX9_measure_0 (by decide) ?_
  refine aw_istore_n [(3, .int 0), (0, .ref (G.1 + 88)), (1, .int (nI a)), (2, .int (nI b))] dX9_measure_1 rfl (by decide) rfl ?_
  refine aw_lv [(3, .int 0), (2, .int (nI b)), (1, .int (nI a)), (0, .ref (G.1 + 88))] [0, 3, 2, 1] rfl ?_
  suffices L1714 : ∀ (mm : Nat) (i : Nat) (lk1 : Nat → Int32) (h1701 : List va_E), fi a - i < mm → (i ≤ fi a) → h1701[88]? = some (oB 9 (lM G (nI sp) (nI fa) (nI nb) (nI ns) (nI nm) ho ow sl (nI nv) (nI sh))) → h1701[90]? = some (aI 20 (nA m)) → h1701[91]? = some (aI 4 (nA ye)) → h1701[93]? = some (aI 40 W) → h1701[94]? = some (aI 40 Z) → h1701[95]? = some (aI 40 Ro) → h1701[96]? = some (aI 40 Co) → h1701[97]? = some (aI 30 (nA b1)) → h1701[98]? = some (aI 30 (nA b2)) → h1701[92]? = some (aI 4 (nA fi)) → h1701[99]? = some (aI 100 lk1) → rng 99 99 h h1701 → AW l G yX9_measure cX9_measure 5 none (xR 3 0 0) (fun _ _ => True) QF 0 0 2 [(3, .int (nI i)), (2, .int (nI b)), (1, .int (nI a)), (0, .ref (G.1 + 88))] [] h1701 from L1714 (fi a - 0 + 1) 0 lk _ (Nat.lt_succ_self _) (Nat.zero_le _) h88 h90 h91 h93 h94 h95 h96 h97 h98 h92 h99 (rng_rf 99 99 h)
  intro mm
  induction mm with
  | zero =>
    intro i lk1 h1701 hmm hi f1702 f1703 f1704 f1705 f1706 f1707 f1708 f1709 f1710 f1711 f1712 k1713
    exact absurd hmm (Nat.not_lt_zero _)
  | succ mm ih1714 =>
    intro i lk1 h1701 hmm hi f1702 f1703 f1704 f1705 f1706 f1707 f1708 f1709 f1710 f1711 f1712 k1713
    refine aw_iload_n 0 dX9_measure_2 rfl rfl ?_
    refine aw_aload_n 3 dX9_measure_3 rfl rfl ?_
    refine aw_get fX9_19 dX9_measure_4 f1702 rfl ?_
    refine aw_iload_n 2 dX9_measure_7 rfl rfl ?_
    refine aw_iald a (rfl) (by omega) (by decide) dX9_measure_8 f1711 ?_
    refine aw_toe (nI (fi a)) (rfl) ?_
    refine aw_icmp_ge 59 dX9_measure_9 (by decide) (fun c9 => ?_) (fun c9 => ?_)
    · have d9 := (nv_le (a := fi a) (b := i) (rfl) (rfl) (by omega) (by omega)).mp c9
      subst hQF
      exact aw_vret rfl dX9_measure_59 (by decide) (by decide) ⟨rfl, _, f1712, k1713⟩
    · have d9 := mt (nv_le (a := fi a) (b := i) (rfl) (rfl) (by omega) (by omega)).mpr c9
      refine aw_iconst (0) dX9_measure_12 (by decide) ?_
      refine aw_istore [(4, .int 0), (3, .int (nI i)), (2, .int (nI b)), (1, .int (nI a)), (0, .ref (G.1 + 88))] dX9_measure_13 (by decide) rfl ?_
      refine aw_lv [(4, .int 0), (3, .int (nI i)), (2, .int (nI b)), (1, .int (nI a)), (0, .ref (G.1 + 88))] [0, 1, 2, 3, 4] rfl ?_
      suffices L1728 : ∀ (mm : Nat) (k : Nat) (lk2 : Nat → Int32) (h1715 : List va_E), fi b - k < mm → (k ≤ fi b) → h1715[88]? = some (oB 9 (lM G (nI sp) (nI fa) (nI nb) (nI ns) (nI nm) ho ow sl (nI nv) (nI sh))) → h1715[90]? = some (aI 20 (nA m)) → h1715[91]? = some (aI 4 (nA ye)) → h1715[93]? = some (aI 40 W) → h1715[94]? = some (aI 40 Z) → h1715[95]? = some (aI 40 Ro) → h1715[96]? = some (aI 40 Co) → h1715[97]? = some (aI 30 (nA b1)) → h1715[98]? = some (aI 30 (nA b2)) → h1715[92]? = some (aI 4 (nA fi)) → h1715[99]? = some (aI 100 lk2) → rng 99 99 h h1715 → AW l G yX9_measure cX9_measure 5 none (xR 3 0 0) (fun _ _ => True) QF 0 0 15 [(4, .int (nI k)), (3, .int (nI i)), (2, .int (nI b)), (1, .int (nI a)), (0, .ref (G.1 + 88))] [] h1715 from L1728 (fi b - 0 + 1) 0 lk1 _ (Nat.lt_succ_self _) (Nat.zero_le _) f1702 f1703 f1704 f1705 f1706 f1707 f1708 f1709 f1710 f1711 f1712 (k1713)
      intro mm
      induction mm with
      | zero =>
        intro k lk2 h1715 hmm hk f1716 f1717 f1718 f1719 f1720 f1721 f1722 f1723 f1724 f1725 f1726 k1727
        exact absurd hmm (Nat.not_lt_zero _)
      | succ mm ih1728 =>
        intro k lk2 h1715 hmm hk f1716 f1717 f1718 f1719 f1720 f1721 f1722 f1723 f1724 f1725 f1726 k1727
        refine aw_iload 0 dX9_measure_15 rfl ?_
        refine aw_aload_n 4 dX9_measure_17 rfl rfl ?_
        refine aw_get fX9_19 dX9_measure_18 f1716 rfl ?_
        refine aw_iload_n 2 dX9_measure_21 rfl rfl ?_
        refine aw_iald b (rfl) (by omega) (by decide) dX9_measure_22 f1725 ?_
        refine aw_toe (nI (fi b)) (rfl) ?_
        refine aw_icmp_ge 53 dX9_measure_23 (by decide) (fun c23 => ?_) (fun c23 => ?_)
        · have d23 := (nv_le (a := fi b) (b := k) (rfl) (rfl) (by omega) (by omega)).mp c23
          refine aw_iinc (j := 1) (nI (i + 1)) [(3, .int (nI (i + 1))), (4, .int (nI k)), (2, .int (nI b)), (1, .int (nI a)), (0, .ref (G.1 + 88))] dX9_measure_53 rfl (nv_inc (rfl)) (by decide) rfl ?_
          refine aw_goto 2 dX9_measure_56 (by decide) ?_
          refine aw_lv [(3, .int (nI (i + 1))), (2, .int (nI b)), (1, .int (nI a)), (0, .ref (G.1 + 88))] [0, 2, 3, 4] rfl ?_
          exact ih1714 (i + 1) lk2 _ (by omega) (by omega) f1716 f1717 f1718 f1719 f1720 f1721 f1722 f1723 f1724 f1725 f1726 (k1727)
        · have d23 := mt (nv_le (a := fi b) (b := k) (rfl) (rfl) (by omega) (by omega)).mpr c23
          refine aw_aload_n 4 dX9_measure_26 rfl rfl ?_
          refine aw_get fX9_47 dX9_measure_27 f1716 rfl ?_
          refine aw_bipush (10) dX9_measure_30 (by decide) ?_
          refine aw_iload_n 1 dX9_measure_32 rfl rfl ?_
          refine aw_imul dX9_measure_33 ?_
          refine aw_toe (nI (10 * i)) (nv_mul (rfl) (rfl)) ?_
          refine aw_iload 0 dX9_measure_34 rfl ?_
          refine aw_iadd dX9_measure_36 ?_
          refine aw_toe (nI ((10 * i) + k)) (nv_add (rfl) (rfl)) ?_
          refine aw_aload_n 4 dX9_measure_37 rfl rfl ?_
          refine aw_iload_n 3 dX9_measure_38 rfl rfl ?_
          refine aw_iload_n 1 dX9_measure_39 rfl rfl ?_
          refine aw_iload_n 2 dX9_measure_40 rfl rfl ?_
          refine aw_iload 0 dX9_measure_41 rfl ?_
          refine aw_uV [.int (nI a), .int (nI i), .int (nI b), .int (nI k)] [.int (nI ((10 * i) + k)), .ref (G.1 + 99)] lX9_166 vX9_likeOf mX9_likeOf dX9_measure_43 (bX9_likeOf (sp := sp) (fa := fa) (nb := nb) (ns := ns) (nm := nm) (nv := nv) (sh := sh) (ho := ho) (ow := ow) (sl := sl) (m := m) (ye := ye) (b1 := b1) (b2 := b2) (W := W) (Z := Z) (Ro := Ro) (Co := Co) (a := a) (i := i) (b := b) (k := k) f1716 f1717 f1718 f1719 f1720 f1721 f1722 f1723 f1724 hm hye (by omega) bb1 bb2 (by omega) (by omega) (by omega) (by omega) (by omega) (by omega)) f1716 rfl rfl rfl (Nat.le_of_ble_eq_true rfl) (by decide) (by decide) rfl (fun r1730 h1731 q1729 => ?_)
          obtain ⟨e1733, u1732⟩ := q1729
          rw [e1733]
          refine aw_iast ((10 * i) + k) (rfl) (by omega) (by decide) dX9_measure_46 f1726 ?_
          refine aw_iinc (j := 0) (nI (k + 1)) [(4, .int (nI (k + 1))), (3, .int (nI i)), (2, .int (nI b)), (1, .int (nI a)), (0, .ref (G.1 + 88))] dX9_measure_47 rfl (nv_inc (rfl)) (by decide) rfl ?_
          refine aw_goto 15 dX9_measure_50 (by decide) ?_
          refine aw_lv [(4, .int (nI (k + 1))), (3, .int (nI i)), (2, .int (nI b)), (1, .int (nI a)), (0, .ref (G.1 + 88))] [0, 1, 2, 3, 4] rfl ?_
          exact ih1728 (k + 1) (upd lk2 ((10 * i) + k) r1730) _ (by omega) (by omega) (gn (by decide) (f1716)) (gn (by decide) (f1717)) (gn (by decide) (f1718)) (gn (by decide) (f1719)) (gn (by decide) (f1720)) (gn (by decide) (f1721)) (gn (by decide) (f1722)) (gn (by decide) (f1723)) (gn (by decide) (f1724)) (gn (by decide) (f1725)) (gs f1726) (rng_set (k1727) (by decide) (by decide))
