set_option maxHeartbeats 4000000 in
theorem bX9_at {l : Launch} {G : xG} {h : List va_E} {i s : Nat}  (bi : i < 2048) : CD l G yX9_at cX9_at 2 (some .int) 0 0 0 [.int (nI i), .int (nI s)] h (some (.int (nI (i * 1024 + s)))) h := by
  refine cm_ofQ rfl (Nat.le_of_ble_eq_true rfl) [(0, .int (nI i)), (1, .int (nI s))] rfl (fun QF hQF => ?_)
  refine aw_iload_n 0 dX9_at_0 rfl rfl ?_
  refine aw_bipush (10) dX9_at_1 (by decide) ?_
  refine aw_ishl dX9_at_3 ?_
  refine aw_toe (nI (i * 1024)) (nv_shl10 rfl bi) ?_
  refine aw_iload_n 1 dX9_at_4 rfl rfl ?_
  refine aw_iadd dX9_at_5 ?_
  refine aw_toe (nI ((i * 1024) + s)) (nv_add (rfl) (rfl)) ?_
  subst hQF
  exact aw_iret rfl dX9_at_6 (by decide) (by decide) ⟨by (first | rfl | simp_all), rfl⟩
set_option maxHeartbeats 4000000 in
theorem bX9_measure {l : Launch} {G : xG} {h : List va_E} {sp fa nb ns nm nv sh : Nat} {ho ow sl : Int32} {m ye b1 b2 : Nat → Nat} {W Z Ro Co : Nat → Int32} {fi : Nat → Nat} {lk : Nat → Int32} {a b : Nat} {lx : Nat → Nat → Nat} (h88 : h[88]? = some (oB 9 (lM G (nI sp) (nI fa) (nI nb) (nI ns) (nI nm) ho ow sl (nI nv) (nI sh)))) (h90 : h[90]? = some (aI 20 (nA m))) (h91 : h[91]? = some (aI 4 (nA ye))) (h93 : h[93]? = some (aI 40 W)) (h94 : h[94]? = some (aI 40 Z)) (h95 : h[95]? = some (aI 40 Ro)) (h96 : h[96]? = some (aI 40 Co)) (h97 : h[97]? = some (aI 30 (nA b1))) (h98 : h[98]? = some (aI 30 (nA b2))) (h92 : h[92]? = some (aI 4 (nA fi))) (h99 : h[99]? = some (aI 100 lk)) (hm : ∀ j, j < 20 → m j ≤ j) (hye : ∀ j, j < 4 → ye j < 1901) (hnb : nb ≤ 30) (bb1 : ∀ j, j < 30 → b1 j < 40) (bb2 : ∀ j, j < 30 → b2 j < 40) (hsp : sp ≤ 50) (hfd : fa ≤ 9) (hfi : ∀ j, j < 4 → fi j < 11) (ba : a < 4) (bb : b < 4) (hlx : ∀ i, i < fi a → ∀ k, k < fi b → (lkS ye (fun j => snF (root m) (W j) 20) Z Ro Co (brF b1 b2 (a * 10 + i) (b * 10 + k) nb = true) sp fa a i b k) = nI (lx i k)) : CE l G yX9_measure cX9_measure 5 none 3 0 0 [.ref (G.1 + 88), .int (nI a), .int (nI b)] h none (fun h1 => ∃ lk1 : Nat → Int32, h1[99]? = some (aI 100 lk1) ∧ rng 99 99 h h1 ∧ jL lx (fi a) (fi b) lk1) := by
  refine cm_ofQ rfl (Nat.le_of_ble_eq_true rfl) [(0, .ref (G.1 + 88)), (1, .int (nI a)), (2, .int (nI b))] rfl (fun QF hQF => ?_)
  have fa0 := hfi a ba
  have fb0 := hfi b bb
  refine aw_iconst (0) dX9_measure_0 (by decide) ?_
  refine aw_istore_n [(3, .int 0), (0, .ref (G.1 + 88)), (1, .int (nI a)), (2, .int (nI b))] dX9_measure_1 rfl (by decide) rfl ?_
  refine aw_lv [(3, .int 0), (2, .int (nI b)), (1, .int (nI a)), (0, .ref (G.1 + 88))] [0, 3, 2, 1] rfl ?_
  suffices L1708 : ∀ (mm : Nat) (i : Nat) (lk1 : Nat → Int32) (h1695 : List va_E), fi a - i < mm → (i ≤ fi a) → (∀ j, j < i → ∀ q, q < fi b → lk1 (j * 10 + q) = nI (lx j q)) → h1695[88]? = some (oB 9 (lM G (nI sp) (nI fa) (nI nb) (nI ns) (nI nm) ho ow sl (nI nv) (nI sh))) → h1695[90]? = some (aI 20 (nA m)) → h1695[91]? = some (aI 4 (nA ye)) → h1695[93]? = some (aI 40 W) → h1695[94]? = some (aI 40 Z) → h1695[95]? = some (aI 40 Ro) → h1695[96]? = some (aI 40 Co) → h1695[97]? = some (aI 30 (nA b1)) → h1695[98]? = some (aI 30 (nA b2)) → h1695[92]? = some (aI 4 (nA fi)) → h1695[99]? = some (aI 100 lk1) → rng 99 99 h h1695 → AW l G yX9_measure cX9_measure 5 none (xR 3 0 0) (fun _ _ => True) QF 0 0 2 [(3, .int (nI i)), (2, .int (nI b)), (1, .int (nI a)), (0, .ref (G.1 + 88))] [] h1695 from L1708 (fi a - 0 + 1) 0 lk _ (Nat.lt_succ_self _) (Nat.zero_le _) (fun q h8 => absurd h8 (Nat.not_lt_zero _)) h88 h90 h91 h93 h94 h95 h96 h97 h98 h92 h99 (rng_rf 99 99 h)
  intro mm
  induction mm with
  | zero =>
    intro i lk1 h1695 hmm hi hl1 f1696 f1697 f1698 f1699 f1700 f1701 f1702 f1703 f1704 f1705 f1706 k1707
    exact absurd hmm (Nat.not_lt_zero _)
  | succ mm ih1708 =>
    intro i lk1 h1695 hmm hi hl1 f1696 f1697 f1698 f1699 f1700 f1701 f1702 f1703 f1704 f1705 f1706 k1707
    refine aw_iload_n 0 dX9_measure_2 rfl rfl ?_
    refine aw_aload_n 3 dX9_measure_3 rfl rfl ?_
    refine aw_get fX9_19 dX9_measure_4 f1696 rfl ?_
    refine aw_iload_n 2 dX9_measure_7 rfl rfl ?_
    refine aw_iald a (rfl) (by omega) (by decide) dX9_measure_8 f1705 ?_
    refine aw_toe (nI (fi a)) (rfl) ?_
    refine aw_icmp_ge 59 dX9_measure_9 (by decide) (fun c9 => ?_) (fun c9 => ?_)
    · have d9 := (nv_le (a := fi a) (b := i) (rfl) (rfl) (by omega) (by omega)).mp c9
      subst hQF
      exact aw_vret rfl dX9_measure_59 (by decide) (by decide) ⟨rfl, _, f1706, k1707, fun j hj => hl1 j (by omega)⟩
    · have d9 := mt (nv_le (a := fi a) (b := i) (rfl) (rfl) (by omega) (by omega)).mpr c9
      refine aw_iconst (0) dX9_measure_12 (by decide) ?_
      refine aw_istore [(4, .int 0), (3, .int (nI i)), (2, .int (nI b)), (1, .int (nI a)), (0, .ref (G.1 + 88))] dX9_measure_13 (by decide) rfl ?_
      refine aw_lv [(4, .int 0), (3, .int (nI i)), (2, .int (nI b)), (1, .int (nI a)), (0, .ref (G.1 + 88))] [0, 1, 2, 3, 4] rfl ?_
      suffices L1722 : ∀ (mm : Nat) (k : Nat) (lk2 : Nat → Int32) (h1709 : List va_E), fi b - k < mm → (k ≤ fi b) → (∀ j, j < i → ∀ q, q < fi b → lk2 (j * 10 + q) = nI (lx j q)) → (∀ q, q < k → lk2 (i * 10 + q) = nI (lx i q)) → h1709[88]? = some (oB 9 (lM G (nI sp) (nI fa) (nI nb) (nI ns) (nI nm) ho ow sl (nI nv) (nI sh))) → h1709[90]? = some (aI 20 (nA m)) → h1709[91]? = some (aI 4 (nA ye)) → h1709[93]? = some (aI 40 W) → h1709[94]? = some (aI 40 Z) → h1709[95]? = some (aI 40 Ro) → h1709[96]? = some (aI 40 Co) → h1709[97]? = some (aI 30 (nA b1)) → h1709[98]? = some (aI 30 (nA b2)) → h1709[92]? = some (aI 4 (nA fi)) → h1709[99]? = some (aI 100 lk2) → rng 99 99 h h1709 → AW l G yX9_measure cX9_measure 5 none (xR 3 0 0) (fun _ _ => True) QF 0 0 15 [(4, .int (nI k)), (3, .int (nI i)), (2, .int (nI b)), (1, .int (nI a)), (0, .ref (G.1 + 88))] [] h1709 from L1722 (fi b - 0 + 1) 0 lk1 _ (Nat.lt_succ_self _) (Nat.zero_le _) (hl1) (fun q h8 => absurd h8 (Nat.not_lt_zero _)) f1696 f1697 f1698 f1699 f1700 f1701 f1702 f1703 f1704 f1705 f1706 (k1707)
      intro mm
      induction mm with
      | zero =>
        intro k lk2 h1709 hmm hk hl2 hl3 f1710 f1711 f1712 f1713 f1714 f1715 f1716 f1717 f1718 f1719 f1720 k1721
        exact absurd hmm (Nat.not_lt_zero _)
      | succ mm ih1722 =>
        intro k lk2 h1709 hmm hk hl2 hl3 f1710 f1711 f1712 f1713 f1714 f1715 f1716 f1717 f1718 f1719 f1720 k1721
        refine aw_iload 0 dX9_measure_15 rfl ?_
        refine aw_aload_n 4 dX9_measure_17 rfl rfl ?_
        refine aw_get fX9_19 dX9_measure_18 f1710 rfl ?_
        refine aw_iload_n 2 dX9_measure_21 rfl rfl ?_
        refine aw_iald b (rfl) (by omega) (by decide) dX9_measure_22 f1719 ?_
        refine aw_toe (nI (fi b)) (rfl) ?_
        refine aw_icmp_ge 53 dX9_measure_23 (by decide) (fun c23 => ?_) (fun c23 => ?_)
        · have d23 := (nv_le (a := fi b) (b := k) (rfl) (rfl) (by omega) (by omega)).mp c23
          refine aw_iinc (j := 1) (nI (i + 1)) [(3, .int (nI (i + 1))), (4, .int (nI k)), (2, .int (nI b)), (1, .int (nI a)), (0, .ref (G.1 + 88))] dX9_measure_53 rfl (nv_inc (rfl)) (by decide) rfl ?_
          refine aw_goto 2 dX9_measure_56 (by decide) ?_
          refine aw_lv [(3, .int (nI (i + 1))), (2, .int (nI b)), (1, .int (nI a)), (0, .ref (G.1 + 88))] [0, 2, 3, 4] rfl ?_
          exact ih1708 (i + 1) lk2 _ (by omega) (by omega) (rl_3 hl2 hl3 (by omega)) f1710 f1711 f1712 f1713 f1714 f1715 f1716 f1717 f1718 f1719 f1720 (k1721)
        · have d23 := mt (nv_le (a := fi b) (b := k) (rfl) (rfl) (by omega) (by omega)).mpr c23
          refine aw_aload_n 4 dX9_measure_26 rfl rfl ?_
          refine aw_get fX9_47 dX9_measure_27 f1710 rfl ?_
          refine aw_bipush (10) dX9_measure_30 (by decide) ?_
          refine aw_iload_n 1 dX9_measure_32 rfl rfl ?_
          refine aw_imul dX9_measure_33 ?_
          refine aw_toe (nI (i * 10)) (by rw [Nat.mul_comm i 10]; exact nv_mul (rfl) (rfl)) ?_
          refine aw_iload 0 dX9_measure_34 rfl ?_
          refine aw_iadd dX9_measure_36 ?_
          refine aw_toe (nI ((i * 10) + k)) (nv_add (rfl) (rfl)) ?_
          refine aw_aload_n 4 dX9_measure_37 rfl rfl ?_
          refine aw_iload_n 3 dX9_measure_38 rfl rfl ?_
          refine aw_iload_n 1 dX9_measure_39 rfl rfl ?_
          refine aw_iload_n 2 dX9_measure_40 rfl rfl ?_
          refine aw_iload 0 dX9_measure_41 rfl ?_
          refine aw_dV [.int (nI a), .int (nI i), .int (nI b), .int (nI k)] [.int (nI ((i * 10) + k)), .ref (G.1 + 99)] lX9_166 vX9_likeOf mX9_likeOf dX9_measure_43 (bX9_likeOf (sp := sp) (fa := fa) (nb := nb) (ns := ns) (nm := nm) (nv := nv) (sh := sh) (ho := ho) (ow := ow) (sl := sl) (m := m) (ye := ye) (b1 := b1) (b2 := b2) (W := W) (Z := Z) (Ro := Ro) (Co := Co) (a := a) (i := i) (b := b) (k := k) f1710 f1711 f1712 f1713 f1714 f1715 f1716 f1717 f1718 hm hye (by omega) bb1 bb2 (by omega) (by omega) (by omega) (by omega) (by omega) (by omega)) f1710 rfl rfl rfl (Nat.le_of_ble_eq_true rfl) (by decide) (by decide) rfl ?_
          refine aw_toe (nI (lx i k)) (hlx i (by omega) k (by omega)) ?_
          refine aw_iast ((i * 10) + k) (rfl) (by omega) (by decide) dX9_measure_46 f1720 ?_
          refine aw_iinc (j := 0) (nI (k + 1)) [(4, .int (nI (k + 1))), (3, .int (nI i)), (2, .int (nI b)), (1, .int (nI a)), (0, .ref (G.1 + 88))] dX9_measure_47 rfl (nv_inc (rfl)) (by decide) rfl ?_
          refine aw_goto 15 dX9_measure_50 (by decide) ?_
          refine aw_lv [(4, .int (nI (k + 1))), (3, .int (nI i)), (2, .int (nI b)), (1, .int (nI a)), (0, .ref (G.1 + 88))] [0, 1, 2, 3, 4] rfl ?_
          exact ih1722 (k + 1) (upd lk2 ((i * 10) + k) (nI (lx i k))) _ (by omega) (by omega) (rl_1 hl2 (by omega) (by omega)) (rl_2 hl3 rfl) (gn (by decide) (f1710)) (gn (by decide) (f1711)) (gn (by decide) (f1712)) (gn (by decide) (f1713)) (gn (by decide) (f1714)) (gn (by decide) (f1715)) (gn (by decide) (f1716)) (gn (by decide) (f1717)) (gn (by decide) (f1718)) (gn (by decide) (f1719)) (gs f1720) (rng_set (k1721) (by decide) (by decide))
