set_option maxHeartbeats 4000000 in
theorem aX6_addSaying {l : Launch} {G : xG} {h : List va_E} {so x y tr : Nat → Nat} {n s0 x0 y0 v0 : Nat} (h79 : h[79]? = some (oB 6 (lS G (nI n)))) (h80 : h[80]? = some (aI 40 (nA so))) (h81 : h[81]? = some (aI 40 (nA x))) (h82 : h[82]? = some (aI 40 (nA y))) (h83 : h[83]? = some (aI 40 (nA tr))) (hn : n < 40) : CE l G yX6_addSaying cX6_addSaying 6 (some .int) 0 0 0 [.ref (G.1 + 79), .int (nI s0), .int (nI x0), .int (nI y0), .int (nI v0)] h (some (.int (nI n))) (fun h1 => h1[79]? = some (oB 6 (lS G (nI (n + 1)))) ∧ h1[80]? = some (aI 40 (nA (un so n s0))) ∧ h1[81]? = some (aI 40 (nA (un x n x0))) ∧ h1[82]? = some (aI 40 (nA (un y n y0))) ∧ h1[83]? = some (aI 40 (nA (un tr n v0))) ∧ rng 79 83 h h1) := by
  refine cm_ofQ rfl (Nat.le_of_ble_eq_true rfl) [(0, .ref (G.1 + 79)), (1, .int (nI s0)), (2, .int (nI x0)), (3, .int (nI y0)), (4, .int (nI v0))] rfl (fun QF hQF => ?_)
  refine aw_aload_n 0 dX6_addSaying_0 rfl rfl ?_
  refine aw_get fX6_24 dX6_addSaying_1 h79 rfl ?_
  refine aw_istore [(5, .int (nI n)), (0, .ref (G.1 + 79)), (1, .int (nI s0)), (2, .int (nI x0)), (3, .int (nI y0)), (4, .int (nI v0))] dX6_addSaying_4 (by decide) rfl ?_
  refine aw_aload_n 1 dX6_addSaying_6 rfl rfl ?_
  refine aw_get fX6_9 dX6_addSaying_7 h79 rfl ?_
  refine aw_iload 0 dX6_addSaying_10 rfl ?_
  refine aw_iload_n 2 dX6_addSaying_12 rfl rfl ?_
  refine aw_iast n (rfl) (by omega) (by decide) dX6_addSaying_13 h80 ?_
  rw [nA_u (f := so) (i := n) (x := (nI s0)) (v := s0) (rfl)]
  refine aw_aload_n 1 dX6_addSaying_14 rfl rfl ?_
  refine aw_get fX6_15 dX6_addSaying_15 (gn (by decide) (h79)) rfl ?_
  refine aw_iload 0 dX6_addSaying_18 rfl ?_
  refine aw_iload_n 3 dX6_addSaying_20 rfl rfl ?_
  refine aw_iast n (rfl) (by omega) (by decide) dX6_addSaying_21 (gn (by decide) (h81)) ?_
  rw [nA_u (f := x) (i := n) (x := (nI x0)) (v := x0) (rfl)]
  refine aw_aload_n 1 dX6_addSaying_22 rfl rfl ?_
  refine aw_get fX6_18 dX6_addSaying_23 (gn (by decide) (gn (by decide) (h79))) rfl ?_
  refine aw_iload 0 dX6_addSaying_26 rfl ?_
  refine aw_iload_n 4 dX6_addSaying_28 rfl rfl ?_
  refine aw_iast n (rfl) (by omega) (by decide) dX6_addSaying_29 (gn (by decide) (gn (by decide) (h82))) ?_
  rw [nA_u (f := y) (i := n) (x := (nI y0)) (v := y0) (rfl)]
  refine aw_aload_n 1 dX6_addSaying_30 rfl rfl ?_
  refine aw_get fX6_21 dX6_addSaying_31 (gn (by decide) (gn (by decide) (gn (by decide) (h79)))) rfl ?_
  refine aw_iload 0 dX6_addSaying_34 rfl ?_
  refine aw_iload 5 dX6_addSaying_36 rfl ?_
  refine aw_iast n (rfl) (by omega) (by decide) dX6_addSaying_38 (gn (by decide) (gn (by decide) (gn (by decide) (h83)))) ?_
  rw [nA_u (f := tr) (i := n) (x := (nI v0)) (v := v0) (rfl)]
  refine aw_aload_n 1 dX6_addSaying_39 rfl rfl ?_
  refine aw_iload 0 dX6_addSaying_40 rfl ?_
  refine aw_iconst (1) dX6_addSaying_42 (by decide) ?_
  refine aw_iadd dX6_addSaying_43 ?_
  refine aw_toe (nI (n + 1)) (nv_add (rfl) (rfl)) ?_
  refine aw_putQ fX6_24 dX6_addSaying_44 (lS G (nI (n + 1))) (gn (by decide) (gn (by decide) (gn (by decide) (gn (by decide) (h79))))) rfl rfl rfl (Nat.le_of_ble_eq_true rfl) rfl ?_
  refine aw_iload 0 dX6_addSaying_47 rfl ?_
  subst hQF
  exact aw_iret rfl dX6_addSaying_49 (by decide) (by decide) ⟨rfl, (gs (gn (by decide) (gn (by decide) (gn (by decide) (gn (by decide) (h79)))))), (gn (by decide) (gn (by decide) (gn (by decide) (gn (by decide) (gs h80))))), (gn (by decide) (gn (by decide) (gn (by decide) (gs (gn (by decide) (h81)))))), (gn (by decide) (gn (by decide) (gs (gn (by decide) (gn (by decide) (h82)))))), (gn (by decide) (gs (gn (by decide) (gn (by decide) (gn (by decide) (h83)))))), rng_set (rng_set (rng_set (rng_set (rng_set (rng_rf 79 83 h) (by decide) (by decide)) (by decide) (by decide)) (by decide) (by decide)) (by decide) (by decide)) (by decide) (by decide)⟩
set_option maxHeartbeats 4000000 in
theorem aX0_tellKind {l : Launch} {G : xG} {h : List va_E} {kd fo : Nat → Nat} {cn : Int32} {p v : Nat} (h84 : h[84]? = some (oB 0 (lB G cn))) (h85 : h[85]? = some (aI 10 (nA kd))) (h86 : h[86]? = some (aI 6 (nA fo))) (bp : p < 10) : CE l G yX0_tellKind cX0_tellKind 4 (some .int) 0 0 0 [.ref (G.1 + 84), .int (nI p), .int (nI v)] h (some (.int (nI (kd p)))) (fun h1 => h1[84]? = some (oB 0 (lB G cn)) ∧ h1[85]? = some (aI 10 (nA (un kd p v))) ∧ h1[86]? = some (aI 6 (nA fo)) ∧ rng 84 86 h h1) := by
  refine cm_ofQ rfl (Nat.le_of_ble_eq_true rfl) [(0, .ref (G.1 + 84)), (1, .int (nI p)), (2, .int (nI v))] rfl (fun QF hQF => ?_)
  refine aw_aload_n 0 dX0_tellKind_0 rfl rfl ?_
  refine aw_get fX0_9 dX0_tellKind_1 h84 rfl ?_
  refine aw_iload_n 1 dX0_tellKind_4 rfl rfl ?_
  refine aw_iald p (rfl) (by omega) (by decide) dX0_tellKind_5 h85 ?_
  refine aw_toe (nI (kd p)) (rfl) ?_
  refine aw_istore_n [(3, .int (nI (kd p))), (0, .ref (G.1 + 84)), (1, .int (nI p)), (2, .int (nI v))] dX0_tellKind_6 rfl (by decide) rfl ?_
  refine aw_aload_n 1 dX0_tellKind_7 rfl rfl ?_
  refine aw_get fX0_9 dX0_tellKind_8 h84 rfl ?_
  refine aw_iload_n 2 dX0_tellKind_11 rfl rfl ?_
  refine aw_iload_n 3 dX0_tellKind_12 rfl rfl ?_
  refine aw_iast p (rfl) (by omega) (by decide) dX0_tellKind_13 h85 ?_
  rw [nA_u (f := kd) (i := p) (x := (nI v)) (v := v) (rfl)]
  refine aw_iload_n 0 dX0_tellKind_14 rfl rfl ?_
  subst hQF
  exact aw_iret rfl dX0_tellKind_15 (by decide) (by decide) ⟨rfl, (gn (by decide) (h84)), (gs h85), (gn (by decide) (h86)), rng_set (rng_rf 84 86 h) (by decide) (by decide)⟩
set_option maxHeartbeats 4000000 in
theorem aX0_tellClash_s0 {l : Launch} {G : xG} {h : List va_E} {kd fo : Nat → Nat} {cn : Int32} {a b : Nat} (h84 : h[84]? = some (oB 0 (lB G cn))) (h85 : h[85]? = some (aI 10 (nA kd))) (h86 : h[86]? = some (aI 6 (nA fo))) (bkd : ∀ j, j < 10 → kd j < 6) (bfo : ∀ j, j < 6 → fo j < 64) (ba : a < 6) (bb : b < 6) (hw : (fo a).testBit b = false) : CD l G yX0_tellClash cX0_tellClash 5 (some .boolean) 0 0 0 [.ref (G.1 + 84), .int (nI a), .int (nI b), .int 0] h (some (.int 0)) h := by
  refine cm_ofQ rfl (Nat.le_of_ble_eq_true rfl) [(0, .ref (G.1 + 84)), (1, .int (nI a)), (2, .int (nI b)), (3, .int 0)] rfl (fun QF hQF => ?_)
  refine aw_aload_n 0 dX0_tellClash_0 rfl rfl ?_
  refine aw_get fX0_15 dX0_tellClash_1 h84 rfl ?_
  refine aw_iload_n 1 dX0_tellClash_4 rfl rfl ?_
  refine aw_iald a (rfl) (by omega) (by decide) dX0_tellClash_5 h86 ?_
  refine aw_toe (nI (fo a)) (rfl) ?_
  have b1 := bfo a (by omega)
  refine aw_iload_n 2 dX0_tellClash_6 rfl rfl ?_
  refine aw_ishr dX0_tellClash_7 ?_
  refine aw_iconst (1) dX0_tellClash_8 (by decide) ?_
  refine aw_iand dX0_tellClash_9 ?_
  refine aw_toe (if (fo a).testBit b = true then 1 else 0) (nv_bit (rfl) (rfl) (by omega) (by omega)) ?_
  refine aw_if_eq 17 dX0_tellClash_10 (by decide) (fun c10 => ?_) (fun c10 => absurd (by rw [hw]; decide) c10)
  refine aw_iconst (0) dX0_tellClash_17 (by decide) ?_
  refine aw_istore [(4, .int 0), (0, .ref (G.1 + 84)), (1, .int (nI a)), (2, .int (nI b)), (3, .int 0)] dX0_tellClash_18 (by decide) rfl ?_
  refine aw_iload 0 dX0_tellClash_20 rfl ?_
  refine aw_iload_n 4 dX0_tellClash_22 rfl rfl ?_
  refine aw_icmp_ne 28 dX0_tellClash_23 (by decide) (fun c23 => absurd (by decide) c23) (fun c23 => ?_)
  refine aw_iconst (0) dX0_tellClash_26 (by decide) ?_
  subst hQF
  exact aw_zret rfl rfl dX0_tellClash_27 (by decide) (by decide) ⟨rfl, rfl⟩
set_option maxHeartbeats 4000000 in
theorem aX0_tellClash_c0 {l : Launch} {G : xG} {h : List va_E} {kd fo : Nat → Nat} {cn : Int32} {a b : Nat} (h84 : h[84]? = some (oB 0 (lB G cn))) (h85 : h[85]? = some (aI 10 (nA kd))) (h86 : h[86]? = some (aI 6 (nA fo))) (bkd : ∀ j, j < 10 → kd j < 6) (bfo : ∀ j, j < 6 → fo j < 64) (ba : a < 6) (bb : b < 6) (hw : (fo a).testBit b = true) : CE l G yX0_tellClash cX0_tellClash 5 (some .boolean) 0 0 0 [.ref (G.1 + 84), .int (nI a), .int (nI b), .int 0] h (some (.int 1)) (fun h1 => h1[84]? = some (oB 0 (lB G (cn + (-1)))) ∧ h1[85]? = some (aI 10 (nA kd)) ∧ h1[86]? = some (aI 6 (nA (un (un fo a (fo a ^^^ 2 ^ b)) b (un fo a (fo a ^^^ 2 ^ b) b ^^^ 2 ^ a)))) ∧ rng 84 86 h h1) := by
  refine cm_ofQ rfl (Nat.le_of_ble_eq_true rfl) [(0, .ref (G.1 + 84)), (1, .int (nI a)), (2, .int (nI b)), (3, .int 0)] rfl (fun QF hQF => ?_)
  refine aw_aload_n 0 dX0_tellClash_0 rfl rfl ?_
  refine aw_get fX0_15 dX0_tellClash_1 h84 rfl ?_
  refine aw_iload_n 1 dX0_tellClash_4 rfl rfl ?_
  refine aw_iald a (rfl) (by omega) (by decide) dX0_tellClash_5 h86 ?_
  refine aw_toe (nI (fo a)) (rfl) ?_
  have b2 := bfo a (by omega)
  refine aw_iload_n 2 dX0_tellClash_6 rfl rfl ?_
  refine aw_ishr dX0_tellClash_7 ?_
  refine aw_iconst (1) dX0_tellClash_8 (by decide) ?_
  refine aw_iand dX0_tellClash_9 ?_
  refine aw_toe (if (fo a).testBit b = true then 1 else 0) (nv_bit (rfl) (rfl) (by omega) (by omega)) ?_
  refine aw_if_eq 17 dX0_tellClash_10 (by decide) (fun c10 => absurd c10 (by rw [hw]; decide)) (fun c10 => ?_)
  refine aw_iconst (1) dX0_tellClash_13 (by decide) ?_
  refine aw_goto 18 dX0_tellClash_14 (by decide) ?_
  refine aw_istore [(4, .int 1), (0, .ref (G.1 + 84)), (1, .int (nI a)), (2, .int (nI b)), (3, .int 0)] dX0_tellClash_18 (by decide) rfl ?_
  refine aw_iload 0 dX0_tellClash_20 rfl ?_
  refine aw_iload_n 4 dX0_tellClash_22 rfl rfl ?_
  refine aw_icmp_ne 28 dX0_tellClash_23 (by decide) (fun c23 => ?_) (fun c23 => absurd c23 (by decide))
  refine aw_aload_n 1 dX0_tellClash_28 rfl rfl ?_
  refine aw_get fX0_15 dX0_tellClash_29 h84 rfl ?_
  refine aw_iload_n 2 dX0_tellClash_32 rfl rfl ?_
  refine aw_dup2 dX0_tellClash_33 rfl rfl ?_
  refine aw_iald a (rfl) (by omega) (by decide) dX0_tellClash_34 h86 ?_
  refine aw_toe (nI (fo a)) (rfl) ?_
  have b3 := bfo a (by omega)
  refine aw_iconst (1) dX0_tellClash_35 (by decide) ?_
  refine aw_iload_n 3 dX0_tellClash_36 rfl rfl ?_
  refine aw_ishl dX0_tellClash_37 ?_
  refine aw_toe (nI (2 ^ b)) (nv_shl1 (rfl) (by omega)) ?_
  refine aw_ixor dX0_tellClash_38 ?_
  refine aw_toe (nI ((fo a) ^^^ (2 ^ b))) (nv_xor (rfl) (rfl)) ?_
  refine aw_iast a (rfl) (by omega) (by decide) dX0_tellClash_39 h86 ?_
  rw [nA_u (f := fo) (i := a) (x := (nI ((fo a) ^^^ (2 ^ b)))) (v := (fo a) ^^^ (2 ^ b)) (rfl)]
  refine aw_aload_n 1 dX0_tellClash_40 rfl rfl ?_
  refine aw_get fX0_15 dX0_tellClash_41 (gn (by decide) (h84)) rfl ?_
  refine aw_iload_n 3 dX0_tellClash_44 rfl rfl ?_
  refine aw_dup2 dX0_tellClash_45 rfl rfl ?_
  refine aw_iald b (rfl) (by omega) (by decide) dX0_tellClash_46 (gs h86) ?_
  refine aw_toe (nI ((un fo a ((fo a) ^^^ (2 ^ b))) b)) (rfl) ?_
  refine aw_iconst (1) dX0_tellClash_47 (by decide) ?_
  refine aw_iload_n 2 dX0_tellClash_48 rfl rfl ?_
  refine aw_ishl dX0_tellClash_49 ?_
  refine aw_toe (nI (2 ^ a)) (nv_shl1 (rfl) (by omega)) ?_
  refine aw_ixor dX0_tellClash_50 ?_
  refine aw_toe (nI (((un fo a ((fo a) ^^^ (2 ^ b))) b) ^^^ (2 ^ a))) (nv_xor (rfl) (rfl)) ?_
  refine aw_iast b (rfl) (by omega) (by decide) dX0_tellClash_51 (gs h86) ?_
  rw [nA_u (f := (un fo a ((fo a) ^^^ (2 ^ b)))) (i := b) (x := (nI (((un fo a ((fo a) ^^^ (2 ^ b))) b) ^^^ (2 ^ a)))) (v := ((un fo a ((fo a) ^^^ (2 ^ b))) b) ^^^ (2 ^ a)) (rfl)]
  refine aw_aload_n 1 dX0_tellClash_52 rfl rfl ?_
  refine aw_dup dX0_tellClash_53 rfl ?_
  refine aw_get fX0_18 dX0_tellClash_54 (gn (by decide) (gn (by decide) (h84))) rfl ?_
  refine aw_iload_n 4 dX0_tellClash_57 rfl rfl ?_
  refine aw_if_eq 65 dX0_tellClash_58 (by decide) (fun c58 => ?_) (fun c58 => absurd (by decide) c58)
  refine aw_iconst (-1) dX0_tellClash_65 (by decide) ?_
  refine aw_iadd dX0_tellClash_66 ?_
  refine aw_putQ fX0_18 dX0_tellClash_67 (lB G (cn + (-1))) (gn (by decide) (gn (by decide) (h84))) rfl rfl rfl (Nat.le_of_ble_eq_true rfl) rfl ?_
  refine aw_iconst (1) dX0_tellClash_70 (by decide) ?_
  subst hQF
  exact aw_zret rfl rfl dX0_tellClash_71 (by decide) (by decide) ⟨rfl, (gs (gn (by decide) (gn (by decide) (h84)))), (gn (by decide) (gn (by decide) (gn (by decide) (h85)))), (gn (by decide) (gs (gs h86))), rng_set (rng_set (rng_set (rng_rf 84 86 h) (by decide) (by decide)) (by decide) (by decide)) (by decide) (by decide)⟩
set_option maxHeartbeats 4000000 in
theorem aX0_tellClash_s1 {l : Launch} {G : xG} {h : List va_E} {kd fo : Nat → Nat} {cn : Int32} {a b : Nat} (h84 : h[84]? = some (oB 0 (lB G cn))) (h85 : h[85]? = some (aI 10 (nA kd))) (h86 : h[86]? = some (aI 6 (nA fo))) (bkd : ∀ j, j < 10 → kd j < 6) (bfo : ∀ j, j < 6 → fo j < 64) (ba : a < 6) (bb : b < 6) (hw : (fo a).testBit b = true) : CD l G yX0_tellClash cX0_tellClash 5 (some .boolean) 0 0 0 [.ref (G.1 + 84), .int (nI a), .int (nI b), .int 1] h (some (.int 0)) h := by
  refine cm_ofQ rfl (Nat.le_of_ble_eq_true rfl) [(0, .ref (G.1 + 84)), (1, .int (nI a)), (2, .int (nI b)), (3, .int 1)] rfl (fun QF hQF => ?_)
  refine aw_aload_n 0 dX0_tellClash_0 rfl rfl ?_
  refine aw_get fX0_15 dX0_tellClash_1 h84 rfl ?_
  refine aw_iload_n 1 dX0_tellClash_4 rfl rfl ?_
  refine aw_iald a (rfl) (by omega) (by decide) dX0_tellClash_5 h86 ?_
  refine aw_toe (nI (fo a)) (rfl) ?_
  have b4 := bfo a (by omega)
  refine aw_iload_n 2 dX0_tellClash_6 rfl rfl ?_
  refine aw_ishr dX0_tellClash_7 ?_
  refine aw_iconst (1) dX0_tellClash_8 (by decide) ?_
  refine aw_iand dX0_tellClash_9 ?_
  refine aw_toe (if (fo a).testBit b = true then 1 else 0) (nv_bit (rfl) (rfl) (by omega) (by omega)) ?_
  refine aw_if_eq 17 dX0_tellClash_10 (by decide) (fun c10 => absurd c10 (by rw [hw]; decide)) (fun c10 => ?_)
  refine aw_iconst (1) dX0_tellClash_13 (by decide) ?_
  refine aw_goto 18 dX0_tellClash_14 (by decide) ?_
  refine aw_istore [(4, .int 1), (0, .ref (G.1 + 84)), (1, .int (nI a)), (2, .int (nI b)), (3, .int 1)] dX0_tellClash_18 (by decide) rfl ?_
  refine aw_iload 0 dX0_tellClash_20 rfl ?_
  refine aw_iload_n 4 dX0_tellClash_22 rfl rfl ?_
  refine aw_icmp_ne 28 dX0_tellClash_23 (by decide) (fun c23 => absurd (by decide) c23) (fun c23 => ?_)
  refine aw_iconst (0) dX0_tellClash_26 (by decide) ?_
  subst hQF
  exact aw_zret rfl rfl dX0_tellClash_27 (by decide) (by decide) ⟨rfl, rfl⟩
set_option maxHeartbeats 4000000 in
theorem aX0_tellClash_c1 {l : Launch} {G : xG} {h : List va_E} {kd fo : Nat → Nat} {cn : Int32} {a b : Nat} (h84 : h[84]? = some (oB 0 (lB G cn))) (h85 : h[85]? = some (aI 10 (nA kd))) (h86 : h[86]? = some (aI 6 (nA fo))) (bkd : ∀ j, j < 10 → kd j < 6) (bfo : ∀ j, j < 6 → fo j < 64) (ba : a < 6) (bb : b < 6) (hw : (fo a).testBit b = false) : CE l G yX0_tellClash cX0_tellClash 5 (some .boolean) 0 0 0 [.ref (G.1 + 84), .int (nI a), .int (nI b), .int 1] h (some (.int 1)) (fun h1 => h1[84]? = some (oB 0 (lB G (cn + 1))) ∧ h1[85]? = some (aI 10 (nA kd)) ∧ h1[86]? = some (aI 6 (nA (un (un fo a (fo a ^^^ 2 ^ b)) b (un fo a (fo a ^^^ 2 ^ b) b ^^^ 2 ^ a)))) ∧ rng 84 86 h h1) := by
  refine cm_ofQ rfl (Nat.le_of_ble_eq_true rfl) [(0, .ref (G.1 + 84)), (1, .int (nI a)), (2, .int (nI b)), (3, .int 1)] rfl (fun QF hQF => ?_)
  refine aw_aload_n 0 dX0_tellClash_0 rfl rfl ?_
  refine aw_get fX0_15 dX0_tellClash_1 h84 rfl ?_
  refine aw_iload_n 1 dX0_tellClash_4 rfl rfl ?_
  refine aw_iald a (rfl) (by omega) (by decide) dX0_tellClash_5 h86 ?_
  refine aw_toe (nI (fo a)) (rfl) ?_
  have b5 := bfo a (by omega)
  refine aw_iload_n 2 dX0_tellClash_6 rfl rfl ?_
  refine aw_ishr dX0_tellClash_7 ?_
  refine aw_iconst (1) dX0_tellClash_8 (by decide) ?_
  refine aw_iand dX0_tellClash_9 ?_
  refine aw_toe (if (fo a).testBit b = true then 1 else 0) (nv_bit (rfl) (rfl) (by omega) (by omega)) ?_
  refine aw_if_eq 17 dX0_tellClash_10 (by decide) (fun c10 => ?_) (fun c10 => absurd (by rw [hw]; decide) c10)
  refine aw_iconst (0) dX0_tellClash_17 (by decide) ?_
  refine aw_istore [(4, .int 0), (0, .ref (G.1 + 84)), (1, .int (nI a)), (2, .int (nI b)), (3, .int 1)] dX0_tellClash_18 (by decide) rfl ?_
  refine aw_iload 0 dX0_tellClash_20 rfl ?_
  refine aw_iload_n 4 dX0_tellClash_22 rfl rfl ?_
  refine aw_icmp_ne 28 dX0_tellClash_23 (by decide) (fun c23 => ?_) (fun c23 => absurd c23 (by decide))
  refine aw_aload_n 1 dX0_tellClash_28 rfl rfl ?_
  refine aw_get fX0_15 dX0_tellClash_29 h84 rfl ?_
  refine aw_iload_n 2 dX0_tellClash_32 rfl rfl ?_
  refine aw_dup2 dX0_tellClash_33 rfl rfl ?_
  refine aw_iald a (rfl) (by omega) (by decide) dX0_tellClash_34 h86 ?_
  refine aw_toe (nI (fo a)) (rfl) ?_
  have b6 := bfo a (by omega)
  refine aw_iconst (1) dX0_tellClash_35 (by decide) ?_
  refine aw_iload_n 3 dX0_tellClash_36 rfl rfl ?_
  refine aw_ishl dX0_tellClash_37 ?_
  refine aw_toe (nI (2 ^ b)) (nv_shl1 (rfl) (by omega)) ?_
  refine aw_ixor dX0_tellClash_38 ?_
  refine aw_toe (nI ((fo a) ^^^ (2 ^ b))) (nv_xor (rfl) (rfl)) ?_
  refine aw_iast a (rfl) (by omega) (by decide) dX0_tellClash_39 h86 ?_
  rw [nA_u (f := fo) (i := a) (x := (nI ((fo a) ^^^ (2 ^ b)))) (v := (fo a) ^^^ (2 ^ b)) (rfl)]
  refine aw_aload_n 1 dX0_tellClash_40 rfl rfl ?_
  refine aw_get fX0_15 dX0_tellClash_41 (gn (by decide) (h84)) rfl ?_
  refine aw_iload_n 3 dX0_tellClash_44 rfl rfl ?_
  refine aw_dup2 dX0_tellClash_45 rfl rfl ?_
  refine aw_iald b (rfl) (by omega) (by decide) dX0_tellClash_46 (gs h86) ?_
  refine aw_toe (nI ((un fo a ((fo a) ^^^ (2 ^ b))) b)) (rfl) ?_
  refine aw_iconst (1) dX0_tellClash_47 (by decide) ?_
  refine aw_iload_n 2 dX0_tellClash_48 rfl rfl ?_
  refine aw_ishl dX0_tellClash_49 ?_
  refine aw_toe (nI (2 ^ a)) (nv_shl1 (rfl) (by omega)) ?_
  refine aw_ixor dX0_tellClash_50 ?_
  refine aw_toe (nI (((un fo a ((fo a) ^^^ (2 ^ b))) b) ^^^ (2 ^ a))) (nv_xor (rfl) (rfl)) ?_
  refine aw_iast b (rfl) (by omega) (by decide) dX0_tellClash_51 (gs h86) ?_
  rw [nA_u (f := (un fo a ((fo a) ^^^ (2 ^ b)))) (i := b) (x := (nI (((un fo a ((fo a) ^^^ (2 ^ b))) b) ^^^ (2 ^ a)))) (v := ((un fo a ((fo a) ^^^ (2 ^ b))) b) ^^^ (2 ^ a)) (rfl)]
  refine aw_aload_n 1 dX0_tellClash_52 rfl rfl ?_
  refine aw_dup dX0_tellClash_53 rfl ?_
  refine aw_get fX0_18 dX0_tellClash_54 (gn (by decide) (gn (by decide) (h84))) rfl ?_
  refine aw_iload_n 4 dX0_tellClash_57 rfl rfl ?_
  refine aw_if_eq 65 dX0_tellClash_58 (by decide) (fun c58 => absurd c58 (by decide)) (fun c58 => ?_)
  refine aw_iconst (1) dX0_tellClash_61 (by decide) ?_
  refine aw_goto 66 dX0_tellClash_62 (by decide) ?_
  refine aw_iadd dX0_tellClash_66 ?_
  refine aw_putQ fX0_18 dX0_tellClash_67 (lB G (cn + 1)) (gn (by decide) (gn (by decide) (h84))) rfl rfl rfl (Nat.le_of_ble_eq_true rfl) rfl ?_
  refine aw_iconst (1) dX0_tellClash_70 (by decide) ?_
  subst hQF
  exact aw_zret rfl rfl dX0_tellClash_71 (by decide) (by decide) ⟨rfl, (gs (gn (by decide) (gn (by decide) (h84)))), (gn (by decide) (gn (by decide) (gn (by decide) (h85)))), (gn (by decide) (gs (gs h86))), rng_set (rng_set (rng_set (rng_rf 84 86 h) (by decide) (by decide)) (by decide) (by decide)) (by decide) (by decide)⟩
def fkF (kd fo : Nat → Nat) (b : Nat) : Nat → Nat × Nat
  | 0 => (0, 0)
  | a + 1 => if b.testBit a = true then ((fkF kd fo b a).1 ||| 2 ^ kd a, (fkF kd fo b a).2 ||| fo (kd a)) else fkF kd fo b a
theorem pow6 : ∀ a, a < 6 → 2 ^ a < 64 := by decide
theorem fkF_lt {kd fo : Nat → Nat} {b : Nat} (bkd : ∀ j, j < 10 → kd j < 6) (bfo : ∀ j, j < 6 → fo j < 64) : ∀ a, a ≤ 10 → (fkF kd fo b a).1 < 64 ∧ (fkF kd fo b a).2 < 64 := by
  intro a
  induction a with
  | zero => intro _; exact ⟨by simp [fkF], by simp [fkF]⟩
  | succ a ih =>
    intro ha
    have q := ih (by omega)
    simp only [fkF]
    split
    · exact ⟨Nat.or_lt_two_pow (n := 6) q.1 (pow6 _ (bkd a (by omega))), Nat.or_lt_two_pow (n := 6) q.2 (bfo _ (bkd a (by omega)))⟩
    · exact q
/-- is the beast b a fake, as the class reckons -/
def isfk (kd fo : Nat → Nat) (b : Nat) : Prop := (fkF kd fo b 10).1 &&& (fkF kd fo b 10).2 ≠ 0
noncomputable def lwF (kd fo : Nat → Nat) (b : Nat) : Nat → Nat
  | 0 => b
  | s + 1 => if s &&& b = s ∧ popN s < popN (lwF kd fo b s) ∧ (fkF kd fo (b &&& (1023 ^^^ s)) 10).1 &&& (fkF kd fo (b &&& (1023 ^^^ s)) 10).2 = 0 then s else lwF kd fo b s
theorem lwF_lt {kd fo : Nat → Nat} {b : Nat} (hb : b < 1024) : ∀ s, s ≤ 1024 → lwF kd fo b s < 1024 := by
  intro s
  induction s with
  | zero => intro _; exact hb
  | succ s ih =>
    intro h
    simp only [lwF]
    split
    · omega
    · exact ih (by omega)
theorem nv_andn {b s : Nat} (hb : b < 1024) : nI b &&& (nI s ^^^ (-1)) = nI (b &&& (1023 ^^^ s)) := by
  apply Int32.toBitVec_inj.mp
  show BitVec.ofNat 32 b &&& (BitVec.ofNat 32 s ^^^ (-1 : Int32).toBitVec) = BitVec.ofNat 32 (b &&& (1023 ^^^ s))
  apply BitVec.eq_of_getLsbD_eq
  intro i hi
  rw [show (-1 : Int32).toBitVec = BitVec.allOnes 32 from by decide]
  simp only [BitVec.getLsbD_and, BitVec.getLsbD_xor, BitVec.getLsbD_ofNat, BitVec.getLsbD_allOnes, Nat.testBit_and, Nat.testBit_xor, hi, decide_true, Bool.true_and]
  by_cases q : i < 10
  · rw [show (1023 : Nat).testBit i = true from by rw [show (1023 : Nat) = 2 ^ 10 - 1 from rfl, Nat.testBit_two_pow_sub_one]; simpa using q]
    cases b.testBit i <;> cases s.testBit i <;> rfl
  · have e : b.testBit i = false := Nat.testBit_lt_two_pow (Nat.lt_of_lt_of_le hb (by rw [show 1024 = 2 ^ 10 from rfl]; exact Nat.pow_le_pow_right (by decide) (by omega)))
    rw [e]; rfl
set_option maxHeartbeats 4000000 in
theorem aX0_isFake {l : Launch} {G : xG} {h : List va_E} {kd fo : Nat → Nat} {cn : Int32} {b : Nat} (h84 : h[84]? = some (oB 0 (lB G cn))) (h85 : h[85]? = some (aI 10 (nA kd))) (h86 : h[86]? = some (aI 6 (nA fo))) (bkd : ∀ j, j < 10 → kd j < 6) (bfo : ∀ j, j < 6 → fo j < 64) (bb : b < 1024) : CD l G yX0_isFake cX0_isFake 5 (some .boolean) 0 0 0 [.ref (G.1 + 84), .int (nI b)] h (some (.int (if (fkF kd fo b 10).1 &&& (fkF kd fo b 10).2 ≠ 0 then 1 else 0))) h := by
  refine cm_ofQ rfl (Nat.le_of_ble_eq_true rfl) [(0, .ref (G.1 + 84)), (1, .int (nI b))] rfl (fun QF hQF => ?_)
  refine aw_iconst (0) dX0_isFake_0 (by decide) ?_
  refine aw_istore_n [(2, .int 0), (0, .ref (G.1 + 84)), (1, .int (nI b))] dX0_isFake_1 rfl (by decide) rfl ?_
  refine aw_iconst (0) dX0_isFake_2 (by decide) ?_
  refine aw_istore_n [(3, .int 0), (2, .int 0), (0, .ref (G.1 + 84)), (1, .int (nI b))] dX0_isFake_3 rfl (by decide) rfl ?_
  refine aw_iconst (0) dX0_isFake_4 (by decide) ?_
  refine aw_istore [(4, .int 0), (3, .int 0), (2, .int 0), (0, .ref (G.1 + 84)), (1, .int (nI b))] dX0_isFake_5 (by decide) rfl ?_
  refine aw_lv [(4, .int 0), (3, .int 0), (2, .int 0), (1, .int (nI b)), (0, .ref (G.1 + 84))] [0, 1, 2, 4, 3] rfl ?_
  suffices L7 : ∀ (mm : Nat) (i : Nat) (hv : Nat) (kv : Nat), 10 - i < mm → (i ≤ 10) → ((kv, hv) = (fkF kd fo b i)) → AW l G yX0_isFake cX0_isFake 5 (some .boolean) (xR 0 0 0) (fun _ _ => True) QF 0 0 7 [(4, .int (nI i)), (3, .int (nI hv)), (2, .int (nI kv)), (1, .int (nI b)), (0, .ref (G.1 + 84))] [] h from L7 (10 - 0 + 1) 0 0 0 (Nat.lt_succ_self _) (Nat.zero_le _) (rfl)
  intro mm
  induction mm with
  | zero =>
    intro i hv kv hmm hi hk
    exact absurd hmm (Nat.not_lt_zero _)
  | succ mm ih7 =>
    intro i hv kv hmm hi hk
    have b9 := fkF_lt (b := b) bkd bfo i hi
    rw [← hk] at b9
    have b8 := b9.1
    have b7 := b9.2
    dsimp only at b7 b8
    refine aw_iload 0 dX0_isFake_7 rfl ?_
    refine aw_bipush (10) dX0_isFake_9 (by decide) ?_
    refine aw_icmp_ge 56 dX0_isFake_11 (by decide) (fun c11 => ?_) (fun c11 => ?_)
    · have d11 := (nv_le (a := 10) (b := i) (rfl) (rfl) (by omega) (by omega)).mp c11
      refine aw_iload_n 2 dX0_isFake_56 rfl rfl ?_
      refine aw_iload_n 1 dX0_isFake_57 rfl rfl ?_
      refine aw_iand dX0_isFake_58 ?_
      refine aw_toe (nI (kv &&& hv)) (nv_and (rfl) (rfl)) ?_
      have e10 : i = 10 := by omega
      subst e10
      have b6 : kv &&& hv < 64 := Nat.lt_of_le_of_lt Nat.and_le_left b8
      refine aw_if_eq 66 dX0_isFake_59 (by decide) (fun c59 => ?_) (fun c59 => ?_)
      · have d59 := (nv_eq (a := kv &&& hv) (b := 0) (rfl) (rfl) (by omega) (by omega)).mp c59
        refine aw_iconst (0) dX0_isFake_66 (by decide) ?_
        subst hQF
        exact aw_zret rfl rfl dX0_isFake_67 (by decide) (by decide) ⟨by rw [← hk]; dsimp only; rw [if_neg (by omega)], rfl⟩
      · have d59 := mt (nv_eq (a := kv &&& hv) (b := 0) (rfl) (rfl) (by omega) (by omega)).mpr c59
        refine aw_iconst (1) dX0_isFake_62 (by decide) ?_
        refine aw_goto 67 dX0_isFake_63 (by decide) ?_
        subst hQF
        exact aw_zret rfl rfl dX0_isFake_67 (by decide) (by decide) ⟨by rw [← hk]; dsimp only; rw [if_pos (by omega)], rfl⟩
    · have d11 := mt (nv_le (a := 10) (b := i) (rfl) (rfl) (by omega) (by omega)).mpr c11
      refine aw_iload_n 3 dX0_isFake_14 rfl rfl ?_
      refine aw_iload 0 dX0_isFake_15 rfl ?_
      refine aw_ishr dX0_isFake_17 ?_
      refine aw_iconst (1) dX0_isFake_18 (by decide) ?_
      refine aw_iand dX0_isFake_19 ?_
      refine aw_toe (if b.testBit i = true then 1 else 0) (nv_bit (rfl) (rfl) (by omega) (by omega)) ?_
      refine aw_if_eq 50 dX0_isFake_20 (by decide) (fun c20 => ?_) (fun c20 => ?_)
      · have t20 := ite_0 c20
        refine aw_iinc (j := 0) (nI (i + 1)) [(4, .int (nI (i + 1))), (3, .int (nI hv)), (2, .int (nI kv)), (1, .int (nI b)), (0, .ref (G.1 + 84))] dX0_isFake_50 rfl (nv_inc (rfl)) (by decide) rfl ?_
        refine aw_goto 7 dX0_isFake_53 (by decide) ?_
        refine aw_lv [(4, .int (nI (i + 1))), (3, .int (nI hv)), (2, .int (nI kv)), (1, .int (nI b)), (0, .ref (G.1 + 84))] [0, 1, 2, 3, 4] rfl ?_
        exact ih7 (i + 1) hv kv (by omega) (by omega) (by simp only [fkF]; rw [if_neg t20]; exact hk)
      · have t20 := ite_1 c20
        refine aw_iload_n 2 dX0_isFake_23 rfl rfl ?_
        refine aw_iconst (1) dX0_isFake_24 (by decide) ?_
        refine aw_aload_n 4 dX0_isFake_25 rfl rfl ?_
        refine aw_get fX0_9 dX0_isFake_26 h84 rfl ?_
        refine aw_iload 0 dX0_isFake_29 rfl ?_
        refine aw_iald i (rfl) (by omega) (by decide) dX0_isFake_31 h85 ?_
        refine aw_toe (nI (kd i)) (rfl) ?_
        have b8 := bkd i (by omega)
        refine aw_ishl dX0_isFake_32 ?_
        refine aw_toe (nI (2 ^ (kd i))) (nv_shl1 (rfl) (by omega)) ?_
        refine aw_ior dX0_isFake_33 ?_
        refine aw_toe (nI (kv ||| (2 ^ (kd i)))) (nv_or (rfl) (rfl)) ?_
        refine aw_istore_n [(2, .int (nI (kv ||| (2 ^ (kd i))))), (4, .int (nI i)), (3, .int (nI hv)), (1, .int (nI b)), (0, .ref (G.1 + 84))] dX0_isFake_34 rfl (by decide) rfl ?_
        refine aw_iload_n 2 dX0_isFake_35 rfl rfl ?_
        refine aw_aload_n 4 dX0_isFake_36 rfl rfl ?_
        refine aw_get fX0_15 dX0_isFake_37 h84 rfl ?_
        refine aw_aload_n 4 dX0_isFake_40 rfl rfl ?_
        refine aw_get fX0_9 dX0_isFake_41 h84 rfl ?_
        refine aw_iload 1 dX0_isFake_44 rfl ?_
        refine aw_iald i (rfl) (by omega) (by decide) dX0_isFake_46 h85 ?_
        refine aw_toe (nI (kd i)) (rfl) ?_
        have b9 := bkd i (by omega)
        refine aw_iald (kd i) (rfl) (by omega) (by decide) dX0_isFake_47 h86 ?_
        refine aw_toe (nI (fo (kd i))) (rfl) ?_
        have b10 := bfo (kd i) (by omega)
        refine aw_ior dX0_isFake_48 ?_
        refine aw_toe (nI (hv ||| (fo (kd i)))) (nv_or (rfl) (rfl)) ?_
        refine aw_istore_n [(3, .int (nI (hv ||| (fo (kd i))))), (2, .int (nI (kv ||| (2 ^ (kd i))))), (4, .int (nI i)), (1, .int (nI b)), (0, .ref (G.1 + 84))] dX0_isFake_49 rfl (by decide) rfl ?_
        refine aw_iinc (j := 2) (nI (i + 1)) [(4, .int (nI (i + 1))), (3, .int (nI (hv ||| (fo (kd i))))), (2, .int (nI (kv ||| (2 ^ (kd i))))), (1, .int (nI b)), (0, .ref (G.1 + 84))] dX0_isFake_50 rfl (nv_inc (rfl)) (by decide) rfl ?_
        refine aw_goto 7 dX0_isFake_53 (by decide) ?_
        refine aw_lv [(4, .int (nI (i + 1))), (3, .int (nI (hv ||| (fo (kd i))))), (2, .int (nI (kv ||| (2 ^ (kd i))))), (1, .int (nI b)), (0, .ref (G.1 + 84))] [0, 1, 2, 3, 4] rfl ?_
        exact ih7 (i + 1) (hv ||| fo (kd i)) (kv ||| 2 ^ kd i) (by omega) (by omega) (by simp only [fkF]; rw [if_pos t20, ← hk])
set_option maxHeartbeats 4000000 in
theorem aX0_least {l : Launch} {G : xG} {h : List va_E} {kd fo : Nat → Nat} {cn : Int32} {b : Nat} (h84 : h[84]? = some (oB 0 (lB G cn))) (h85 : h[85]? = some (aI 10 (nA kd))) (h86 : h[86]? = some (aI 6 (nA fo))) (bkd : ∀ j, j < 10 → kd j < 6) (bfo : ∀ j, j < 6 → fo j < 64) (bb : b < 1024) : CD l G yX0_leastWithout cX0_leastWithout 5 (some .int) 1 0 0 [.ref (G.1 + 84), .int (nI b)] h (some (.int (nI (lwF kd fo b b)))) h := by
  refine cm_ofQ rfl (Nat.le_of_ble_eq_true rfl) [(0, .ref (G.1 + 84)), (1, .int (nI b))] rfl (fun QF hQF => ?_)
  refine aw_iload_n 1 dX0_leastWithout_0 rfl rfl ?_
  refine aw_istore_n [(2, .int (nI b)), (0, .ref (G.1 + 84)), (1, .int (nI b))] dX0_leastWithout_1 rfl (by decide) rfl ?_
  refine aw_iconst (0) dX0_leastWithout_2 (by decide) ?_
  refine aw_istore_n [(3, .int 0), (2, .int (nI b)), (0, .ref (G.1 + 84)), (1, .int (nI b))] dX0_leastWithout_3 rfl (by decide) rfl ?_
  refine aw_lv [(3, .int 0), (2, .int (nI b)), (1, .int (nI b)), (0, .ref (G.1 + 84))] [0, 1, 3, 2] rfl ?_
  suffices L11 : ∀ (mm : Nat) (i : Nat) (lv : Nat), b - i < mm → (i ≤ b) → (lv = (lwF kd fo b i)) → AW l G yX0_leastWithout cX0_leastWithout 5 (some .int) (xR 1 0 0) (fun _ _ => True) QF 0 0 4 [(3, .int (nI i)), (2, .int (nI lv)), (1, .int (nI b)), (0, .ref (G.1 + 84))] [] h from L11 (b - 0 + 1) 0 b (Nat.lt_succ_self _) (Nat.zero_le _) (rfl)
  intro mm
  induction mm with
  | zero =>
    intro i lv hmm hi hl
    exact absurd hmm (Nat.not_lt_zero _)
  | succ mm ih11 =>
    intro i lv hmm hi hl
    have b9 : lv < 1024 := by rw [hl]; exact lwF_lt bb i (by omega)
    have b8 := popN_le i
    have b7 := popN_le lv
    have b6 : i &&& b ≤ b := Nat.and_le_right
    have b5 : b &&& (1023 ^^^ i) ≤ b := Nat.and_le_left
    refine aw_iload_n 0 dX0_leastWithout_4 rfl rfl ?_
    refine aw_iload_n 2 dX0_leastWithout_5 rfl rfl ?_
    refine aw_icmp_ge 59 dX0_leastWithout_6 (by decide) (fun c6 => ?_) (fun c6 => ?_)
    · have d6 := (nv_le (a := b) (b := i) (rfl) (rfl) (by omega) (by omega)).mp c6
      refine aw_iload_n 1 dX0_leastWithout_59 rfl rfl ?_
      subst hQF
      exact aw_iret rfl dX0_leastWithout_60 (by decide) (by decide) ⟨by rw [hl, show i = b by omega], rfl⟩
    · have d6 := mt (nv_le (a := b) (b := i) (rfl) (rfl) (by omega) (by omega)).mpr c6
      refine aw_iload_n 0 dX0_leastWithout_9 rfl rfl ?_
      refine aw_iload_n 2 dX0_leastWithout_10 rfl rfl ?_
      refine aw_iand dX0_leastWithout_11 ?_
      refine aw_toe (nI (i &&& b)) (nv_and (rfl) (rfl)) ?_
      refine aw_iload_n 0 dX0_leastWithout_12 rfl rfl ?_
      refine aw_icmp_ne 20 dX0_leastWithout_13 (by decide) (fun c13 => ?_) (fun c13 => ?_)
      · have d13 := mt (nv_eq (a := i &&& b) (b := i) (rfl) (rfl) (by omega) (by omega)).mpr c13
        refine aw_iconst (0) dX0_leastWithout_20 (by decide) ?_
        refine aw_istore [(4, .int 0), (3, .int (nI i)), (2, .int (nI lv)), (1, .int (nI b)), (0, .ref (G.1 + 84))] dX0_leastWithout_21 (by decide) rfl ?_
        refine aw_iload 0 dX0_leastWithout_23 rfl ?_
        refine aw_if_eq 53 dX0_leastWithout_25 (by decide) (fun c25 => ?_) (fun c25 => absurd (by decide) c25)
        refine aw_iinc (j := 1) (nI (i + 1)) [(3, .int (nI (i + 1))), (4, .int 0), (2, .int (nI lv)), (1, .int (nI b)), (0, .ref (G.1 + 84))] dX0_leastWithout_53 rfl (nv_inc (rfl)) (by decide) rfl ?_
        refine aw_goto 4 dX0_leastWithout_56 (by decide) ?_
        refine aw_lv [(3, .int (nI (i + 1))), (2, .int (nI lv)), (1, .int (nI b)), (0, .ref (G.1 + 84))] [0, 2, 3, 4] rfl ?_
        exact ih11 (i + 1) lv (by omega) (by omega) (by simp only [lwF]; rw [← hl, if_neg (fun q => d13 q.1)])
      · have d13 := (nv_eq (a := i &&& b) (b := i) (rfl) (rfl) (by omega) (by omega)).mp c13
        refine aw_iconst (1) dX0_leastWithout_16 (by decide) ?_
        refine aw_goto 21 dX0_leastWithout_17 (by decide) ?_
        refine aw_istore [(4, .int 1), (3, .int (nI i)), (2, .int (nI lv)), (1, .int (nI b)), (0, .ref (G.1 + 84))] dX0_leastWithout_21 (by decide) rfl ?_
        refine aw_iload 0 dX0_leastWithout_23 rfl ?_
        refine aw_if_eq 53 dX0_leastWithout_25 (by decide) (fun c25 => absurd c25 (by decide)) (fun c25 => ?_)
        refine aw_iload_n 1 dX0_leastWithout_28 rfl rfl ?_
        refine aw_dS [.int (nI i)] [] lX0_22 sJ6_bitCount_0f7a4 mJ6_bitCount_0f7a4 dX0_leastWithout_29 (J6_bitCount_g (x := (nI i)) ) rfl (Nat.le_of_ble_eq_true rfl) (by decide) (by decide) rfl ?_
        refine aw_toe (nI (popN i)) (bc_pop (by omega)) ?_
        refine aw_iload_n 2 dX0_leastWithout_32 rfl rfl ?_
        refine aw_dS [.int (nI lv)] [.int (nI (popN i))] lX0_22 sJ6_bitCount_0f7a4 mJ6_bitCount_0f7a4 dX0_leastWithout_33 (J6_bitCount_g (x := (nI lv)) ) rfl (Nat.le_of_ble_eq_true rfl) (by decide) (by decide) rfl ?_
        refine aw_toe (nI (popN lv)) (bc_pop (by omega)) ?_
        refine aw_icmp_ge 53 dX0_leastWithout_36 (by decide) (fun c36 => ?_) (fun c36 => ?_)
        · have d36 := (nv_le (a := popN lv) (b := popN i) (rfl) (rfl) (by omega) (by omega)).mp c36
          refine aw_iinc (j := 1) (nI (i + 1)) [(3, .int (nI (i + 1))), (4, .int 1), (2, .int (nI lv)), (1, .int (nI b)), (0, .ref (G.1 + 84))] dX0_leastWithout_53 rfl (nv_inc (rfl)) (by decide) rfl ?_
          refine aw_goto 4 dX0_leastWithout_56 (by decide) ?_
          refine aw_lv [(3, .int (nI (i + 1))), (2, .int (nI lv)), (1, .int (nI b)), (0, .ref (G.1 + 84))] [0, 2, 3, 4] rfl ?_
          exact ih11 (i + 1) lv (by omega) (by omega) (by simp only [lwF]; rw [← hl, if_neg (fun q => by omega)])
        · have d36 := mt (nv_le (a := popN lv) (b := popN i) (rfl) (rfl) (by omega) (by omega)).mpr c36
          refine aw_aload_n 4 dX0_leastWithout_39 rfl rfl ?_
          refine aw_iload_n 3 dX0_leastWithout_40 rfl rfl ?_
          refine aw_iload_n 1 dX0_leastWithout_41 rfl rfl ?_
          refine aw_iconst (-1) dX0_leastWithout_42 (by decide) ?_
          refine aw_ixor dX0_leastWithout_43 ?_
          refine aw_iand dX0_leastWithout_44 ?_
          refine aw_toe (nI (b &&& (1023 ^^^ i))) (nv_andn bb) ?_
          refine aw_dV [.int (nI (b &&& (1023 ^^^ i)))] [] lX0_28 vX0_isFake mX0_isFake dX0_leastWithout_45 (aX0_isFake (kd := kd) (fo := fo) (cn := cn) (b := b &&& (1023 ^^^ i)) h84 h85 h86 bkd bfo (by omega)) h84 rfl rfl rfl (Nat.le_of_ble_eq_true rfl) (by decide) (by decide) rfl ?_
          refine aw_if_ne 53 dX0_leastWithout_48 (by decide) (fun c48 => ?_) (fun c48 => ?_)
          · have t48 := ite_1 c48
            refine aw_iinc (j := 1) (nI (i + 1)) [(3, .int (nI (i + 1))), (4, .int 1), (2, .int (nI lv)), (1, .int (nI b)), (0, .ref (G.1 + 84))] dX0_leastWithout_53 rfl (nv_inc (rfl)) (by decide) rfl ?_
            refine aw_goto 4 dX0_leastWithout_56 (by decide) ?_
            refine aw_lv [(3, .int (nI (i + 1))), (2, .int (nI lv)), (1, .int (nI b)), (0, .ref (G.1 + 84))] [0, 2, 3, 4] rfl ?_
            exact ih11 (i + 1) lv (by omega) (by omega) (by simp only [lwF]; rw [← hl, if_neg (fun q => t48 q.2.2)])
          · have t48 := ite_0 c48
            refine aw_iload_n 1 dX0_leastWithout_51 rfl rfl ?_
            refine aw_istore_n [(2, .int (nI i)), (4, .int 1), (3, .int (nI i)), (1, .int (nI b)), (0, .ref (G.1 + 84))] dX0_leastWithout_52 rfl (by decide) rfl ?_
            refine aw_iinc (j := 2) (nI (i + 1)) [(3, .int (nI (i + 1))), (2, .int (nI i)), (4, .int 1), (1, .int (nI b)), (0, .ref (G.1 + 84))] dX0_leastWithout_53 rfl (nv_inc (rfl)) (by decide) rfl ?_
            refine aw_goto 4 dX0_leastWithout_56 (by decide) ?_
            refine aw_lv [(3, .int (nI (i + 1))), (2, .int (nI i)), (1, .int (nI b)), (0, .ref (G.1 + 84))] [0, 1, 3, 4] rfl ?_
            exact ih11 (i + 1) i (by omega) (by omega) (by simp only [lwF]; rw [← hl, if_pos ⟨by omega, by omega, Classical.byContradiction t48⟩])
