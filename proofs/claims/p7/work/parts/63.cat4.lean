set_option maxHeartbeats 4000000 in
theorem aX1_tellYear {l : Launch} {G : xG} {h : List va_E} {m se ye fi : Nat → Nat} {W Sn Z Ro Co : Nat → Int32} {Ba : Nat → Int64} {nb sp fa ve : Nat} {c y : Nat} (h1 : h[1]? = some (oB 1 (lC G (nI nb) (nI sp) (nI fa) (nI ve)))) (h2 : h[2]? = some (aI 20 (nA m))) (h3 : h[3]? = some (aI 20 (nA se))) (h4 : h[4]? = some (aI 4 (nA ye))) (h5 : h[5]? = some (aI 4 (nA fi))) (h6 : h[6]? = some (aI 40 W)) (h7 : h[7]? = some (aI 40 Sn)) (h8 : h[8]? = some (aI 40 Z)) (h9 : h[9]? = some (aI 40 Ro)) (h10 : h[10]? = some (aI 40 Co)) (h11 : h[11]? = some (aL 40 Ba)) (bc : c < 4) : CE l G yX1_tellYear cX1_tellYear 4 (some .int) 0 0 0 [.ref (G.1 + 1), .int (nI c), .int (nI y)] h (some (.int (nI (ye c)))) (fun h1 => h1[1]? = some (oB 1 (lC G (nI nb) (nI sp) (nI fa) (nI (ve + 1)))) ∧ h1[2]? = some (aI 20 (nA m)) ∧ h1[3]? = some (aI 20 (nA se)) ∧ h1[4]? = some (aI 4 (nA (un ye c y))) ∧ h1[5]? = some (aI 4 (nA fi)) ∧ h1[6]? = some (aI 40 W) ∧ h1[7]? = some (aI 40 Sn) ∧ h1[8]? = some (aI 40 Z) ∧ h1[9]? = some (aI 40 Ro) ∧ h1[10]? = some (aI 40 Co) ∧ h1[11]? = some (aL 40 Ba) ∧ rng 1 11 h h1) := by
  refine cm_ofQ rfl (Nat.le_of_ble_eq_true rfl) [(0, .ref (G.1 + 1)), (1, .int (nI c)), (2, .int (nI y))] rfl (fun QF hQF => ?_)
  refine aw_aload_n 0 dX1_tellYear_0 rfl rfl ?_
  refine aw_get fX1_18 dX1_tellYear_1 h1 rfl ?_
  refine aw_iload_n 1 dX1_tellYear_4 rfl rfl ?_
  refine aw_iald c (rfl) (by omega) (by decide) dX1_tellYear_5 h4 ?_
  refine aw_toe (nI (ye c)) (rfl) ?_
  refine aw_istore_n [(3, .int (nI (ye c))), (0, .ref (G.1 + 1)), (1, .int (nI c)), (2, .int (nI y))] dX1_tellYear_6 rfl (by decide) rfl ?_
  refine aw_aload_n 1 dX1_tellYear_7 rfl rfl ?_
  refine aw_get fX1_18 dX1_tellYear_8 h1 rfl ?_
  refine aw_iload_n 2 dX1_tellYear_11 rfl rfl ?_
  refine aw_iload_n 3 dX1_tellYear_12 rfl rfl ?_
  refine aw_iast c (rfl) (by omega) (by decide) dX1_tellYear_13 h4 ?_
  rw [nA_u (f := ye) (i := c) (x := (nI y)) (v := y) (rfl)]
  refine aw_aload_n 1 dX1_tellYear_14 rfl rfl ?_
  refine aw_dup dX1_tellYear_15 rfl ?_
  refine aw_get fX1_53 dX1_tellYear_16 (gn (by decide) (h1)) rfl ?_
  refine aw_iconst (1) dX1_tellYear_19 (by decide) ?_
  refine aw_iadd dX1_tellYear_20 ?_
  refine aw_toe (nI (ve + 1)) (nv_add (rfl) (rfl)) ?_
  refine aw_putQ fX1_53 dX1_tellYear_21 (lC G (nI nb) (nI sp) (nI fa) (nI (ve + 1))) (gn (by decide) (h1)) rfl rfl rfl (Nat.le_of_ble_eq_true rfl) rfl ?_
  refine aw_iload_n 0 dX1_tellYear_24 rfl rfl ?_
  subst hQF
  exact aw_iret rfl dX1_tellYear_25 (by decide) (by decide) ⟨rfl, (gs (gn (by decide) (h1))), (gn (by decide) (gn (by decide) (h2))), (gn (by decide) (gn (by decide) (h3))), (gn (by decide) (gs h4)), (gn (by decide) (gn (by decide) (h5))), (gn (by decide) (gn (by decide) (h6))), (gn (by decide) (gn (by decide) (h7))), (gn (by decide) (gn (by decide) (h8))), (gn (by decide) (gn (by decide) (h9))), (gn (by decide) (gn (by decide) (h10))), (gn (by decide) (gn (by decide) (h11))), rng_set (rng_set (rng_rf 1 11 h) (by decide) (by decide)) (by decide) (by decide)⟩
set_option maxHeartbeats 4000000 in
theorem aX1_tellSpare {l : Launch} {G : xG} {h : List va_E} {m se ye fi : Nat → Nat} {W Sn Z Ro Co : Nat → Int32} {Ba : Nat → Int64} {nb sp fa ve : Nat} {v : Nat} (h1 : h[1]? = some (oB 1 (lC G (nI nb) (nI sp) (nI fa) (nI ve)))) (h2 : h[2]? = some (aI 20 (nA m))) (h3 : h[3]? = some (aI 20 (nA se))) (h4 : h[4]? = some (aI 4 (nA ye))) (h5 : h[5]? = some (aI 4 (nA fi))) (h6 : h[6]? = some (aI 40 W)) (h7 : h[7]? = some (aI 40 Sn)) (h8 : h[8]? = some (aI 40 Z)) (h9 : h[9]? = some (aI 40 Ro)) (h10 : h[10]? = some (aI 40 Co)) (h11 : h[11]? = some (aL 40 Ba))  : CE l G yX1_tellSpare cX1_tellSpare 3 (some .int) 0 0 0 [.ref (G.1 + 1), .int (nI v)] h (some (.int (nI sp))) (fun h1 => h1[1]? = some (oB 1 (lC G (nI nb) (nI v) (nI fa) (nI (ve + 1)))) ∧ h1[2]? = some (aI 20 (nA m)) ∧ h1[3]? = some (aI 20 (nA se)) ∧ h1[4]? = some (aI 4 (nA ye)) ∧ h1[5]? = some (aI 4 (nA fi)) ∧ h1[6]? = some (aI 40 W) ∧ h1[7]? = some (aI 40 Sn) ∧ h1[8]? = some (aI 40 Z) ∧ h1[9]? = some (aI 40 Ro) ∧ h1[10]? = some (aI 40 Co) ∧ h1[11]? = some (aL 40 Ba) ∧ rng 1 11 h h1) := by
  refine cm_ofQ rfl (Nat.le_of_ble_eq_true rfl) [(0, .ref (G.1 + 1)), (1, .int (nI v))] rfl (fun QF hQF => ?_)
  refine aw_aload_n 0 dX1_tellSpare_0 rfl rfl ?_
  refine aw_get fX1_47 dX1_tellSpare_1 h1 rfl ?_
  refine aw_istore_n [(2, .int (nI sp)), (0, .ref (G.1 + 1)), (1, .int (nI v))] dX1_tellSpare_4 rfl (by decide) rfl ?_
  refine aw_aload_n 1 dX1_tellSpare_5 rfl rfl ?_
  refine aw_iload_n 2 dX1_tellSpare_6 rfl rfl ?_
  refine aw_putQ fX1_47 dX1_tellSpare_7 (lC G (nI nb) (nI v) (nI fa) (nI ve)) h1 rfl rfl rfl (Nat.le_of_ble_eq_true rfl) rfl ?_
  refine aw_aload_n 1 dX1_tellSpare_10 rfl rfl ?_
  refine aw_dup dX1_tellSpare_11 rfl ?_
  refine aw_get fX1_53 dX1_tellSpare_12 (gs h1) rfl ?_
  refine aw_iconst (1) dX1_tellSpare_15 (by decide) ?_
  refine aw_iadd dX1_tellSpare_16 ?_
  refine aw_toe (nI (ve + 1)) (nv_add (rfl) (rfl)) ?_
  refine aw_putQ fX1_53 dX1_tellSpare_17 (lC G (nI nb) (nI v) (nI fa) (nI (ve + 1))) (gs h1) rfl rfl rfl (Nat.le_of_ble_eq_true rfl) rfl ?_
  refine aw_iload_n 0 dX1_tellSpare_20 rfl rfl ?_
  subst hQF
  exact aw_iret rfl dX1_tellSpare_21 (by decide) (by decide) ⟨rfl, (gs (gs h1)), (gn (by decide) (gn (by decide) (h2))), (gn (by decide) (gn (by decide) (h3))), (gn (by decide) (gn (by decide) (h4))), (gn (by decide) (gn (by decide) (h5))), (gn (by decide) (gn (by decide) (h6))), (gn (by decide) (gn (by decide) (h7))), (gn (by decide) (gn (by decide) (h8))), (gn (by decide) (gn (by decide) (h9))), (gn (by decide) (gn (by decide) (h10))), (gn (by decide) (gn (by decide) (h11))), rng_set (rng_set (rng_rf 1 11 h) (by decide) (by decide)) (by decide) (by decide)⟩
set_option maxHeartbeats 4000000 in
theorem aX1_tellFade {l : Launch} {G : xG} {h : List va_E} {m se ye fi : Nat → Nat} {W Sn Z Ro Co : Nat → Int32} {Ba : Nat → Int64} {nb sp fa ve : Nat} {v : Nat} (h1 : h[1]? = some (oB 1 (lC G (nI nb) (nI sp) (nI fa) (nI ve)))) (h2 : h[2]? = some (aI 20 (nA m))) (h3 : h[3]? = some (aI 20 (nA se))) (h4 : h[4]? = some (aI 4 (nA ye))) (h5 : h[5]? = some (aI 4 (nA fi))) (h6 : h[6]? = some (aI 40 W)) (h7 : h[7]? = some (aI 40 Sn)) (h8 : h[8]? = some (aI 40 Z)) (h9 : h[9]? = some (aI 40 Ro)) (h10 : h[10]? = some (aI 40 Co)) (h11 : h[11]? = some (aL 40 Ba))  : CE l G yX1_tellFade cX1_tellFade 3 (some .int) 0 0 0 [.ref (G.1 + 1), .int (nI v)] h (some (.int (nI fa))) (fun h1 => h1[1]? = some (oB 1 (lC G (nI nb) (nI sp) (nI v) (nI (ve + 1)))) ∧ h1[2]? = some (aI 20 (nA m)) ∧ h1[3]? = some (aI 20 (nA se)) ∧ h1[4]? = some (aI 4 (nA ye)) ∧ h1[5]? = some (aI 4 (nA fi)) ∧ h1[6]? = some (aI 40 W) ∧ h1[7]? = some (aI 40 Sn) ∧ h1[8]? = some (aI 40 Z) ∧ h1[9]? = some (aI 40 Ro) ∧ h1[10]? = some (aI 40 Co) ∧ h1[11]? = some (aL 40 Ba) ∧ rng 1 11 h h1) := by
  refine cm_ofQ rfl (Nat.le_of_ble_eq_true rfl) [(0, .ref (G.1 + 1)), (1, .int (nI v))] rfl (fun QF hQF => ?_)
  refine aw_aload_n 0 dX1_tellFade_0 rfl rfl ?_
  refine aw_get fX1_50 dX1_tellFade_1 h1 rfl ?_
  refine aw_istore_n [(2, .int (nI fa)), (0, .ref (G.1 + 1)), (1, .int (nI v))] dX1_tellFade_4 rfl (by decide) rfl ?_
  refine aw_aload_n 1 dX1_tellFade_5 rfl rfl ?_
  refine aw_iload_n 2 dX1_tellFade_6 rfl rfl ?_
  refine aw_putQ fX1_50 dX1_tellFade_7 (lC G (nI nb) (nI sp) (nI v) (nI ve)) h1 rfl rfl rfl (Nat.le_of_ble_eq_true rfl) rfl ?_
  refine aw_aload_n 1 dX1_tellFade_10 rfl rfl ?_
  refine aw_dup dX1_tellFade_11 rfl ?_
  refine aw_get fX1_53 dX1_tellFade_12 (gs h1) rfl ?_
  refine aw_iconst (1) dX1_tellFade_15 (by decide) ?_
  refine aw_iadd dX1_tellFade_16 ?_
  refine aw_toe (nI (ve + 1)) (nv_add (rfl) (rfl)) ?_
  refine aw_putQ fX1_53 dX1_tellFade_17 (lC G (nI nb) (nI sp) (nI v) (nI (ve + 1))) (gs h1) rfl rfl rfl (Nat.le_of_ble_eq_true rfl) rfl ?_
  refine aw_iload_n 0 dX1_tellFade_20 rfl rfl ?_
  subst hQF
  exact aw_iret rfl dX1_tellFade_21 (by decide) (by decide) ⟨rfl, (gs (gs h1)), (gn (by decide) (gn (by decide) (h2))), (gn (by decide) (gn (by decide) (h3))), (gn (by decide) (gn (by decide) (h4))), (gn (by decide) (gn (by decide) (h5))), (gn (by decide) (gn (by decide) (h6))), (gn (by decide) (gn (by decide) (h7))), (gn (by decide) (gn (by decide) (h8))), (gn (by decide) (gn (by decide) (h9))), (gn (by decide) (gn (by decide) (h10))), (gn (by decide) (gn (by decide) (h11))), rng_set (rng_set (rng_rf 1 11 h) (by decide) (by decide)) (by decide) (by decide)⟩
set_option maxHeartbeats 4000000 in
theorem aX1_addEntry {l : Launch} {G : xG} {h : List va_E} {m se ye fi : Nat → Nat} {W Sn Z Ro Co : Nat → Int32} {Ba : Nat → Int64} {nb sp fa ve : Nat} {c : Nat} {w s r u : Int32} (h1 : h[1]? = some (oB 1 (lC G (nI nb) (nI sp) (nI fa) (nI ve)))) (h2 : h[2]? = some (aI 20 (nA m))) (h3 : h[3]? = some (aI 20 (nA se))) (h4 : h[4]? = some (aI 4 (nA ye))) (h5 : h[5]? = some (aI 4 (nA fi))) (h6 : h[6]? = some (aI 40 W)) (h7 : h[7]? = some (aI 40 Sn)) (h8 : h[8]? = some (aI 40 Z)) (h9 : h[9]? = some (aI 40 Ro)) (h10 : h[10]? = some (aI 40 Co)) (h11 : h[11]? = some (aL 40 Ba)) (bc : c < 4) (bf : fi c < 10) : CE l G yX1_addEntry cX1_addEntry 8 (some .int) 1 0 0 [.ref (G.1 + 1), .int (nI c), .int w, .int s, .int r, .int u] h (some (.int (nI (fi c)))) (fun h1 => h1[1]? = some (oB 1 (lC G (nI nb) (nI sp) (nI fa) (nI (ve + 1)))) ∧ h1[2]? = some (aI 20 (nA m)) ∧ h1[3]? = some (aI 20 (nA se)) ∧ h1[4]? = some (aI 4 (nA ye)) ∧ h1[5]? = some (aI 4 (nA (un fi c (fi c + 1)))) ∧ h1[6]? = some (aI 40 (upd W (c * 10 + fi c) w)) ∧ h1[7]? = some (aI 40 (upd Sn (c * 10 + fi c) (snF se w 20))) ∧ h1[8]? = some (aI 40 (upd Z (c * 10 + fi c) s)) ∧ h1[9]? = some (aI 40 (upd Ro (c * 10 + fi c) r)) ∧ h1[10]? = some (aI 40 (upd Co (c * 10 + fi c) u)) ∧ h1[11]? = some (aL 40 Ba) ∧ rng 1 11 h h1) := by
  refine cm_ofQ rfl (Nat.le_of_ble_eq_true rfl) [(0, .ref (G.1 + 1)), (1, .int (nI c)), (2, .int w), (3, .int s), (4, .int r), (5, .int u)] rfl (fun QF hQF => ?_)
  refine aw_aload_n 0 dX1_addEntry_0 rfl rfl ?_
  refine aw_get fX1_21 dX1_addEntry_1 h1 rfl ?_
  refine aw_iload_n 1 dX1_addEntry_4 rfl rfl ?_
  refine aw_iald c (rfl) (by omega) (by decide) dX1_addEntry_5 h5 ?_
  refine aw_toe (nI (fi c)) (rfl) ?_
  refine aw_istore [(6, .int (nI (fi c))), (0, .ref (G.1 + 1)), (1, .int (nI c)), (2, .int w), (3, .int s), (4, .int r), (5, .int u)] dX1_addEntry_6 (by decide) rfl ?_
  refine aw_iload_n 2 dX1_addEntry_8 rfl rfl ?_
  refine aw_bipush (10) dX1_addEntry_9 (by decide) ?_
  refine aw_imul dX1_addEntry_11 ?_
  refine aw_iload 0 dX1_addEntry_12 rfl ?_
  refine aw_iadd dX1_addEntry_14 ?_
  refine aw_toe (nI ((c * 10) + (fi c))) (nv_add (nv_mul (rfl) (rfl)) (rfl)) ?_
  refine aw_istore [(7, .int (nI ((c * 10) + (fi c)))), (6, .int (nI (fi c))), (0, .ref (G.1 + 1)), (1, .int (nI c)), (2, .int w), (3, .int s), (4, .int r), (5, .int u)] dX1_addEntry_15 (by decide) rfl ?_
  refine aw_aload_n 2 dX1_addEntry_17 rfl rfl ?_
  refine aw_get fX1_24 dX1_addEntry_18 h1 rfl ?_
  refine aw_iload 0 dX1_addEntry_21 rfl ?_
  refine aw_iload_n 4 dX1_addEntry_23 rfl rfl ?_
  refine aw_iast ((c * 10) + (fi c)) (rfl) (by omega) (by decide) dX1_addEntry_24 h6 ?_
  refine aw_aload_n 2 dX1_addEntry_25 rfl rfl ?_
  refine aw_get fX1_27 dX1_addEntry_26 (gn (by decide) (h1)) rfl ?_
  refine aw_iload 0 dX1_addEntry_29 rfl ?_
  refine aw_aload_n 2 dX1_addEntry_31 rfl rfl ?_
  refine aw_iload_n 4 dX1_addEntry_32 rfl rfl ?_
  refine aw_dV [.int w] [.int (nI ((c * 10) + (fi c))), .ref (G.1 + 7)] lX1_56 vX1_sensesOf mX1_sensesOf dX1_addEntry_33 (gX1_sensesOf (nb := nb) (sp := sp) (fa := fa) (w := w) (se := se) (gn (by decide) (h1)) (gn (by decide) (h3))) (gn (by decide) (h1)) rfl rfl rfl (Nat.le_of_ble_eq_true rfl) (by decide) (by decide) rfl ?_
  refine aw_iast ((c * 10) + (fi c)) (rfl) (by omega) (by decide) dX1_addEntry_36 (gn (by decide) (h7)) ?_
  refine aw_aload_n 2 dX1_addEntry_37 rfl rfl ?_
  refine aw_get fX1_30 dX1_addEntry_38 (gn (by decide) (gn (by decide) (h1))) rfl ?_
  refine aw_iload 0 dX1_addEntry_41 rfl ?_
  refine aw_iload_n 5 dX1_addEntry_43 rfl rfl ?_
  refine aw_iast ((c * 10) + (fi c)) (rfl) (by omega) (by decide) dX1_addEntry_44 (gn (by decide) (gn (by decide) (h8))) ?_
  refine aw_aload_n 2 dX1_addEntry_45 rfl rfl ?_
  refine aw_get fX1_33 dX1_addEntry_46 (gn (by decide) (gn (by decide) (gn (by decide) (h1)))) rfl ?_
  refine aw_iload 0 dX1_addEntry_49 rfl ?_
  refine aw_iload 6 dX1_addEntry_51 rfl ?_
  refine aw_iast ((c * 10) + (fi c)) (rfl) (by omega) (by decide) dX1_addEntry_53 (gn (by decide) (gn (by decide) (gn (by decide) (h9)))) ?_
  refine aw_aload_n 2 dX1_addEntry_54 rfl rfl ?_
  refine aw_get fX1_36 dX1_addEntry_55 (gn (by decide) (gn (by decide) (gn (by decide) (gn (by decide) (h1))))) rfl ?_
  refine aw_iload 0 dX1_addEntry_58 rfl ?_
  refine aw_iload 7 dX1_addEntry_60 rfl ?_
  refine aw_iast ((c * 10) + (fi c)) (rfl) (by omega) (by decide) dX1_addEntry_62 (gn (by decide) (gn (by decide) (gn (by decide) (gn (by decide) (h10))))) ?_
  refine aw_aload_n 2 dX1_addEntry_63 rfl rfl ?_
  refine aw_get fX1_21 dX1_addEntry_64 (gn (by decide) (gn (by decide) (gn (by decide) (gn (by decide) (gn (by decide) (h1)))))) rfl ?_
  refine aw_iload_n 3 dX1_addEntry_67 rfl rfl ?_
  refine aw_iload 1 dX1_addEntry_68 rfl ?_
  refine aw_iconst (1) dX1_addEntry_70 (by decide) ?_
  refine aw_iadd dX1_addEntry_71 ?_
  refine aw_toe (nI ((fi c) + 1)) (nv_add (rfl) (rfl)) ?_
  refine aw_iast c (rfl) (by omega) (by decide) dX1_addEntry_72 (gn (by decide) (gn (by decide) (gn (by decide) (gn (by decide) (gn (by decide) (h5)))))) ?_
  rw [nA_u (f := fi) (i := c) (x := (nI ((fi c) + 1))) (v := (fi c) + 1) (rfl)]
  refine aw_aload_n 2 dX1_addEntry_73 rfl rfl ?_
  refine aw_dup dX1_addEntry_74 rfl ?_
  refine aw_get fX1_53 dX1_addEntry_75 (gn (by decide) (gn (by decide) (gn (by decide) (gn (by decide) (gn (by decide) (gn (by decide) (h1))))))) rfl ?_
  refine aw_iconst (1) dX1_addEntry_78 (by decide) ?_
  refine aw_iadd dX1_addEntry_79 ?_
  refine aw_toe (nI (ve + 1)) (nv_add (rfl) (rfl)) ?_
  refine aw_putQ fX1_53 dX1_addEntry_80 (lC G (nI nb) (nI sp) (nI fa) (nI (ve + 1))) (gn (by decide) (gn (by decide) (gn (by decide) (gn (by decide) (gn (by decide) (gn (by decide) (h1))))))) rfl rfl rfl (Nat.le_of_ble_eq_true rfl) rfl ?_
  refine aw_iload 1 dX1_addEntry_83 rfl ?_
  subst hQF
  exact aw_iret rfl dX1_addEntry_85 (by decide) (by decide) ⟨rfl, (gs (gn (by decide) (gn (by decide) (gn (by decide) (gn (by decide) (gn (by decide) (gn (by decide) (h1)))))))), (gn (by decide) (gn (by decide) (gn (by decide) (gn (by decide) (gn (by decide) (gn (by decide) (gn (by decide) (h2)))))))), (gn (by decide) (gn (by decide) (gn (by decide) (gn (by decide) (gn (by decide) (gn (by decide) (gn (by decide) (h3)))))))), (gn (by decide) (gn (by decide) (gn (by decide) (gn (by decide) (gn (by decide) (gn (by decide) (gn (by decide) (h4)))))))), (gn (by decide) (gs (gn (by decide) (gn (by decide) (gn (by decide) (gn (by decide) (gn (by decide) (h5)))))))), (gn (by decide) (gn (by decide) (gn (by decide) (gn (by decide) (gn (by decide) (gn (by decide) (gs h6))))))), (gn (by decide) (gn (by decide) (gn (by decide) (gn (by decide) (gn (by decide) (gs (gn (by decide) (h7)))))))), (gn (by decide) (gn (by decide) (gn (by decide) (gn (by decide) (gs (gn (by decide) (gn (by decide) (h8)))))))), (gn (by decide) (gn (by decide) (gn (by decide) (gs (gn (by decide) (gn (by decide) (gn (by decide) (h9)))))))), (gn (by decide) (gn (by decide) (gs (gn (by decide) (gn (by decide) (gn (by decide) (gn (by decide) (h10)))))))), (gn (by decide) (gn (by decide) (gn (by decide) (gn (by decide) (gn (by decide) (gn (by decide) (gn (by decide) (h11)))))))), rng_set (rng_set (rng_set (rng_set (rng_set (rng_set (rng_set (rng_rf 1 11 h) (by decide) (by decide)) (by decide) (by decide)) (by decide) (by decide)) (by decide) (by decide)) (by decide) (by decide)) (by decide) (by decide)) (by decide) (by decide)⟩
set_option maxHeartbeats 4000000 in
theorem aX1_tellBar {l : Launch} {G : xG} {h : List va_E} {m se ye fi : Nat → Nat} {W Sn Z Ro Co : Nat → Int32} {Ba : Nat → Int64} {nb sp fa ve : Nat} {e f : Nat} (h1 : h[1]? = some (oB 1 (lC G (nI nb) (nI sp) (nI fa) (nI ve)))) (h2 : h[2]? = some (aI 20 (nA m))) (h3 : h[3]? = some (aI 20 (nA se))) (h4 : h[4]? = some (aI 4 (nA ye))) (h5 : h[5]? = some (aI 4 (nA fi))) (h6 : h[6]? = some (aI 40 W)) (h7 : h[7]? = some (aI 40 Sn)) (h8 : h[8]? = some (aI 40 Z)) (h9 : h[9]? = some (aI 40 Ro)) (h10 : h[10]? = some (aI 40 Co)) (h11 : h[11]? = some (aL 40 Ba)) (be : e < 40) (bf : f < 40) : CE l G yX1_tellBar cX1_tellBar 3 none 0 0 0 [.ref (G.1 + 1), .int (nI e), .int (nI f)] h none (fun h1 => h1[1]? = some (oB 1 (lC G (nI (nb + 1)) (nI sp) (nI fa) (nI (ve + 1)))) ∧ h1[2]? = some (aI 20 (nA m)) ∧ h1[3]? = some (aI 20 (nA se)) ∧ h1[4]? = some (aI 4 (nA ye)) ∧ h1[5]? = some (aI 4 (nA fi)) ∧ h1[6]? = some (aI 40 W) ∧ h1[7]? = some (aI 40 Sn) ∧ h1[8]? = some (aI 40 Z) ∧ h1[9]? = some (aI 40 Ro) ∧ h1[10]? = some (aI 40 Co) ∧ h1[11]? = some (aL 40 (vp_updL (vp_updL Ba e (Ba e ||| 1 <<< ((nI f).toInt64 &&& 63))) f (vp_updL Ba e (Ba e ||| 1 <<< ((nI f).toInt64 &&& 63)) f ||| 1 <<< ((nI e).toInt64 &&& 63)))) ∧ rng 1 11 h h1) := by
  refine cm_ofQ rfl (Nat.le_of_ble_eq_true rfl) [(0, .ref (G.1 + 1)), (1, .int (nI e)), (2, .int (nI f))] rfl (fun QF hQF => ?_)
  refine aw_aload_n 0 dX1_tellBar_0 rfl rfl ?_
  refine aw_get fX1_39 dX1_tellBar_1 h1 rfl ?_
  refine aw_iload_n 1 dX1_tellBar_4 rfl rfl ?_
  refine aw_dup2 dX1_tellBar_5 rfl rfl ?_
  refine aw_lald e (rfl) (by omega) (by decide) dX1_tellBar_6 h11 ?_
  refine aw_lconst 1 dX1_tellBar_7 (by decide) ?_
  refine aw_iload_n 2 dX1_tellBar_8 rfl rfl ?_
  refine aw_lshl _ dX1_tellBar_9 rfl ?_
  refine aw_lor dX1_tellBar_10 ?_
  refine aw_last e (rfl) (by omega) (by decide) dX1_tellBar_11 h11 ?_
  refine aw_aload_n 0 dX1_tellBar_12 rfl rfl ?_
  refine aw_get fX1_39 dX1_tellBar_13 (gn (by decide) (h1)) rfl ?_
  refine aw_iload_n 2 dX1_tellBar_16 rfl rfl ?_
  refine aw_dup2 dX1_tellBar_17 rfl rfl ?_
  refine aw_lald f (rfl) (by omega) (by decide) dX1_tellBar_18 (gs h11) ?_
  refine aw_lconst 1 dX1_tellBar_19 (by decide) ?_
  refine aw_iload_n 1 dX1_tellBar_20 rfl rfl ?_
  refine aw_lshl _ dX1_tellBar_21 rfl ?_
  refine aw_lor dX1_tellBar_22 ?_
  refine aw_last f (rfl) (by omega) (by decide) dX1_tellBar_23 (gs h11) ?_
  refine aw_aload_n 0 dX1_tellBar_24 rfl rfl ?_
  refine aw_dup dX1_tellBar_25 rfl ?_
  refine aw_get fX1_43 dX1_tellBar_26 (gn (by decide) (gn (by decide) (h1))) rfl ?_
  refine aw_iconst (1) dX1_tellBar_29 (by decide) ?_
  refine aw_iadd dX1_tellBar_30 ?_
  refine aw_toe (nI (nb + 1)) (nv_add (rfl) (rfl)) ?_
  refine aw_putQ fX1_43 dX1_tellBar_31 (lC G (nI (nb + 1)) (nI sp) (nI fa) (nI ve)) (gn (by decide) (gn (by decide) (h1))) rfl rfl rfl (Nat.le_of_ble_eq_true rfl) rfl ?_
  refine aw_aload_n 0 dX1_tellBar_34 rfl rfl ?_
  refine aw_dup dX1_tellBar_35 rfl ?_
  refine aw_get fX1_53 dX1_tellBar_36 (gs (gn (by decide) (gn (by decide) (h1)))) rfl ?_
  refine aw_iconst (1) dX1_tellBar_39 (by decide) ?_
  refine aw_iadd dX1_tellBar_40 ?_
  refine aw_toe (nI (ve + 1)) (nv_add (rfl) (rfl)) ?_
  refine aw_putQ fX1_53 dX1_tellBar_41 (lC G (nI (nb + 1)) (nI sp) (nI fa) (nI (ve + 1))) (gs (gn (by decide) (gn (by decide) (h1)))) rfl rfl rfl (Nat.le_of_ble_eq_true rfl) rfl ?_
  subst hQF
  exact aw_vret rfl dX1_tellBar_44 (by decide) (by decide) ⟨rfl, (gs (gs (gn (by decide) (gn (by decide) (h1))))), (gn (by decide) (gn (by decide) (gn (by decide) (gn (by decide) (h2))))), (gn (by decide) (gn (by decide) (gn (by decide) (gn (by decide) (h3))))), (gn (by decide) (gn (by decide) (gn (by decide) (gn (by decide) (h4))))), (gn (by decide) (gn (by decide) (gn (by decide) (gn (by decide) (h5))))), (gn (by decide) (gn (by decide) (gn (by decide) (gn (by decide) (h6))))), (gn (by decide) (gn (by decide) (gn (by decide) (gn (by decide) (h7))))), (gn (by decide) (gn (by decide) (gn (by decide) (gn (by decide) (h8))))), (gn (by decide) (gn (by decide) (gn (by decide) (gn (by decide) (h9))))), (gn (by decide) (gn (by decide) (gn (by decide) (gn (by decide) (h10))))), (gn (by decide) (gn (by decide) (gs (gs h11)))), rng_set (rng_set (rng_set (rng_set (rng_rf 1 11 h) (by decide) (by decide)) (by decide) (by decide)) (by decide) (by decide)) (by decide) (by decide)⟩
theorem aX1_isBarTold {l : Launch} {G : xG} {h : List va_E} {m se ye fi : Nat → Nat} {W Sn Z Ro Co : Nat → Int32} {Ba : Nat → Int64} {nb sp fa ve : Nat} {e f : Nat} (h1 : h[1]? = some (oB 1 (lC G (nI nb) (nI sp) (nI fa) (nI ve)))) (h2 : h[2]? = some (aI 20 (nA m))) (h3 : h[3]? = some (aI 20 (nA se))) (h4 : h[4]? = some (aI 4 (nA ye))) (h5 : h[5]? = some (aI 4 (nA fi))) (h6 : h[6]? = some (aI 40 W)) (h7 : h[7]? = some (aI 40 Sn)) (h8 : h[8]? = some (aI 40 Z)) (h9 : h[9]? = some (aI 40 Ro)) (h10 : h[10]? = some (aI 40 Co)) (h11 : h[11]? = some (aL 40 Ba)) (hm : ∀ j, j < 20 → m j ≤ j) (hse : ∀ j, j < 20 → se j < 20) (hfi : ∀ j, j < 4 → fi j < 11) (hye : ∀ j, j < 4 → ye j < 1901) (be : e < 40) (bf : f < 40) : CD l G yX1_isBarTold cX1_isBarTold 3 (some .boolean) 0 0 0 [.ref (G.1 + 1), .int (nI e), .int (nI f)] h (some (.int (barF Ba e (nI f)))) h :=
  gX1_isBarTold ⟨h1, h2, h3, h4, h5, h6, h7, h8, h9, h10, h11⟩ hm hse hfi hye rfl be rfl bf
theorem aX1_isSameText {l : Launch} {G : xG} {h : List va_E} {m se ye fi : Nat → Nat} {W Sn Z Ro Co : Nat → Int32} {Ba : Nat → Int64} {nb sp fa ve : Nat} {e f : Nat} (h1 : h[1]? = some (oB 1 (lC G (nI nb) (nI sp) (nI fa) (nI ve)))) (h2 : h[2]? = some (aI 20 (nA m))) (h3 : h[3]? = some (aI 20 (nA se))) (h4 : h[4]? = some (aI 4 (nA ye))) (h5 : h[5]? = some (aI 4 (nA fi))) (h6 : h[6]? = some (aI 40 W)) (h7 : h[7]? = some (aI 40 Sn)) (h8 : h[8]? = some (aI 40 Z)) (h9 : h[9]? = some (aI 40 Ro)) (h10 : h[10]? = some (aI 40 Co)) (h11 : h[11]? = some (aL 40 Ba)) (hm : ∀ j, j < 20 → m j ≤ j) (hse : ∀ j, j < 20 → se j < 20) (hfi : ∀ j, j < 4 → fi j < 11) (hye : ∀ j, j < 4 → ye j < 1901) (be : e < 40) (bf : f < 40) : CD l G yX1_isSameText cX1_isSameText 3 (some .boolean) 0 0 0 [.ref (G.1 + 1), .int (nI e), .int (nI f)] h (some (.int (if (W e = W f ∧ Z e = Z f) then 1 else 0))) h :=
  gX1_isSameText ⟨h1, h2, h3, h4, h5, h6, h7, h8, h9, h10, h11⟩ hm hse hfi hye rfl be rfl bf
theorem aX1_likeness {l : Launch} {G : xG} {h : List va_E} {m se ye fi : Nat → Nat} {W Sn Z Ro Co : Nat → Int32} {Ba : Nat → Int64} {nb sp fa ve : Nat} {e f : Nat} (h1 : h[1]? = some (oB 1 (lC G (nI nb) (nI sp) (nI fa) (nI ve)))) (h2 : h[2]? = some (aI 20 (nA m))) (h3 : h[3]? = some (aI 20 (nA se))) (h4 : h[4]? = some (aI 4 (nA ye))) (h5 : h[5]? = some (aI 4 (nA fi))) (h6 : h[6]? = some (aI 40 W)) (h7 : h[7]? = some (aI 40 Sn)) (h8 : h[8]? = some (aI 40 Z)) (h9 : h[9]? = some (aI 40 Ro)) (h10 : h[10]? = some (aI 40 Co)) (h11 : h[11]? = some (aL 40 Ba)) (hm : ∀ j, j < 20 → m j ≤ j) (hse : ∀ j, j < 20 → se j < 20) (hfi : ∀ j, j < 4 → fi j < 11) (hye : ∀ j, j < 4 → ye j < 1901) (be : e < 40) (bf : f < 40) : CD l G yX1_likeness cX1_likeness 6 (some .int) 1 0 0 [.ref (G.1 + 1), .int (nI e), .int (nI f)] h (some (.int (likeC ye Sn Z Ro Co Ba sp fa e f))) h :=
  gX1_likeness ⟨h1, h2, h3, h4, h5, h6, h7, h8, h9, h10, h11⟩ hm hse hfi hye rfl be rfl bf
set_option maxHeartbeats 4000000 in
theorem aX1_tellMeaning {l : Launch} {G : xG} {h : List va_E} {m se ye fi : Nat → Nat} {W Sn Z Ro Co : Nat → Int32} {Ba : Nat → Int64} {nb sp fa ve : Nat} {w o : Nat} (h1 : h[1]? = some (oB 1 (lC G (nI nb) (nI sp) (nI fa) (nI ve)))) (h2 : h[2]? = some (aI 20 (nA m))) (h3 : h[3]? = some (aI 20 (nA se))) (h4 : h[4]? = some (aI 4 (nA ye))) (h5 : h[5]? = some (aI 4 (nA fi))) (h6 : h[6]? = some (aI 40 W)) (h7 : h[7]? = some (aI 40 Sn)) (h8 : h[8]? = some (aI 40 Z)) (h9 : h[9]? = some (aI 40 Ro)) (h10 : h[10]? = some (aI 40 Co)) (h11 : h[11]? = some (aL 40 Ba)) (hm : ∀ j, j < 20 → m j ≤ j) (bw : w < 20) (bo : o ≤ w) : CE l G yX1_tellMeaning cX1_tellMeaning 5 (some .int) 1 0 0 [.ref (G.1 + 1), .int (nI w), .int (nI o)] h (some (.int (nI (m w)))) (fun h1 => ∃ se1 : Nat → Nat, ∃ Sn1 : Nat → Int32, h1[1]? = some (oB 1 (lC G (nI nb) (nI sp) (nI fa) (nI (ve + 1)))) ∧ h1[2]? = some (aI 20 (nA (un m w o))) ∧ h1[3]? = some (aI 20 (nA se1)) ∧ h1[4]? = some (aI 4 (nA ye)) ∧ h1[5]? = some (aI 4 (nA fi)) ∧ h1[6]? = some (aI 40 W) ∧ h1[7]? = some (aI 40 Sn1) ∧ h1[8]? = some (aI 40 Z) ∧ h1[9]? = some (aI 40 Ro) ∧ h1[10]? = some (aI 40 Co) ∧ h1[11]? = some (aL 40 Ba) ∧ rng 1 11 h h1 ∧ (∀ j, j < 20 → se1 j = root (un m w o) j) ∧ (∀ j, j < 40 → Sn1 j = snF se1 (W j) 20)) := by
  refine cm_ofQ rfl (Nat.le_of_ble_eq_true rfl) [(0, .ref (G.1 + 1)), (1, .int (nI w)), (2, .int (nI o))] rfl (fun QF hQF => ?_)
  refine aw_aload_n 0 dX1_tellMeaning_0 rfl rfl ?_
  refine aw_get fX1_9 dX1_tellMeaning_1 h1 rfl ?_
  refine aw_iload_n 1 dX1_tellMeaning_4 rfl rfl ?_
  refine aw_iald w (rfl) (by omega) (by decide) dX1_tellMeaning_5 h2 ?_
  refine aw_toe (nI (m w)) (rfl) ?_
  refine aw_istore_n [(3, .int (nI (m w))), (0, .ref (G.1 + 1)), (1, .int (nI w)), (2, .int (nI o))] dX1_tellMeaning_6 rfl (by decide) rfl ?_
  refine aw_aload_n 1 dX1_tellMeaning_7 rfl rfl ?_
  refine aw_get fX1_9 dX1_tellMeaning_8 h1 rfl ?_
  refine aw_iload_n 2 dX1_tellMeaning_11 rfl rfl ?_
  refine aw_iload_n 3 dX1_tellMeaning_12 rfl rfl ?_
  refine aw_iast w (rfl) (by omega) (by decide) dX1_tellMeaning_13 h2 ?_
  rw [nA_u (f := m) (i := w) (x := (nI o)) (v := o) (rfl)]
  refine aw_iconst (0) dX1_tellMeaning_14 (by decide) ?_
  refine aw_istore [(4, .int 0), (3, .int (nI (m w))), (0, .ref (G.1 + 1)), (1, .int (nI w)), (2, .int (nI o))] dX1_tellMeaning_15 (by decide) rfl ?_
  refine aw_lv [(4, .int 0), (3, .int (nI (m w))), (2, .int (nI o)), (1, .int (nI w)), (0, .ref (G.1 + 1))] [0, 1, 4, 3, 2] rfl ?_
  suffices L14 : ∀ (mm : Nat) (i : Nat) (s1 : Nat → Nat) (h1 : List va_E), 20 - i < mm → (i ≤ 20) → (∀ j, j < i → s1 j = root (un m w o) j) → h1[1]? = some (oB 1 (lC G (nI nb) (nI sp) (nI fa) (nI ve))) → h1[2]? = some (aI 20 (nA (un m w o))) → h1[3]? = some (aI 20 (nA s1)) → h1[4]? = some (aI 4 (nA ye)) → h1[5]? = some (aI 4 (nA fi)) → h1[6]? = some (aI 40 W) → h1[7]? = some (aI 40 Sn) → h1[8]? = some (aI 40 Z) → h1[9]? = some (aI 40 Ro) → h1[10]? = some (aI 40 Co) → h1[11]? = some (aL 40 Ba) → rng 1 11 h h1 → AW l G yX1_tellMeaning cX1_tellMeaning 5 (some .int) (xR 1 0 0) (fun _ _ => True) QF 0 0 17 [(4, .int (nI i)), (3, .int (nI (m w))), (2, .int (nI o)), (1, .int (nI w)), (0, .ref (G.1 + 1))] [] h1 from L14 (20 - 0 + 1) 0 se _ (Nat.lt_succ_self _) (Nat.zero_le _) (fun j hj => absurd hj (by omega)) (gn (by decide) (h1)) (gs h2) (gn (by decide) (h3)) (gn (by decide) (h4)) (gn (by decide) (h5)) (gn (by decide) (h6)) (gn (by decide) (h7)) (gn (by decide) (h8)) (gn (by decide) (h9)) (gn (by decide) (h10)) (gn (by decide) (h11)) (rng_set (rng_rf 1 11 h) (by decide) (by decide))
  intro mm
  induction mm with
  | zero =>
    intro i s1 h1 hmm hi hr f2 f3 f4 f5 f6 f7 f8 f9 f10 f11 f12 k13
    exact absurd hmm (Nat.not_lt_zero _)
  | succ mm ih14 =>
    intro i s1 h1 hmm hi hr f2 f3 f4 f5 f6 f7 f8 f9 f10 f11 f12 k13
    have hmu : ∀ j, j < 20 → un m w o j ≤ j := by
      intro j hj
      by_cases e : j = w
      · rw [e, un_s]; omega
      · rw [un_n e]; exact hm j hj
    refine aw_iload 0 dX1_tellMeaning_17 rfl ?_
    refine aw_bipush (20) dX1_tellMeaning_19 (by decide) ?_
    refine aw_icmp_ge 66 dX1_tellMeaning_21 (by decide) (fun c21 => ?_) (fun c21 => ?_)
    · have d21 := (nv_le (a := 20) (b := i) (rfl) (rfl) (by omega) (by omega)).mp c21
      refine aw_iconst (0) dX1_tellMeaning_66 (by decide) ?_
      refine aw_istore [(4, .int 0), (3, .int (nI (m w))), (2, .int (nI o)), (1, .int (nI w)), (0, .ref (G.1 + 1))] dX1_tellMeaning_67 (by decide) rfl ?_
      have e20 : i = 20 := by omega
      subst e20
      refine aw_lv [(4, .int 0), (3, .int (nI (m w))), (2, .int (nI o)), (1, .int (nI w)), (0, .ref (G.1 + 1))] [0, 1, 2, 3, 4] rfl ?_
      suffices L28 : ∀ (mm : Nat) (e : Nat) (S1 : Nat → Int32) (h15 : List va_E), 40 - e < mm → (e ≤ 40) → (∀ j, j < e → S1 j = snF s1 (W j) 20) → h15[1]? = some (oB 1 (lC G (nI nb) (nI sp) (nI fa) (nI ve))) → h15[2]? = some (aI 20 (nA (un m w o))) → h15[3]? = some (aI 20 (nA s1)) → h15[4]? = some (aI 4 (nA ye)) → h15[5]? = some (aI 4 (nA fi)) → h15[6]? = some (aI 40 W) → h15[7]? = some (aI 40 S1) → h15[8]? = some (aI 40 Z) → h15[9]? = some (aI 40 Ro) → h15[10]? = some (aI 40 Co) → h15[11]? = some (aL 40 Ba) → rng 1 11 h h15 → AW l G yX1_tellMeaning cX1_tellMeaning 5 (some .int) (xR 1 0 0) (fun _ _ => True) QF 0 0 69 [(4, .int (nI e)), (3, .int (nI (m w))), (2, .int (nI o)), (1, .int (nI w)), (0, .ref (G.1 + 1))] [] h15 from L28 (40 - 0 + 1) 0 Sn _ (Nat.lt_succ_self _) (Nat.zero_le _) (fun j hj => absurd hj (by omega)) f2 f3 f4 f5 f6 f7 f8 f9 f10 f11 f12 (k13)
      intro mm
      induction mm with
      | zero =>
        intro e S1 h15 hmm he hS f16 f17 f18 f19 f20 f21 f22 f23 f24 f25 f26 k27
        exact absurd hmm (Nat.not_lt_zero _)
      | succ mm ih28 =>
        intro e S1 h15 hmm he hS f16 f17 f18 f19 f20 f21 f22 f23 f24 f25 f26 k27
        refine aw_iload 0 dX1_tellMeaning_69 rfl ?_
        refine aw_aload_n 4 dX1_tellMeaning_71 rfl rfl ?_
        refine aw_get fX1_24 dX1_tellMeaning_72 f16 rfl ?_
        refine aw_alen (40) dX1_tellMeaning_75 f21 rfl rfl ?_
        refine aw_icmp_ge 103 dX1_tellMeaning_76 (by decide) (fun c76 => ?_) (fun c76 => ?_)
        · have d76 := (nv_le (a := 40) (b := e) (rfl) (rfl) (by omega) (by omega)).mp c76
          refine aw_aload_n 4 dX1_tellMeaning_103 rfl rfl ?_
          refine aw_dup dX1_tellMeaning_104 rfl ?_
          refine aw_get fX1_53 dX1_tellMeaning_105 f16 rfl ?_
          refine aw_iconst (1) dX1_tellMeaning_108 (by decide) ?_
          refine aw_iadd dX1_tellMeaning_109 ?_
          refine aw_toe (nI (ve + 1)) (nv_add (rfl) (rfl)) ?_
          refine aw_putQ fX1_53 dX1_tellMeaning_110 (lC G (nI nb) (nI sp) (nI fa) (nI (ve + 1))) f16 rfl rfl rfl (Nat.le_of_ble_eq_true rfl) rfl ?_
          refine aw_iload_n 1 dX1_tellMeaning_113 rfl rfl ?_
          subst hQF
          exact aw_iret rfl dX1_tellMeaning_114 (by decide) (by decide) ⟨rfl, _, _, (gs f16), (gn (by decide) (f17)), (gn (by decide) (f18)), (gn (by decide) (f19)), (gn (by decide) (f20)), (gn (by decide) (f21)), (gn (by decide) (f22)), (gn (by decide) (f23)), (gn (by decide) (f24)), (gn (by decide) (f25)), (gn (by decide) (f26)), rng_set (k27) (by decide) (by decide), hr, by rw [show 40 = e by omega]; exact hS⟩
        · have d76 := mt (nv_le (a := 40) (b := e) (rfl) (rfl) (by omega) (by omega)).mpr c76
          refine aw_aload_n 4 dX1_tellMeaning_79 rfl rfl ?_
          refine aw_get fX1_27 dX1_tellMeaning_80 f16 rfl ?_
          refine aw_iload 0 dX1_tellMeaning_83 rfl ?_
          refine aw_aload_n 4 dX1_tellMeaning_85 rfl rfl ?_
          refine aw_aload_n 4 dX1_tellMeaning_86 rfl rfl ?_
          refine aw_get fX1_24 dX1_tellMeaning_87 f16 rfl ?_
          refine aw_iload 0 dX1_tellMeaning_90 rfl ?_
          refine aw_iald e (rfl) (by omega) (by decide) dX1_tellMeaning_92 f21 ?_
          refine aw_dV [.int (W e)] [.int (nI e), .ref (G.1 + 7)] lX1_56 vX1_sensesOf mX1_sensesOf dX1_tellMeaning_93 (gX1_sensesOf (nb := nb) (sp := sp) (fa := fa) (w := W e) (se := s1) f16 f18) f16 rfl rfl rfl (Nat.le_of_ble_eq_true rfl) (by decide) (by decide) rfl ?_
          refine aw_iast e (rfl) (by omega) (by decide) dX1_tellMeaning_96 f22 ?_
          refine aw_iinc (j := 0) (nI (e + 1)) [(4, .int (nI (e + 1))), (3, .int (nI (m w))), (2, .int (nI o)), (1, .int (nI w)), (0, .ref (G.1 + 1))] dX1_tellMeaning_97 rfl (nv_inc (rfl)) (by decide) rfl ?_
          refine aw_goto 69 dX1_tellMeaning_100 (by decide) ?_
          refine aw_lv [(4, .int (nI (e + 1))), (3, .int (nI (m w))), (2, .int (nI o)), (1, .int (nI w)), (0, .ref (G.1 + 1))] [0, 1, 2, 3, 4] rfl ?_
          exact ih28 (e + 1) (upd S1 e (snF s1 (W e) 20)) _ (by omega) (by omega) (fun j hj => by
              by_cases hji : j = e
              · rw [hji]; simp [upd]
              · simp only [upd, if_neg hji]; exact hS j (by omega)) (gn (by decide) (f16)) (gn (by decide) (f17)) (gn (by decide) (f18)) (gn (by decide) (f19)) (gn (by decide) (f20)) (gn (by decide) (f21)) (gs f22) (gn (by decide) (f23)) (gn (by decide) (f24)) (gn (by decide) (f25)) (gn (by decide) (f26)) (rng_set (k27) (by decide) (by decide))
    · have d21 := mt (nv_le (a := 20) (b := i) (rfl) (rfl) (by omega) (by omega)).mpr c21
      refine aw_aload_n 4 dX1_tellMeaning_24 rfl rfl ?_
      refine aw_get fX1_15 dX1_tellMeaning_25 f2 rfl ?_
      refine aw_iload 0 dX1_tellMeaning_28 rfl ?_
      refine aw_aload_n 4 dX1_tellMeaning_30 rfl rfl ?_
      refine aw_get fX1_9 dX1_tellMeaning_31 f2 rfl ?_
      refine aw_iload 0 dX1_tellMeaning_34 rfl ?_
      refine aw_iald i (rfl) (by omega) (by decide) dX1_tellMeaning_36 f3 ?_
      refine aw_toe (nI ((un m w o) i)) (rfl) ?_
      have b29 := hmu i (by omega)
      refine aw_iload 0 dX1_tellMeaning_37 rfl ?_
      refine aw_icmp_ne 47 dX1_tellMeaning_39 (by decide) (fun c39 => ?_) (fun c39 => ?_)
      · have d39 := mt (nv_eq (a := (un m w o) i) (b := i) (rfl) (rfl) (by omega) (by omega)).mpr c39
        refine aw_aload_n 4 dX1_tellMeaning_47 rfl rfl ?_
        refine aw_get fX1_15 dX1_tellMeaning_48 f2 rfl ?_
        refine aw_aload_n 4 dX1_tellMeaning_51 rfl rfl ?_
        refine aw_get fX1_9 dX1_tellMeaning_52 f2 rfl ?_
        refine aw_iload 0 dX1_tellMeaning_55 rfl ?_
        refine aw_iald i (rfl) (by omega) (by decide) dX1_tellMeaning_57 f3 ?_
        refine aw_toe (nI ((un m w o) i)) (rfl) ?_
        have b30 := hmu i (by omega)
        refine aw_iald ((un m w o) i) (rfl) (by omega) (by decide) dX1_tellMeaning_58 f4 ?_
        refine aw_toe (nI (s1 ((un m w o) i))) (rfl) ?_
        refine aw_iast i (rfl) (by omega) (by decide) dX1_tellMeaning_59 f4 ?_
        rw [nA_u (f := s1) (i := i) (x := (nI (s1 ((un m w o) i)))) (v := s1 ((un m w o) i)) (rfl)]
        refine aw_iinc (j := 0) (nI (i + 1)) [(4, .int (nI (i + 1))), (3, .int (nI (m w))), (2, .int (nI o)), (1, .int (nI w)), (0, .ref (G.1 + 1))] dX1_tellMeaning_60 rfl (nv_inc (rfl)) (by decide) rfl ?_
        refine aw_goto 17 dX1_tellMeaning_63 (by decide) ?_
        refine aw_lv [(4, .int (nI (i + 1))), (3, .int (nI (m w))), (2, .int (nI o)), (1, .int (nI w)), (0, .ref (G.1 + 1))] [0, 1, 2, 3, 4] rfl ?_
        exact ih14 (i + 1) (un s1 i (s1 ((un m w o) i))) _ (by omega) (by omega) (fun j hj => by
            by_cases hji : j = i
            · have hlt : un m w o i < i := by omega
              rw [hji, un_s, root_st hlt]; exact hr _ hlt
            · rw [un_n hji]; exact hr j (by omega)) (gn (by decide) (f2)) (gn (by decide) (f3)) (gs f4) (gn (by decide) (f5)) (gn (by decide) (f6)) (gn (by decide) (f7)) (gn (by decide) (f8)) (gn (by decide) (f9)) (gn (by decide) (f10)) (gn (by decide) (f11)) (gn (by decide) (f12)) (rng_set (k13) (by decide) (by decide))
      · have d39 := (nv_eq (a := (un m w o) i) (b := i) (rfl) (rfl) (by omega) (by omega)).mp c39
        refine aw_iload 0 dX1_tellMeaning_42 rfl ?_
        refine aw_goto 59 dX1_tellMeaning_44 (by decide) ?_
        refine aw_iast i (rfl) (by omega) (by decide) dX1_tellMeaning_59 f4 ?_
        rw [nA_u (f := s1) (i := i) (x := (nI i)) (v := i) (rfl)]
        refine aw_iinc (j := 0) (nI (i + 1)) [(4, .int (nI (i + 1))), (3, .int (nI (m w))), (2, .int (nI o)), (1, .int (nI w)), (0, .ref (G.1 + 1))] dX1_tellMeaning_60 rfl (nv_inc (rfl)) (by decide) rfl ?_
        refine aw_goto 17 dX1_tellMeaning_63 (by decide) ?_
        refine aw_lv [(4, .int (nI (i + 1))), (3, .int (nI (m w))), (2, .int (nI o)), (1, .int (nI w)), (0, .ref (G.1 + 1))] [0, 1, 2, 3, 4] rfl ?_
        exact ih14 (i + 1) (un s1 i i) _ (by omega) (by omega) (fun j hj => by
            by_cases hji : j = i
            · rw [hji, un_s, root_fix (by omega)]
            · rw [un_n hji]; exact hr j (by omega)) (gn (by decide) (f2)) (gn (by decide) (f3)) (gs f4) (gn (by decide) (f5)) (gn (by decide) (f6)) (gn (by decide) (f7)) (gn (by decide) (f8)) (gn (by decide) (f9)) (gn (by decide) (f10)) (gn (by decide) (f11)) (gn (by decide) (f12)) (rng_set (k13) (by decide) (by decide))
