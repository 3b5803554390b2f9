theorem law_sub {L : Nat} (h : L ≤ 3072) : (nI L - 6).toInt = (L : Int) - 6 := by
  rcases Nat.lt_or_ge L 6 with q | q
  · rcases (by omega : L = 0 ∨ L = 1 ∨ L = 2 ∨ L = 3 ∨ L = 4 ∨ L = 5) with e | e | e | e | e | e <;> subst e <;> decide
  · rw [show nI L - 6 = nI (L - 6) from nv_sub rfl rfl q, nI_toInt (by omega)]; omega
theorem law_gt {L c : Nat} (h : L < 6 * c + 6) (hL : L ≤ 3072) (hc : c ≤ 512) : nI L - 6 < nI (6 * c) := by
  rw [Int32.lt_iff_toInt_lt, law_sub hL, nI_toInt (by omega)]; omega
theorem law_le {L c : Nat} (h : 6 * c + 6 ≤ L) (hL : L ≤ 3072) : ¬ nI L - 6 < nI (6 * c) := by
  rw [Int32.lt_iff_toInt_lt, law_sub hL, nI_toInt (by omega)]; omega
theorem InvX_s {G : xG} {m ye fi : Nat → Nat} {W Z Ro Co : Nat → Int32} {sp fa nb : Nat} {b1 b2 th1 ot1 dy1 so1 kn1 go1 : Nat → Nat} {n1 : Nat} {th2 ot2 dy2 so2 kn2 go2 : Nat → Nat} {n2 : Nat} {so3 xx3 yy3 tr3 : Nat → Nat} {n3 : Nat} {kd fo : Nat → Nat} {c : Nat} {oJ oS : Option Nat} {h : List va_E} (I : InvX G m ye fi W Z Ro Co sp fa nb b1 b2 th1 ot1 dy1 so1 kn1 go1 n1 th2 ot2 dy2 so2 kn2 go2 n2 so3 xx3 yy3 tr3 n3 kd fo c oJ oS h) : InvX G m ye fi W Z Ro Co sp fa nb b1 b2 th1 ot1 dy1 so1 kn1 go1 n1 th2 ot2 dy2 so2 kn2 go2 n2 so3 xx3 yy3 tr3 n3 kd fo (c + 1) oJ oS h := by
  obtain ⟨ve, se, Sn, Ba, od1, wd1, od2, wd2, l0, o0, w0, z0, LE0, cn, rf, h0, h1, h2, h3, h4, h5, h6, h7, h8, h9, h10, h11, h12, h61, h62, h63, h64, h65, h66, h67, h68, h69, h70, h71, h72, h73, h74, h75, h76, h77, h78, h79, h80, h81, h82, h83, h84, h85, h86, h87, hr, hS, hBR, hve, hod1, hod2, hln, hcJ, hcS, hdJ⟩ := I
  exact ⟨ve, se, Sn, Ba, od1, wd1, od2, wd2, l0, o0, w0, z0, LE0, cn, rf, h0, h1, h2, h3, h4, h5, h6, h7, h8, h9, h10, h11, h12, h61, h62, h63, h64, h65, h66, h67, h68, h69, h70, h71, h72, h73, h74, h75, h76, h77, h78, h79, h80, h81, h82, h83, h84, h85, h86, h87, hr, hS, hBR, ⟨hve.1, by omega⟩, hod1, hod2, hln, hcJ, hcS, hdJ⟩
set_option maxHeartbeats 4000000 in
theorem law_loop {l : Launch} {G : xG} {b L : Nat} {xs : Nat → Int32} (hL : L ≤ 3072) : ∀ (q c : Nat), c + q = 512 → LawK l G b L xs c := by
  intro q
  induction q with
  | zero =>
    intro c hc m ye fi W Z Ro Co sp fa nb b1 b2 th1 ot1 dy1 so1 kn1 go1 n1 th2 ot2 dy2 so2 kn2 go2 n2 so3 xx3 yy3 tr3 n3 kd fo oJ oS h O I M
    have bJ := bO1 (o := oJ)
    refine aw_iload_n 0 dL_law_18 rfl rfl ?_
    refine aw_aload_n 3 dL_law_19 rfl rfl ?_
    refine aw_slen dL_law_20 ?_
    refine aw_bipush (6) dL_law_21 (by decide) ?_
    refine aw_isub dL_law_23 ?_
    refine aw_icmp_gt 1349 dL_law_24 (by decide) (fun c24 => law_end (by omega) (by omega)) (fun c24 => absurd c24 (not_not_intro ?_))
    exact law_gt (by omega) hL (by omega)
  | succ q ih =>
    intro c hc m ye fi W Z Ro Co sp fa nb b1 b2 th1 ot1 dy1 so1 kn1 go1 n1 th2 ot2 dy2 so2 kn2 go2 n2 so3 xx3 yy3 tr3 n3 kd fo oJ oS h O I M
    have bJ := bO1 (o := oJ)
    by_cases hi : 6 * c + 6 ≤ L
    · refine aw_iload_n 0 dL_law_18 rfl rfl ?_
      refine aw_aload_n 3 dL_law_19 rfl rfl ?_
      refine aw_slen dL_law_20 ?_
      refine aw_bipush (6) dL_law_21 (by decide) ?_
      refine aw_isub dL_law_23 ?_
      refine aw_icmp_gt 1349 dL_law_24 (by decide) (fun c24 => absurd c24 (law_le hi hL)) (fun c24 => ?_)
      refine aw_aload_n 3 dL_law_27 rfl rfl ?_
      refine aw_iload_n 0 dL_law_28 rfl rfl ?_
      refine aw_sld (6 * c) rfl (by omega) (by omega) dL_law_29 ?_
      refine aw_bipush (31) dL_law_30 (by decide) ?_
      refine aw_iand dL_law_32 ?_
      obtain ⟨j, hj, ej⟩ := pk_andE (xs (6 * c)) (m := 31) 5 rfl
      refine aw_toe (nI j) ej ?_
      have Kn := ih (c + 1) (by omega)
      match j, hj with
      | 0, _ => exact aw_tableIn 164 dL_law_33 (by decide) (by decide) rfl (by decide) (law_0 hL hi Kn O I M)
      | 1, _ => exact aw_tableIn 197 dL_law_33 (by decide) (by decide) rfl (by decide) (law_1 hL hi Kn O I M)
      | 2, _ => exact aw_tableIn 220 dL_law_33 (by decide) (by decide) rfl (by decide) (law_2 hL hi Kn O I M)
      | 3, _ => exact aw_tableIn 253 dL_law_33 (by decide) (by decide) rfl (by decide) (law_3 hL hi Kn O I M)
      | 4, _ => exact aw_tableIn 316 dL_law_33 (by decide) (by decide) rfl (by decide) (law_4 hL hi Kn O I M)
      | 5, _ => exact aw_tableIn 349 dL_law_33 (by decide) (by decide) rfl (by decide) (law_5 hL hi Kn O I M)
      | 6, _ => exact aw_tableIn 402 dL_law_33 (by decide) (by decide) rfl (by decide) (law_6 hL hi Kn O I M)
      | 7, _ => exact aw_tableIn 455 dL_law_33 (by decide) (by decide) rfl (by decide) (law_7 hL hi Kn O I M)
      | 8, _ => exact aw_tableIn 488 dL_law_33 (by decide) (by decide) rfl (by decide) (law_8 hL hi Kn O I M)
      | 9, _ => exact aw_tableIn 531 dL_law_33 (by decide) (by decide) rfl (by decide) (law_9 hL hi Kn O I M)
      | 10, _ => exact aw_tableIn 564 dL_law_33 (by decide) (by decide) rfl (by decide) (law_10 hL hi Kn O I M)
      | 11, _ => exact aw_tableIn 607 dL_law_33 (by decide) (by decide) rfl (by decide) (law_11 hL hi Kn O I M)
      | 12, _ => exact aw_tableIn 660 dL_law_33 (by decide) (by decide) rfl (by decide) (law_12 hL hi Kn O I M)
      | 13, _ => exact aw_tableIn 703 dL_law_33 (by decide) (by decide) rfl (by decide) (law_13 hL hi Kn O I M)
      | 14, _ => exact aw_tableIn 756 dL_law_33 (by decide) (by decide) rfl (by decide) (law_14 hL hi Kn O I M)
      | 15, _ => exact aw_tableIn 819 dL_law_33 (by decide) (by decide) rfl (by decide) (law_15 hL hi Kn O I M)
      | 16, _ => exact aw_tableIn 878 dL_law_33 (by decide) (by decide) rfl (by decide) (law_16 hL hi Kn O I M)
      | 17, _ => exact aw_tableIn 921 dL_law_33 (by decide) (by decide) rfl (by decide) (law_17 hL hi Kn O I M)
      | 18, _ => exact aw_tableIn 954 dL_law_33 (by decide) (by decide) rfl (by decide) (law_18 hL hi Kn O I M)
      | 19, _ => exact aw_tableIn 1007 dL_law_33 (by decide) (by decide) rfl (by decide) (law_19 hL hi Kn O I M)
      | 20, _ => exact aw_tableIn 1050 dL_law_33 (by decide) (by decide) rfl (by decide) (law_20 hL hi Kn O I M)
      | 21, _ => exact aw_tableIn 1103 dL_law_33 (by decide) (by decide) rfl (by decide) (law_21 hL hi Kn O I M)
      | 22, _ => exact aw_tableIn 1126 dL_law_33 (by decide) (by decide) rfl (by decide) (law_22 hL hi Kn O I M)
      | 23, _ => exact aw_tableIn 1159 dL_law_33 (by decide) (by decide) rfl (by decide) (law_23 hL hi Kn O I M)
      | 24, _ => exact aw_tableIn 1182 dL_law_33 (by decide) (by decide) rfl (by decide) (law_24 hL hi Kn O I M)
      | 25, _ => exact aw_tableIn 1215 dL_law_33 (by decide) (by decide) rfl (by decide) (law_25 hL hi Kn O I M)
      | 26, _ => exact aw_tableIn 1274 dL_law_33 (by decide) (by decide) rfl (by decide) (law_26 hL hi Kn O I M)
      | 27, _ => exact aw_tableIn 1297 dL_law_33 (by decide) (by decide) rfl (by decide) (law_27 hL hi Kn O I M)
      | 28, _ => exact aw_tableIn 1320 dL_law_33 (by decide) (by decide) rfl (by decide) (law_28 hL hi Kn O I M)
      | 29, _ => exact aw_tableOut 1343 dL_law_33 (by decide) (by decide) (law_next Kn O (InvX_s I) M (by omega) (by omega))
      | 30, _ => exact aw_tableOut 1343 dL_law_33 (by decide) (by decide) (law_next Kn O (InvX_s I) M (by omega) (by omega))
      | 31, _ => exact aw_tableOut 1343 dL_law_33 (by decide) (by decide) (law_next Kn O (InvX_s I) M (by omega) (by omega))
      | j + 32, hj => exact absurd hj (by omega)
    · refine aw_iload_n 0 dL_law_18 rfl rfl ?_
      refine aw_aload_n 3 dL_law_19 rfl rfl ?_
      refine aw_slen dL_law_20 ?_
      refine aw_bipush (6) dL_law_21 (by decide) ?_
      refine aw_isub dL_law_23 ?_
      refine aw_icmp_gt 1349 dL_law_24 (by decide) (fun c24 => law_end (by omega) (by omega)) (fun c24 => absurd c24 (not_not_intro ?_))
      exact law_gt (by omega) hL (by omega)
