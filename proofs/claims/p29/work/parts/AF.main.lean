theorem xF8_lo {G : xG} {h h1 : List va_E} (k : lo 88 h h1) (hF : xF8 G h) : xF8 G h1 := by
  unfold xF8 at *
  obtain ⟨m0, m1, m2, m3, m4, m5, m6, m7, m8, m9, m10, m11, m12, m61, m62, m63, m64, m65, m66, m67, m68, m69, m70, m71, m72, m73, m74, m75, m76, m77, m78, m79, m80, m81, m82, m83, m84, m85, m86, m87, mj⟩ := hF
  exact ⟨(k 0 (by decide)).trans m0, (k 1 (by decide)).trans m1, (k 2 (by decide)).trans m2, (k 3 (by decide)).trans m3, (k 4 (by decide)).trans m4, (k 5 (by decide)).trans m5, (k 6 (by decide)).trans m6, (k 7 (by decide)).trans m7, (k 8 (by decide)).trans m8, (k 9 (by decide)).trans m9, (k 10 (by decide)).trans m10, (k 11 (by decide)).trans m11, (k 12 (by decide)).trans m12, (k 61 (by decide)).trans m61, (k 62 (by decide)).trans m62, (k 63 (by decide)).trans m63, (k 64 (by decide)).trans m64, (k 65 (by decide)).trans m65, (k 66 (by decide)).trans m66, (k 67 (by decide)).trans m67, (k 68 (by decide)).trans m68, (k 69 (by decide)).trans m69, (k 70 (by decide)).trans m70, (k 71 (by decide)).trans m71, (k 72 (by decide)).trans m72, (k 73 (by decide)).trans m73, (k 74 (by decide)).trans m74, (k 75 (by decide)).trans m75, (k 76 (by decide)).trans m76, (k 77 (by decide)).trans m77, (k 78 (by decide)).trans m78, (k 79 (by decide)).trans m79, (k 80 (by decide)).trans m80, (k 81 (by decide)).trans m81, (k 82 (by decide)).trans m82, (k 83 (by decide)).trans m83, (k 84 (by decide)).trans m84, (k 85 (by decide)).trans m85, (k 86 (by decide)).trans m86, (k 87 (by decide)).trans m87, fun q hq => xjF_k (b := 61) (mj q hq) (fun j _ j2 => k j (by omega)) (by omega)⟩
set_option maxHeartbeats 4000000 in
theorem law_aw {l : Launch} {G : xG} {b L : Nat} {xs : Nat → Int32} (hL : L ≤ 3072) : AW l G yL_law code 4 ret room_1 (xEl G b L xs) (fun below args s => lw_Z below args s) 0 0 0 [(0, .ref b)] [] [] := by
  refine aw_newQ 0 nL_7 dL_law_0 [.null, .null, .null, .null, .null, .null, .null, .null, .null, .null] (by decide) (by decide) (by decide) (by simp only [List.length_append, List.length_set, List.length_cons, List.length_nil, List.length_nil]) ?_
  refine aw_dup dL_law_3 rfl ?_
  refine aw_eI [] [.ref (G.1 + 0)] lL_9 vX8_init mX8_init dL_law_4 (KX8_init (by simp) (gp (by simp only [List.length_append, List.length_set, List.length_cons, List.length_nil, List.length_nil]))) rfl (Nat.le_of_ble_eq_true rfl) (by decide) (by decide) rfl (fun h1 q1 => ?_)
  obtain ⟨l1, F1⟩ := q1
  refine aw_astore_n [(1, .ref (G.1 + 0)), (0, .ref b)] dL_law_7 rfl (by decide) rfl ?_
  refine aw_newQ 88 nL_10 dL_law_8 [.null, .null, .null, .null, .null, .null, .null, .null, .null, .null, .int 0, .int 0, .int 0, .null, .null, .null, .null, .int 0, .int 0, .null, .null, .null, .null, .null, .null, .null, .null, .null, .null, .null, .null, .null, .int 0, .int 0, .int 0, .int 0, .null, .null, .null, .null, .null, .null, .null, .int 0, .null, .null] (by decide) (by decide) (by decide) (by simp only [List.length_append, List.length_set, List.length_cons, List.length_nil, l1]) ?_
  refine aw_dup dL_law_11 rfl ?_
  refine aw_eI [] [.ref (G.1 + 88)] lL_12 vX9_init mX9_init dL_law_12 (KX9_init (by simp [l1]) (gp (by simp only [List.length_append, List.length_set, List.length_cons, List.length_nil, l1]))) rfl (Nat.le_of_ble_eq_true rfl) (by decide) (by decide) rfl (fun h2 q2 => ?_)
  obtain ⟨l2, k2, M2⟩ := q2
  have F2 : xF8 G h2 := xF8_lo k2 (xF8_lo (lo_app (lo_rf 88 h1) (by omega)) F1)
  refine aw_astore_n [(2, .ref (G.1 + 88)), (1, .ref (G.1 + 0)), (0, .ref b)] dL_law_15 rfl (by decide) rfl ?_
  refine aw_iconst (0) dL_law_16 (by decide) ?_
  refine aw_istore_n [(3, .int 0), (2, .ref (G.1 + 88)), (1, .ref (G.1 + 0)), (0, .ref b)] dL_law_17 rfl (by decide) rfl ?_
  refine aw_widen (k1 := 125 + 6 * bO none + 10 * 0) (n1 := 28093 + 13430 * bO none + 2242 * 0) (by decide) (by decide) ?_
  exact law_loop hL 512 0 rfl _ _ _ _ _ _ _ _ _ _ _ _ _ _ _ _ _ _ _ _ _ _ _ _ _ _ _ _ _ _ _ _ _ none none h2 init_O (init_X F2 l2) (init_M M2)
set_option maxHeartbeats 4000000 in
/-- THE LAW, from its entry -/
theorem whole_start {p : Program} {e : Env} {s : State} {m : MethodId} {below : List Frame} {meth : Method} {c : Code} (l : Launch) {b L : Nat} {xs : Nat → Int32} (hL : L ≤ 3072) (C0 : lw_At p s m meth c b L xs) : W p l e room_1 s m #[Value.ref b] below meth c s.heap [] 0 0 (lw_Z below #[Value.ref b] s) (entryFrame m ([Value.ref b] : List Value).toArray 4) := by
  obtain ⟨hx, hb, hr, hml, hown, hts, hX, hbl, hlocks, hgv⟩ := id C0
  have htx : ∀ w ∈ xT, w.before #[Value.ref b] s = true := fun w hw => hts w (List.mem_filter.mp hw).1
  obtain ⟨c0, iS0, hKn0⟩ := u_known (C := RX0) (T := TX0) (N := 3) (n := 3) htx clX0.2.1 (htx _ nX8_55.2.2.1)
  obtain ⟨c1, iS1, hKn1⟩ := u_known (C := RX1) (T := TX1) (N := 14) (n := 14) htx clX1.2.1 (htx _ nX8_17.2.2.1)
  obtain ⟨c2, iS2, hKn2⟩ := u_known (C := RX2) (T := TX2) (N := 5) (n := 5) htx clX2.2.1 (htx _ nX8_41.2.2.1)
  obtain ⟨c3, iS3, hKn3⟩ := u_known (C := RX3) (T := TX3) (N := 7) (n := 7) htx clX3.2.1 (htx _ nX8_260.2.2.1)
  obtain ⟨c4, iS4, hKn4⟩ := u_known (C := RX4) (T := TX4) (N := 5) (n := 5) htx clX4.2.1 (htx _ nX8_24.2.2.1)
  obtain ⟨c5, iS5, hKn5⟩ := u_known (C := RX5) (T := TX5) (N := 9) (n := 9) htx clX5.2.1 (htx _ nX8_31.2.2.1)
  obtain ⟨c6, iS6, hKn6⟩ := u_known (C := RX6) (T := TX6) (N := 5) (n := 5) htx clX6.2.1 (htx _ nX8_48.2.2.1)
  obtain ⟨c7, iS7, hKn7⟩ := u_known (C := RX7) (T := TX7) (N := 14) (n := 14) htx clX7.2.1 (htx _ nX8_216.2.2.1)
  obtain ⟨c8, iS8, hKn8⟩ := u_known (C := RX8) (T := TX8) (N := 10) (n := 10) htx clX8.2.1 (htx _ nL_7.2.2.1)
  obtain ⟨c9, iS9, hKn9⟩ := u_known (C := RX9) (T := TX9) (N := 46) (n := 46) htx clX9.2.1 (htx _ nL_10.2.2.1)
  obtain ⟨cI, kI, pI, aI1, aI2, aI3⟩ := Cond.arrayClass_spec (htx _ ac_i)
  obtain ⟨cL, kL, pL, aL1, aL2, aL3⟩ := Cond.arrayClass_spec (htx _ ac_l)
  obtain ⟨cZ, kZ, pZ, aZ1, aZ2, aZ3⟩ := Cond.arrayClass_spec (htx _ ac_z)
  have hao : va_AO RX4 s := va_AO.of (hts (.arrayOver (.object RX4)) (List.mem_append_right _ (List.mem_of_getElem? (i := 79) (by decide +kernel))))
  obtain ⟨pJ, cJ, kJ, j1, j2, j3, j4, j5⟩ := Cond.arrayOver_spec hao
  have hK : xK (s.heap.size, (fun k => [c0, c1, c2, c3, c4, c5, c6, c7, c8, c9].getD k 0, fun k => [iS0, iS1, iS2, iS3, iS4, iS5, iS6, iS7, iS8, iS9].getD k (fun _ => 0)), fun k => [cI, cL, cZ, cJ].getD k 0) s := by
    refine ⟨fun w hw a => word_at (args := #[Value.ref b]) (State.WarmedH.refl s) (good_of_word (List.mem_filter.mp hw).2) (htx w hw), fun own i y host hw => va_Nw.of rfl (hts _ (List.mem_append_right _ hw)), ⟨?_, ?_⟩, hao⟩
    · intro k q hq
      match k, hq with
      | 0, hq => cases hq; exact hKn0
      | 1, hq => cases hq; exact hKn1
      | 2, hq => cases hq; exact hKn2
      | 3, hq => cases hq; exact hKn3
      | 4, hq => cases hq; exact hKn4
      | 5, hq => cases hq; exact hKn5
      | 6, hq => cases hq; exact hKn6
      | 7, hq => cases hq; exact hKn7
      | 8, hq => cases hq; exact hKn8
      | 9, hq => cases hq; exact hKn9
      | k + 10, hq => simp [vwCl] at hq
    · intro k q hq
      match k, hq with
      | 0, hq => cases hq; exact ⟨fun n z => ⟨fun k h => (by cases h), kI, aI2, pI, aI3⟩, aI1⟩
      | 1, hq => cases hq; exact ⟨fun n z => ⟨fun k h => (by cases h), kL, aL2, pL, aL3⟩, aL1⟩
      | 2, hq => cases hq; exact ⟨fun n z => ⟨fun k h => (by cases h), kZ, aZ2, pZ, aZ3⟩, aZ1⟩
      | 3, hq => cases hq; exact ⟨fun n z => ⟨fun k h => (by cases h), kJ, j3, pJ, j4⟩, ⟨kJ, pJ, j3, j4, j1, j5⟩⟩
      | k + 4, hq => simp [xtys] at hq
  generalize hG : (s.heap.size, ((fun k => [c0, c1, c2, c3, c4, c5, c6, c7, c8, c9].getD k 0, fun k => [iS0, iS1, iS2, iS3, iS4, iS5, iS6, iS7, iS8, iS9].getD k (fun _ => 0)) : va_G), fun k => [cI, cL, cZ, cJ].getD k 0) = G at hK
  have hG1 : s.heap.size = G.1 := by rw [← hG]
  rw [lg_entry_eq]
  exact law_aw (l := l) (G := G) (b := b) (L := L) (xs := xs) hL p e s m #[Value.ref b] below meth c s.heap [] _ ⟨hx, hb, hml, hr, hlocks, (fun q => absurd q (by decide)), hown, hK, ⟨rfl, hX, hbl, hG1⟩, by omega⟩ ⟨fun k q h => by simp [xW] at h, by simp [hG1]⟩ va_S.rf (lv_entry ([.ref b]) (n := 4) (Nat.le_of_ble_eq_true rfl))
