def i0m : Nat → Nat := fun j => if j < 20 then j else 0
def i0y : Nat → Nat := fun j => if j < 4 then 1500 else 0
theorem i0m_e : nA i0m = xid 20 := by funext j; unfold nA i0m xid; split <;> rfl
theorem i0y_e : nA i0y = xcs 1500 4 := by funext j; unfold nA i0y xcs; split <;> rfl
theorem i0m_lt {j : Nat} : i0m j ≤ j := by unfold i0m; split <;> omega
theorem i0m_eq {j : Nat} (h : j < 20) : i0m j = j := by unfold i0m; rw [if_pos h]
theorem i0y_lt {j : Nat} : i0y j < 1901 := by unfold i0y; split <;> omega
theorem i0g : nA (gM (fun _ => 0)) = fun _ => 0 := by funext j; simp [nA, gM, nI]
theorem i0c : clM (fun _ => 0) = fun _ => 0 := by funext j; simp [clM]
theorem i0sn : (0 : Int32) = snF i0m 0 20 := by decide +kernel
theorem i0p : pB (fun _ => 0) := fun _ _ => Or.inr ⟨0, by decide, rfl⟩
theorem i0s {dy od : Nat → Nat} : srt dy od 0 := ⟨fun _ h => absurd h (Nat.not_lt_zero _), fun _ _ _ h => absurd h (Nat.not_lt_zero _), fun _ h => absurd h (Nat.not_lt_zero _)⟩
theorem i0lt {B : Nat} {N : Nat} (h : 0 < B) : ∀ j, j < N → (fun _ => 0 : Nat → Nat) j < B := fun _ _ => h
theorem i0le {B : Nat} {N : Nat} : ∀ j, j < N → (fun _ => 0 : Nat → Nat) j ≤ B := fun _ _ => Nat.zero_le _
theorem init_O : OKD i0m i0y (fun _ => 0) (fun _ => 0) (fun _ => 0) (fun _ => 0) (fun _ => 0) 5 1 0 (fun _ => 0) (fun _ => 0) (fun _ => 0) (fun _ => 0) (fun _ => 0) (fun _ => 0) (fun _ => 0) (fun _ => 0) 0 (fun _ => 0) (fun _ => 0) (fun _ => 0) (fun _ => 0) (fun _ => 0) (fun _ => 0) 0 (fun _ => 0) (fun _ => 0) (fun _ => 0) (fun _ => 0) 0 (fun _ => 0) (fun _ => 0) :=
  ⟨fun _ _ => i0m_lt, i0lt (by decide), fun _ _ => i0y_lt, by decide, by decide, fun _ _ => ⟨0, by decide, rfl⟩, Nat.zero_le _, i0lt (by decide), i0lt (by decide), i0le, i0lt (by decide), i0le, i0le, Nat.zero_le _, i0lt (by decide), i0lt (by decide), i0le, i0lt (by decide), i0le, i0le, Nat.zero_le _, i0lt (by decide), i0lt (by decide), fun j hj => absurd hj (Nat.not_lt_zero _), Nat.zero_le _, i0lt (by decide), i0lt (by decide), i0lt (by decide), i0le, i0lt (by decide), i0lt (by decide), fun x _ y _ => by show (0 : Nat).testBit y = (0 : Nat).testBit x; rw [Nat.zero_testBit, Nat.zero_testBit], fun x _ => Nat.zero_testBit x⟩
theorem i0j {G : xG} {h : List va_E} (mj : ∀ k, k < 16 → xjF G h k) : iJs G jZ h := by
  intro k hk
  obtain ⟨f0, f1, f2⟩ := mj k hk
  have e1 : 13 + 3 * k + 1 = 14 + 3 * k := by omega
  have e2 : 13 + 3 * k + 2 = 15 + 3 * k := by omega
  refine ⟨0, 0, fun _ => 0, fun _ => 0, 0, ?_, ?_, ?_, i0p, Nat.zero_le _, rfl⟩
  · show h[13 + 3 * k]? = some (.inr (4, [.ref (G.1 + (13 + 3 * k + 1)), .ref (G.1 + (13 + 3 * k + 2)), .int 0, .int 0, .int 0]))
    rw [e1, e2]; exact f0
  · rw [e1]; exact f1
  · rw [e2]; exact f2
set_option maxHeartbeats 4000000 in
theorem init_X {G : xG} {h : List va_E} (hF : xF8 G h) (hl : h.length = 125) : InvX G i0m i0y (fun _ => 0) (fun _ => 0) (fun _ => 0) (fun _ => 0) (fun _ => 0) 5 1 0 (fun _ => 0) (fun _ => 0) (fun _ => 0) (fun _ => 0) (fun _ => 0) (fun _ => 0) (fun _ => 0) (fun _ => 0) 0 (fun _ => 0) (fun _ => 0) (fun _ => 0) (fun _ => 0) (fun _ => 0) (fun _ => 0) 0 (fun _ => 0) (fun _ => 0) (fun _ => 0) (fun _ => 0) 0 (fun _ => 0) (fun _ => 0) 0 none none h := by
  unfold xF8 at hF
  obtain ⟨m0, m1, m2, m3, m4, m5, m6, m7, m8, m9, m10, m11, m12, m61, m62, m63, m64, m65, m66, m67, m68, m69, m70, m71, m72, m73, m74, m75, m76, m77, m78, m79, m80, m81, m82, m83, m84, m85, m86, m87, mj⟩ := hF
  exact ⟨1, i0m, (fun _ => 0), (fun _ => 0), (fun _ => 0), 0, (fun _ => 0), 0, 0, -9, -9, 0, (fun _ => 0), 0, (fun _ => 0), m0, m1, (by rw [i0m_e]; exact m2), (by rw [i0m_e]; exact m3), (by rw [i0y_e]; exact m4), m5, m6, m7, m8, m9, m10, m11, m12, m61, m62, m63, m64, m65, m66, m67, m68, m69, m70, m71, m72, m73, m74, m75, m76, m77, m78, m79, m80, m81, m82, m83, m84, m85, m86, m87, fun j hj => by rw [root_fix (by rw [i0m_eq hj]; omega), i0m_eq hj], fun _ _ => i0sn, bRel_0, by decide, i0s, i0s, by rw [hl]; exact Nat.le_refl _, i0j mj, trivial, trivial⟩
set_option maxHeartbeats 4000000 in
theorem init_M {G : xG} {h : List va_E} (hF : xF9 G h) : InvM G i0m i0y (fun _ => 0) (fun _ => 0) (fun _ => 0) (fun _ => 0) (fun _ => 0) 5 1 0 (fun _ => 0) (fun _ => 0) (fun _ => 0) (fun _ => 0) (fun _ => 0) (fun _ => 0) (fun _ => 0) (fun _ => 0) 0 (fun _ => 0) (fun _ => 0) (fun _ => 0) (fun _ => 0) (fun _ => 0) (fun _ => 0) 0 (fun _ => 0) (fun _ => 0) (fun _ => 0) (fun _ => 0) 0 (fun _ => 0) (fun _ => 0) h := by
  unfold xF9 at hF
  obtain ⟨m88, m89, m90, m91, m92, m93, m94, m95, m96, m97, m98, m99, m100, m101, m102, m103, m104, m105, m106, m107, m108, m109, m110, m111, m112, m113, m114, m115, m116, m117, m118, m119, m120, m121, m122, m123, m124⟩ := hF
  exact ⟨0, 0, 0, 0, (fun _ => 0), (fun _ => 0), (fun _ => 0), (fun _ => 0), (fun _ => 0), (fun _ => 0), (fun _ => 0), (fun _ => 0), (fun _ => 0), (fun _ => 0), (fun _ => 0), m88, m89, (by rw [i0m_e]; exact m90), (by rw [i0y_e]; exact m91), m92, m93, m94, m95, m96, m97, m98, m99, m100, m101, m102, m103, m104, m105, m106, (by rw [i0g]; exact m107), m108, m109, m110, m111, m112, (by rw [i0g]; exact m113), m114, m115, m116, m117, m118, m119, m120, m121, m122, m123, (by rw [i0c]; exact m124), i0p, i0lt (by decide), fun _ hj => absurd hj (Nat.not_lt_zero _), i0lt (by decide), Nat.zero_le _⟩
theorem bO1 {o : Option Nat} : bO o ≤ 1 := by cases o <;> simp [bO]
