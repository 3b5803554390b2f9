theorem O21 {l : Launch} {G : xG} {h : List va_E} {w : Int32} (hF : xF8 G h) (hM : xF9 G h) (hl : h.length = 125) : ∃ rr : Int32, CE l G yX8_shelf cX8_shelf 3 (some .int) 6 10 2242 [.ref (G.1 + 0), .int w] h (some (.int rr)) (kp h) ∧ ∀ h1, kp h h1 → CE l G yX9_shelf cX9_shelf 3 (some .int) 4 0 0 [.ref (G.1 + 88), .int w] h1 (some (.int rr)) (fun _ => True) := by
  by_cases q2 : w.toInt = 0
  · exact ⟨_, A21z hF hl (by omega), fun h1 k1 => B21z (xF9_kp k1 hM) (by omega)⟩
  · by_cases q4 : 0 ≤ w.toInt ∧ w.toInt < 4096
    · by_cases q6 : 8 < popN w.toInt.toNat
      · exact ⟨_, A21b hF hl (by omega) (by omega) (by omega), fun h1 k1 => B21b (xF9_kp k1 hM) (by omega) (by omega) (by omega)⟩
      · exact ⟨_, A21o hF hl (by omega) (by omega) (by omega), fun h1 k1 => B21o (xF9_kp k1 hM) (by omega) (by omega) (by omega)⟩
    · exact ⟨_, A21f hF hl (by omega), fun h1 k1 => B21f (xF9_kp k1 hM) (by omega)⟩
theorem O22 {l : Launch} {G : xG} {h : List va_E} {w k : Int32} (hF : xF8 G h) (hM : xF9 G h) (hl : h.length = 125) : ∃ rr : Int32, CE l G yX8_row cX8_row 5 (some .int) 6 10 2242 [.ref (G.1 + 0), .int w, .int k] h (some (.int rr)) (kp h) ∧ ∀ h1, kp h h1 → CE l G yX9_row cX9_row 5 (some .int) 4 0 0 [.ref (G.1 + 88), .int w, .int k] h1 (some (.int rr)) (fun _ => True) := by
  by_cases q2 : w.toInt = 0
  · exact ⟨_, A22z hF hl (by omega), fun h1 k1 => B22z (xF9_kp k1 hM) (by omega)⟩
  · by_cases q4 : 0 ≤ w.toInt ∧ w.toInt < 4096
    · by_cases q6 : 8 < popN w.toInt.toNat
      · exact ⟨_, A22b hF hl (by omega) (by omega) (by omega), fun h1 k1 => B22b (xF9_kp k1 hM) (by omega) (by omega) (by omega)⟩
      · by_cases q8 : k.toInt < 0
        · exact ⟨_, A22on hF hl (by omega) (by omega) (by omega) (by omega), fun h1 k1 => B22on (xF9_kp k1 hM) (by omega) (by omega) (by omega) (by omega)⟩
        · by_cases q10 : (popN w.toInt.toNat : Int) ≤ k.toInt
          · exact ⟨_, A22op hF hl (by omega) (by omega) (by omega) (by omega), fun h1 k1 => B22op (xF9_kp k1 hM) (by omega) (by omega) (by omega) (by omega)⟩
          · exact ⟨_, A22oo hF hl (by omega) (by omega) (by omega) (by omega) (by omega), fun h1 k1 => B22oo (xF9_kp k1 hM) (by omega) (by omega) (by omega) (by omega) (by omega)⟩
    · exact ⟨_, A22f hF hl (by omega), fun h1 k1 => B22f (xF9_kp k1 hM) (by omega)⟩
theorem O23 {l : Launch} {G : xG} {h : List va_E} {w : Int32} (hF : xF8 G h) (hM : xF9 G h) (hl : h.length = 125) : ∃ rr : Int32, CE l G yX8_quarrel cX8_quarrel 4 (some .int) 6 10 2242 [.ref (G.1 + 0), .int w] h (some (.int rr)) (kp h) ∧ ∀ h1, kp h h1 → CE l G yX9_quarrel cX9_quarrel 5 (some .int) 4 0 0 [.ref (G.1 + 88), .int w] h1 (some (.int rr)) (fun _ => True) := by
  by_cases q2 : w.toInt = 0
  · exact ⟨_, A23z hF hl (by omega), fun h1 k1 => B23z (xF9_kp k1 hM) (by omega)⟩
  · by_cases q4 : 0 ≤ w.toInt ∧ w.toInt < 4096
    · by_cases q6 : 8 < popN w.toInt.toNat
      · exact ⟨_, A23b hF hl (by omega) (by omega) (by omega), fun h1 k1 => B23b (xF9_kp k1 hM) (by omega) (by omega) (by omega)⟩
      · exact ⟨_, A23o hF hl (by omega) (by omega) (by omega), fun h1 k1 => B23o (xF9_kp k1 hM) (by omega) (by omega) (by omega)⟩
    · exact ⟨_, A23f hF hl (by omega), fun h1 k1 => B23f (xF9_kp k1 hM) (by omega)⟩
