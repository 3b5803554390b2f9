theorem O21 {l : Launch} {G : xG} {h : List va_E} {w : Int32} (hF : xF8 G h) (hM : xF9 G h) (hl : h.length = 125) : ∃ rr : Int32, CE l G yX8_shelf cX8_shelf 3 (some .int) 6 10 2242 [.ref (G.1 + 0), .int w] h (some (.int rr)) (kp h) ∧ ∀ h1, kp h h1 → CE l G yX9_shelf cX9_shelf 3 (some .int) 4 0 0 [.ref (G.1 + 88), .int w] h1 (some (.int rr)) (fun _ => True) := by
  sorry
theorem O22 {l : Launch} {G : xG} {h : List va_E} {w k : Int32} (hF : xF8 G h) (hM : xF9 G h) (hl : h.length = 125) : ∃ rr : Int32, CE l G yX8_row cX8_row 5 (some .int) 6 10 2242 [.ref (G.1 + 0), .int w, .int k] h (some (.int rr)) (kp h) ∧ ∀ h1, kp h h1 → CE l G yX9_row cX9_row 5 (some .int) 4 0 0 [.ref (G.1 + 88), .int w, .int k] h1 (some (.int rr)) (fun _ => True) := by
  sorry
theorem O23 {l : Launch} {G : xG} {h : List va_E} {w : Int32} (hF : xF8 G h) (hM : xF9 G h) (hl : h.length = 125) : ∃ rr : Int32, CE l G yX8_quarrel cX8_quarrel 4 (some .int) 6 10 2242 [.ref (G.1 + 0), .int w] h (some (.int rr)) (kp h) ∧ ∀ h1, kp h h1 → CE l G yX9_quarrel cX9_quarrel 5 (some .int) 4 0 0 [.ref (G.1 + 88), .int w] h1 (some (.int rr)) (fun _ => True) := by
  sorry
