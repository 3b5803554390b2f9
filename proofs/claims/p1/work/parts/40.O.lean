theorem xF9_kp {G : xG} {h h1 : List va_E} (k : kp h h1) (hM : xF9 G h) : xF9 G h1 := by
  unfold xF9 at *
  obtain ⟨m88, m89, m90, m91, m92, m93, m94, m95, m96, m97, m98, m99, m100, m101, m102, m103, m104, m105, m106, m107, m108, m109, m110, m111, m112, m113, m114, m115, m116, m117, m118, m119, m120, m121, m122, m123, m124⟩ := hM
  exact ⟨(k 88 (by decide) (by decide)).trans m88, (k 89 (by decide) (by decide)).trans m89, (k 90 (by decide) (by decide)).trans m90, (k 91 (by decide) (by decide)).trans m91, (k 92 (by decide) (by decide)).trans m92, (k 93 (by decide) (by decide)).trans m93, (k 94 (by decide) (by decide)).trans m94, (k 95 (by decide) (by decide)).trans m95, (k 96 (by decide) (by decide)).trans m96, (k 97 (by decide) (by decide)).trans m97, (k 98 (by decide) (by decide)).trans m98, (k 99 (by decide) (by decide)).trans m99, (k 100 (by decide) (by decide)).trans m100, (k 101 (by decide) (by decide)).trans m101, (k 102 (by decide) (by decide)).trans m102, (k 103 (by decide) (by decide)).trans m103, (k 104 (by decide) (by decide)).trans m104, (k 105 (by decide) (by decide)).trans m105, (k 106 (by decide) (by decide)).trans m106, (k 107 (by decide) (by decide)).trans m107, (k 108 (by decide) (by decide)).trans m108, (k 109 (by decide) (by decide)).trans m109, (k 110 (by decide) (by decide)).trans m110, (k 111 (by decide) (by decide)).trans m111, (k 112 (by decide) (by decide)).trans m112, (k 113 (by decide) (by decide)).trans m113, (k 114 (by decide) (by decide)).trans m114, (k 115 (by decide) (by decide)).trans m115, (k 116 (by decide) (by decide)).trans m116, (k 117 (by decide) (by decide)).trans m117, (k 118 (by decide) (by decide)).trans m118, (k 119 (by decide) (by decide)).trans m119, (k 120 (by decide) (by decide)).trans m120, (k 121 (by decide) (by decide)).trans m121, (k 122 (by decide) (by decide)).trans m122, (k 123 (by decide) (by decide)).trans m123, (k 124 (by decide) (by decide)).trans m124⟩
theorem O0 {l : Launch} {G : xG} {h : List va_E} {w o : Int32} (hF : xF8 G h) (hM : xF9 G h) (hl : h.length = 125) : ∃ rr : Int32, CE l G yX8_means cX8_means 3 (some .int) 3 0 0 [.ref (G.1 + 0), .int w, .int o] h (some (.int rr)) (kp h) ∧ ∀ h1, kp h h1 → CE l G yX9_means cX9_means 4 (some .int) 2 0 0 [.ref (G.1 + 88), .int w, .int o] h1 (some (.int rr)) (fun _ => True) := by
  by_cases q2 : 0 ≤ w.toInt ∧ w.toInt < 20
  · by_cases q4 : 0 ≤ o.toInt ∧ o.toInt < 20
    · by_cases q6 : w.toInt < o.toInt
      · exact ⟨_, A0c hF (by omega) (by omega) (by omega), fun h1 k1 => B0c (xF9_kp k1 hM) (by omega) (by omega) (by omega)⟩
      · exact ⟨_, A0d hF (by omega) (by omega) (by omega), fun h1 k1 => B0d (xF9_kp k1 hM) (by omega) (by omega) (by omega)⟩
    · exact ⟨_, A0b hF (by omega) (by omega), fun h1 k1 => B0b (xF9_kp k1 hM) (by omega) (by omega)⟩
  · exact ⟨_, A0a hF (by omega), fun h1 k1 => B0a (xF9_kp k1 hM) (by omega)⟩
theorem O1 {l : Launch} {G : xG} {h : List va_E} {w : Int32} (hF : xF8 G h) (hM : xF9 G h) (hl : h.length = 125) : ∃ rr : Int32, CE l G yX8_sense cX8_sense 2 (some .int) 2 0 0 [.ref (G.1 + 0), .int w] h (some (.int rr)) (kp h) ∧ ∀ h1, kp h h1 → CE l G yX9_sense cX9_sense 2 (some .int) 2 0 0 [.ref (G.1 + 88), .int w] h1 (some (.int rr)) (fun _ => True) := by
  by_cases q2 : 0 ≤ w.toInt ∧ w.toInt < 20
  · exact ⟨_, A1b hF (by omega), fun h1 k1 => B1b (xF9_kp k1 hM) (by omega)⟩
  · exact ⟨_, A1a hF (by omega), fun h1 k1 => B1a (xF9_kp k1 hM) (by omega)⟩
theorem O2 {l : Launch} {G : xG} {h : List va_E} {c y : Int32} (hF : xF8 G h) (hM : xF9 G h) (hl : h.length = 125) : ∃ rr : Int32, CE l G yX8_year cX8_year 3 (some .int) 2 0 0 [.ref (G.1 + 0), .int c, .int y] h (some (.int rr)) (kp h) ∧ ∀ h1, kp h h1 → CE l G yX9_year cX9_year 5 (some .int) 2 0 0 [.ref (G.1 + 88), .int c, .int y] h1 (some (.int rr)) (fun _ => True) := by
  by_cases q2 : 0 ≤ c.toInt ∧ c.toInt < 4
  · by_cases q4 : y.toInt < 1500
    · exact ⟨_, A2b hF (by omega) (by omega), fun h1 k1 => B2b (xF9_kp k1 hM) (by omega) (by omega)⟩
    · by_cases q6 : 1900 < y.toInt
      · exact ⟨_, A2c hF (by omega) (by omega), fun h1 k1 => B2c (xF9_kp k1 hM) (by omega) (by omega)⟩
      · exact ⟨_, A2d hF (by omega) (by omega), fun h1 k1 => B2d (xF9_kp k1 hM) (by omega) (by omega)⟩
  · exact ⟨_, A2a hF (by omega), fun h1 k1 => B2a (xF9_kp k1 hM) (by omega)⟩
theorem O3 {l : Launch} {G : xG} {h : List va_E} {c w s r u : Int32} (hF : xF8 G h) (hM : xF9 G h) (hl : h.length = 125) : ∃ rr : Int32, CE l G yX8_entry cX8_entry 6 (some .int) 3 0 0 [.ref (G.1 + 0), .int c, .int w, .int s, .int r, .int u] h (some (.int rr)) (kp h) ∧ ∀ h1, kp h h1 → CE l G yX9_entry cX9_entry 7 (some .int) 2 0 0 [.ref (G.1 + 88), .int c, .int w, .int s, .int r, .int u] h1 (some (.int rr)) (fun _ => True) := by
  by_cases q2 : 0 ≤ c.toInt ∧ c.toInt < 4
  · by_cases q4 : w.toInt < 0
    · exact ⟨_, A3b hF (by omega) (by omega), fun h1 k1 => B3b (xF9_kp k1 hM) (by omega) (by omega)⟩
    · by_cases q6 : 1048576 ≤ w.toInt
      · exact ⟨_, A3B hF (by omega) (by omega), fun h1 k1 => B3B (xF9_kp k1 hM) (by omega) (by omega)⟩
      · by_cases q8 : w.toInt = 0
        · exact ⟨_, A3c hF (by omega) (by omega) (by omega), fun h1 k1 => B3c (xF9_kp k1 hM) (by omega) (by omega) (by omega)⟩
        · by_cases q10 : s.toInt < 1
          · exact ⟨_, A3d hF (by omega) (by omega) (by omega) (by omega), fun h1 k1 => B3d (xF9_kp k1 hM) (by omega) (by omega) (by omega) (by omega)⟩
          · by_cases q12 : r.toInt < 0
            · exact ⟨_, A3e hF (by omega) (by omega) (by omega) (by omega) (by omega), fun h1 k1 => B3e (xF9_kp k1 hM) (by omega) (by omega) (by omega) (by omega) (by omega)⟩
            · by_cases q14 : u.toInt < 0
              · exact ⟨_, A3f hF (by omega) (by omega) (by omega) (by omega) (by omega) (by omega), fun h1 k1 => B3f (xF9_kp k1 hM) (by omega) (by omega) (by omega) (by omega) (by omega) (by omega)⟩
              · by_cases q16 : 200 < s.toInt
                · exact ⟨_, A3g hF (by omega) (by omega) (by omega) (by omega) (by omega) (by omega), fun h1 k1 => B3g (xF9_kp k1 hM) (by omega) (by omega) (by omega) (by omega) (by omega) (by omega)⟩
                · by_cases q18 : 9 < r.toInt
                  · exact ⟨_, A3h hF (by omega) (by omega) (by omega) (by omega) (by omega) (by omega), fun h1 k1 => B3h (xF9_kp k1 hM) (by omega) (by omega) (by omega) (by omega) (by omega) (by omega)⟩
                  · by_cases q20 : 99 < u.toInt
                    · exact ⟨_, A3i hF (by omega) (by omega) (by omega) (by omega) (by omega) (by omega), fun h1 k1 => B3i (xF9_kp k1 hM) (by omega) (by omega) (by omega) (by omega) (by omega) (by omega)⟩
                    · exact ⟨_, A3o hF (by omega) (by omega) (by omega) (by omega) (by omega) (by omega), fun h1 k1 => B3o (xF9_kp k1 hM) (by omega) (by omega) (by omega) (by omega) (by omega) (by omega)⟩
  · exact ⟨_, A3a hF (by omega), fun h1 k1 => B3a (xF9_kp k1 hM) (by omega)⟩
theorem O4 {l : Launch} {G : xG} {h : List va_E} {w v : Int32} (hF : xF8 G h) (hM : xF9 G h) (hl : h.length = 125) : ∃ rr : Int32, CE l G yX8_set cX8_set 3 (some .int) 2 0 0 [.ref (G.1 + 0), .int w, .int v] h (some (.int rr)) (kp h) ∧ ∀ h1, kp h h1 → CE l G yX9_set cX9_set 5 (some .int) 2 0 0 [.ref (G.1 + 88), .int w, .int v] h1 (some (.int rr)) (fun _ => True) := by
  by_cases q2 : w.toInt = 0
  · by_cases q4 : v.toInt < 0
    · exact ⟨_, A4b hF (by omega) (by omega), fun h1 k1 => B4b (xF9_kp k1 hM) (by omega) (by omega)⟩
    · by_cases q6 : 50 < v.toInt
      · exact ⟨_, A4d hF (by omega) (by omega), fun h1 k1 => B4d (xF9_kp k1 hM) (by omega) (by omega)⟩
      · exact ⟨_, A4f hF (by omega) (by omega), fun h1 k1 => B4f (xF9_kp k1 hM) (by omega) (by omega)⟩
  · by_cases q4 : w.toInt = 1
    · by_cases q6 : v.toInt < 0
      · exact ⟨_, A4c hF (by omega) (by omega), fun h1 k1 => B4c (xF9_kp k1 hM) (by omega) (by omega)⟩
      · by_cases q8 : 9 < v.toInt
        · exact ⟨_, A4e hF (by omega) (by omega), fun h1 k1 => B4e (xF9_kp k1 hM) (by omega) (by omega)⟩
        · exact ⟨_, A4g hF (by omega) (by omega), fun h1 k1 => B4g (xF9_kp k1 hM) (by omega) (by omega)⟩
    · exact ⟨_, A4a hF (by omega), fun h1 k1 => B4a (xF9_kp k1 hM) (by omega)⟩
theorem O5 {l : Launch} {G : xG} {h : List va_E} {a i b k : Int32} (hF : xF8 G h) (hM : xF9 G h) (hl : h.length = 125) : ∃ rr : Int32, CE l G yX8_bar cX8_bar 7 (some .int) 2 0 0 [.ref (G.1 + 0), .int a, .int i, .int b, .int k] h (some (.int rr)) (kp h) ∧ ∀ h1, kp h h1 → CE l G yX9_bar cX9_bar 5 (some .int) 2 0 0 [.ref (G.1 + 88), .int a, .int i, .int b, .int k] h1 (some (.int rr)) (fun _ => True) := by
  exact ⟨_, A5 hF, fun h1 k1 => B5 (xF9_kp k1 hM)⟩
theorem O6 {l : Launch} {G : xG} {h : List va_E} {a i b k : Int32} (hF : xF8 G h) (hM : xF9 G h) (hl : h.length = 125) : ∃ rr : Int32, CE l G yX8_like cX8_like 5 (some .int) 2 0 0 [.ref (G.1 + 0), .int a, .int i, .int b, .int k] h (some (.int rr)) (kp h) ∧ ∀ h1, kp h h1 → CE l G yX9_like cX9_like 5 (some .int) 2 0 0 [.ref (G.1 + 88), .int a, .int i, .int b, .int k] h1 (some (.int rr)) (fun _ => True) := by
  exact ⟨_, A6 hF, fun h1 k1 => B6 (xF9_kp k1 hM)⟩
theorem O7 {l : Launch} {G : xG} {h : List va_E} {a b : Int32} (hF : xF8 G h) (hM : xF9 G h) (hl : h.length = 125) : ∃ rr : Int32, CE l G yX8_join cX8_join 3 (some .int) 5 6 13430 [.ref (G.1 + 0), .int a, .int b] h (some (.int rr)) (kp h) ∧ ∀ h1, kp h h1 → CE l G yX9_join cX9_join 3 (some .int) 3 0 0 [.ref (G.1 + 88), .int a, .int b] h1 (some (.int rr)) (fun _ => True) := by
  by_cases q2 : (0 ≤ a.toInt ∧ a.toInt < 4) ∧ (0 ≤ b.toInt ∧ b.toInt < 4) ∧ a.toInt ≠ b.toInt
  · exact ⟨_, A7t hF hl (by omega) (by omega) (by omega), fun h1 k1 => B7t (xF9_kp k1 hM) (by omega) (by omega) (by omega)⟩
  · exact ⟨_, A7f hF (by omega), fun h1 k1 => B7f (xF9_kp k1 hM) (by omega)⟩
theorem O9 {l : Launch} {G : xG} {h : List va_E} {a b : Int32} (hF : xF8 G h) (hM : xF9 G h) (hl : h.length = 125) : ∃ rr : Int32, CE l G yX8_bests cX8_bests 3 (some .int) 5 6 13430 [.ref (G.1 + 0), .int a, .int b] h (some (.int rr)) (kp h) ∧ ∀ h1, kp h h1 → CE l G yX9_bests cX9_bests 4 (some .int) 3 0 0 [.ref (G.1 + 88), .int a, .int b] h1 (some (.int rr)) (fun _ => True) := by
  by_cases q2 : (0 ≤ a.toInt ∧ a.toInt < 4) ∧ (0 ≤ b.toInt ∧ b.toInt < 4) ∧ a.toInt ≠ b.toInt
  · exact ⟨_, A9t hF hl (by omega) (by omega) (by omega), fun h1 k1 => B9t (xF9_kp k1 hM) (by omega) (by omega) (by omega)⟩
  · exact ⟨_, A9f hF (by omega), fun h1 k1 => B9f (xF9_kp k1 hM) (by omega)⟩
theorem O8 {l : Launch} {G : xG} {h : List va_E} {a i b : Int32} (hF : xF8 G h) (hM : xF9 G h) (hl : h.length = 125) : ∃ rr : Int32, CE l G yX8_joined cX8_joined 4 (some .int) 2 0 0 [.ref (G.1 + 0), .int a, .int i, .int b] h (some (.int rr)) (kp h) ∧ ∀ h1, kp h h1 → CE l G yX9_joined cX9_joined 5 (some .int) 2 0 0 [.ref (G.1 + 88), .int a, .int i, .int b] h1 (some (.int rr)) (fun _ => True) := by
  exact ⟨_, A8 hF, fun h1 k1 => B8 (xF9_kp k1 hM)⟩
theorem O10 {l : Launch} {G : xG} {h : List va_E} {a i b : Int32} (hF : xF8 G h) (hM : xF9 G h) (hl : h.length = 125) : ∃ rr : Int32, CE l G yX8_sure cX8_sure 4 (some .int) 2 0 0 [.ref (G.1 + 0), .int a, .int i, .int b] h (some (.int rr)) (kp h) ∧ ∀ h1, kp h h1 → CE l G yX9_sure cX9_sure 4 (some .int) 2 0 0 [.ref (G.1 + 88), .int a, .int i, .int b] h1 (some (.int rr)) (fun _ => True) := by
  exact ⟨_, A10 hF, fun h1 k1 => B10 (xF9_kp k1 hM)⟩
theorem O11 {l : Launch} {G : xG} {h : List va_E} {a i w z : Int32} (hF : xF8 G h) (hM : xF9 G h) (hl : h.length = 125) : ∃ rr : Int32, CE l G yX8_chain cX8_chain 5 (some .int) 2 0 0 [.ref (G.1 + 0), .int a, .int i, .int w, .int z] h (some (.int rr)) (kp h) ∧ ∀ h1, kp h h1 → CE l G yX9_chain cX9_chain 15 (some .int) 2 0 0 [.ref (G.1 + 88), .int a, .int i, .int w, .int z] h1 (some (.int rr)) (fun _ => True) := by
  exact ⟨_, A11 hF, fun h1 k1 => B11 (xF9_kp k1 hM)⟩
theorem O12 {l : Launch} {G : xG} {h : List va_E} {a b k : Int32} (hF : xF8 G h) (hM : xF9 G h) (hl : h.length = 125) : ∃ rr : Int32, CE l G yX8_copied cX8_copied 6 (some .int) 2 0 0 [.ref (G.1 + 0), .int a, .int b, .int k] h (some (.int rr)) (kp h) ∧ ∀ h1, kp h h1 → CE l G yX9_copied cX9_copied 6 (some .int) 2 0 0 [.ref (G.1 + 88), .int a, .int b, .int k] h1 (some (.int rr)) (fun _ => True) := by
  exact ⟨_, A12 hF, fun h1 k1 => B12 (xF9_kp k1 hM)⟩
theorem O13 {l : Launch} {G : xG} {h : List va_E} {t p d k : Int32} (hF : xF8 G h) (hM : xF9 G h) (hl : h.length = 125) : ∃ rr : Int32, CE l G yX8_sight cX8_sight 6 (some .int) 2 0 0 [.ref (G.1 + 0), .int t, .int p, .int d, .int k] h (some (.int rr)) (kp h) ∧ ∀ h1, kp h h1 → CE l G yX9_sight cX9_sight 6 (some .int) 2 0 0 [.ref (G.1 + 88), .int t, .int p, .int d, .int k] h1 (some (.int rr)) (fun _ => True) := by
  by_cases q2 : 0 ≤ t.toInt ∧ t.toInt < 12
  · by_cases q4 : p.toInt < 0
    · exact ⟨_, A13p hF (by omega) (by omega), fun h1 k1 => B13p (xF9_kp k1 hM) (by omega) (by omega)⟩
    · by_cases q6 : 8 ≤ p.toInt
      · exact ⟨_, A13q hF (by omega) (by omega), fun h1 k1 => B13q (xF9_kp k1 hM) (by omega) (by omega)⟩
      · by_cases q8 : d.toInt < 0
        · exact ⟨_, A13a hF (by omega) (by omega) (by omega), fun h1 k1 => B13a (xF9_kp k1 hM) (by omega) (by omega) (by omega)⟩
        · by_cases q10 : k.toInt < 0
          · exact ⟨_, A13b hF (by omega) (by omega) (by omega) (by omega), fun h1 k1 => B13b (xF9_kp k1 hM) (by omega) (by omega) (by omega) (by omega)⟩
          · by_cases q12 : 80000 < d.toInt
            · exact ⟨_, A13c hF (by omega) (by omega) (by omega) (by omega), fun h1 k1 => B13c (xF9_kp k1 hM) (by omega) (by omega) (by omega) (by omega)⟩
            · by_cases q14 : 80000 < k.toInt
              · exact ⟨_, A13e hF (by omega) (by omega) (by omega) (by omega), fun h1 k1 => B13e (xF9_kp k1 hM) (by omega) (by omega) (by omega) (by omega)⟩
              · exact ⟨_, A13o hF (by omega) (by omega) (by omega) (by omega), fun h1 k1 => B13o (xF9_kp k1 hM) (by omega) (by omega) (by omega) (by omega)⟩
  · exact ⟨_, A13t hF (by omega), fun h1 k1 => B13t (xF9_kp k1 hM) (by omega)⟩
theorem O14 {l : Launch} {G : xG} {h : List va_E} {t p d s k : Int32} (hF : xF8 G h) (hM : xF9 G h) (hl : h.length = 125) : ∃ rr : Int32, CE l G yX8_move cX8_move 7 (some .int) 2 0 0 [.ref (G.1 + 0), .int t, .int p, .int d, .int s, .int k] h (some (.int rr)) (kp h) ∧ ∀ h1, kp h h1 → CE l G yX9_move cX9_move 7 (some .int) 2 0 0 [.ref (G.1 + 88), .int t, .int p, .int d, .int s, .int k] h1 (some (.int rr)) (fun _ => True) := by
  by_cases q2 : 0 ≤ t.toInt ∧ t.toInt < 12
  · by_cases q4 : p.toInt < 0
    · exact ⟨_, A14p hF (by omega) (by omega), fun h1 k1 => B14p (xF9_kp k1 hM) (by omega) (by omega)⟩
    · by_cases q6 : 8 ≤ p.toInt
      · exact ⟨_, A14q hF (by omega) (by omega), fun h1 k1 => B14q (xF9_kp k1 hM) (by omega) (by omega)⟩
      · by_cases q8 : s.toInt < 0
        · exact ⟨_, A14s hF (by omega) (by omega) (by omega), fun h1 k1 => B14s (xF9_kp k1 hM) (by omega) (by omega) (by omega)⟩
        · by_cases q10 : 5 ≤ s.toInt
          · exact ⟨_, A14r hF (by omega) (by omega) (by omega), fun h1 k1 => B14r (xF9_kp k1 hM) (by omega) (by omega) (by omega)⟩
          · by_cases q12 : d.toInt < 0
            · exact ⟨_, A14a hF (by omega) (by omega) (by omega) (by omega), fun h1 k1 => B14a (xF9_kp k1 hM) (by omega) (by omega) (by omega) (by omega)⟩
            · by_cases q14 : k.toInt < 0
              · exact ⟨_, A14b hF (by omega) (by omega) (by omega) (by omega) (by omega), fun h1 k1 => B14b (xF9_kp k1 hM) (by omega) (by omega) (by omega) (by omega) (by omega)⟩
              · by_cases q16 : 80000 < d.toInt
                · exact ⟨_, A14c hF (by omega) (by omega) (by omega) (by omega) (by omega), fun h1 k1 => B14c (xF9_kp k1 hM) (by omega) (by omega) (by omega) (by omega) (by omega)⟩
                · by_cases q18 : 80000 < k.toInt
                  · exact ⟨_, A14e hF (by omega) (by omega) (by omega) (by omega) (by omega), fun h1 k1 => B14e (xF9_kp k1 hM) (by omega) (by omega) (by omega) (by omega) (by omega)⟩
                  · exact ⟨_, A14o hF (by omega) (by omega) (by omega) (by omega) (by omega), fun h1 k1 => B14o (xF9_kp k1 hM) (by omega) (by omega) (by omega) (by omega) (by omega)⟩
  · exact ⟨_, A14t hF (by omega), fun h1 k1 => B14t (xF9_kp k1 hM) (by omega)⟩
theorem O15_0 {l : Launch} {G : xG} {h : List va_E} {n k : Int32} (hF : xF8 G h) (hM : xF9 G h) (hl : h.length = 125) : ∃ rr : Int32, CE l G yX8_withdraw cX8_withdraw 5 (some .int) 2 0 0 [.ref (G.1 + 0), .int 0, .int n, .int k] h (some (.int rr)) (kp h) ∧ ∀ h1, kp h h1 → CE l G yX9_withdraw cX9_withdraw 5 (some .int) 2 0 0 [.ref (G.1 + 88), .int 0, .int n, .int k] h1 (some (.int rr)) (fun _ => True) := by
  exact ⟨_, A15_0 hF, fun h1 k1 => B15_0 (xF9_kp k1 hM)⟩
theorem O15_1 {l : Launch} {G : xG} {h : List va_E} {n k : Int32} (hF : xF8 G h) (hM : xF9 G h) (hl : h.length = 125) : ∃ rr : Int32, CE l G yX8_withdraw cX8_withdraw 5 (some .int) 2 0 0 [.ref (G.1 + 0), .int 1, .int n, .int k] h (some (.int rr)) (kp h) ∧ ∀ h1, kp h h1 → CE l G yX9_withdraw cX9_withdraw 5 (some .int) 2 0 0 [.ref (G.1 + 88), .int 1, .int n, .int k] h1 (some (.int rr)) (fun _ => True) := by
  exact ⟨_, A15_1 hF, fun h1 k1 => B15_1 (xF9_kp k1 hM)⟩
theorem O16 {l : Launch} {G : xG} {h : List va_E} {t d k : Int32} (hF : xF8 G h) (hM : xF9 G h) (hl : h.length = 125) : ∃ rr : Int32, CE l G yX8_where cX8_where 5 (some .int) 2 0 0 [.ref (G.1 + 0), .int t, .int d, .int k] h (some (.int rr)) (kp h) ∧ ∀ h1, kp h h1 → CE l G yX9_where cX9_where 7 (some .int) 2 0 0 [.ref (G.1 + 88), .int t, .int d, .int k] h1 (some (.int rr)) (fun _ => True) := by
  by_cases q2 : 0 ≤ t.toInt ∧ t.toInt < 12
  · by_cases q4 : d.toInt < 0
    · exact ⟨_, A16a hF (by omega) (by omega), fun h1 k1 => B16a (xF9_kp k1 hM) (by omega) (by omega)⟩
    · by_cases q6 : k.toInt < 0
      · exact ⟨_, A16b hF (by omega) (by omega) (by omega), fun h1 k1 => B16b (xF9_kp k1 hM) (by omega) (by omega) (by omega)⟩
      · by_cases q8 : 80000 < d.toInt
        · exact ⟨_, A16c hF (by omega) (by omega) (by omega), fun h1 k1 => B16c (xF9_kp k1 hM) (by omega) (by omega) (by omega)⟩
        · by_cases q10 : 80000 < k.toInt
          · exact ⟨_, A16e hF (by omega) (by omega) (by omega), fun h1 k1 => B16e (xF9_kp k1 hM) (by omega) (by omega) (by omega)⟩
          · exact ⟨_, A16o hF (by omega) (by omega) (by omega), fun h1 k1 => B16o (xF9_kp k1 hM) (by omega) (by omega) (by omega)⟩
  · exact ⟨_, A16t hF (by omega), fun h1 k1 => B16t (xF9_kp k1 hM) (by omega)⟩
theorem O17 {l : Launch} {G : xG} {h : List va_E} {t k : Int32} (hF : xF8 G h) (hM : xF9 G h) (hl : h.length = 125) : ∃ rr : Int32, CE l G yX8_quarrels cX8_quarrels 4 (some .int) 2 0 0 [.ref (G.1 + 0), .int t, .int k] h (some (.int rr)) (kp h) ∧ ∀ h1, kp h h1 → CE l G yX9_quarrels cX9_quarrels 9 (some .int) 2 0 0 [.ref (G.1 + 88), .int t, .int k] h1 (some (.int rr)) (fun _ => True) := by
  by_cases q2 : 0 ≤ t.toInt ∧ t.toInt < 12
  · by_cases q4 : k.toInt < 0
    · exact ⟨_, A17a hF (by omega) (by omega), fun h1 k1 => B17a (xF9_kp k1 hM) (by omega) (by omega)⟩
    · by_cases q6 : 80000 < k.toInt
      · exact ⟨_, A17c hF (by omega) (by omega), fun h1 k1 => B17c (xF9_kp k1 hM) (by omega) (by omega)⟩
      · exact ⟨_, A17o hF (by omega) (by omega), fun h1 k1 => B17o (xF9_kp k1 hM) (by omega) (by omega)⟩
  · exact ⟨_, A17t hF (by omega), fun h1 k1 => B17t (xF9_kp k1 hM) (by omega)⟩
theorem O18 {l : Launch} {G : xG} {h : List va_E} {t d k w : Int32} (hF : xF8 G h) (hM : xF9 G h) (hl : h.length = 125) : ∃ rr : Int32, CE l G yX8_holds cX8_holds 6 (some .int) 2 0 0 [.ref (G.1 + 0), .int t, .int d, .int k, .int w] h (some (.int rr)) (kp h) ∧ ∀ h1, kp h h1 → CE l G yX9_holds cX9_holds 6 (some .int) 2 0 0 [.ref (G.1 + 88), .int t, .int d, .int k, .int w] h1 (some (.int rr)) (fun _ => True) := by
  by_cases q2 : 0 ≤ t.toInt ∧ t.toInt < 12
  · by_cases q4 : w.toInt < 0
    · exact ⟨_, A18w hF (by omega) (by omega), fun h1 k1 => B18w (xF9_kp k1 hM) (by omega) (by omega)⟩
    · by_cases q6 : 3 ≤ w.toInt
      · exact ⟨_, A18x hF (by omega) (by omega), fun h1 k1 => B18x (xF9_kp k1 hM) (by omega) (by omega)⟩
      · by_cases q8 : d.toInt < 0
        · exact ⟨_, A18a hF (by omega) (by omega) (by omega), fun h1 k1 => B18a (xF9_kp k1 hM) (by omega) (by omega) (by omega)⟩
        · by_cases q10 : k.toInt < 0
          · exact ⟨_, A18b hF (by omega) (by omega) (by omega) (by omega), fun h1 k1 => B18b (xF9_kp k1 hM) (by omega) (by omega) (by omega) (by omega)⟩
          · by_cases q12 : 80000 < d.toInt
            · exact ⟨_, A18c hF (by omega) (by omega) (by omega) (by omega), fun h1 k1 => B18c (xF9_kp k1 hM) (by omega) (by omega) (by omega) (by omega)⟩
            · by_cases q14 : 80000 < k.toInt
              · exact ⟨_, A18e hF (by omega) (by omega) (by omega) (by omega), fun h1 k1 => B18e (xF9_kp k1 hM) (by omega) (by omega) (by omega) (by omega)⟩
              · by_cases q16 : w.toInt = 0
                · exact ⟨_, A18o0 hF (by omega) (by omega) (by omega) (by omega), fun h1 k1 => B18o0 (xF9_kp k1 hM) (by omega) (by omega) (by omega) (by omega)⟩
                · by_cases q18 : w.toInt = 1
                  · exact ⟨_, A18o1 hF (by omega) (by omega) (by omega) (by omega), fun h1 k1 => B18o1 (xF9_kp k1 hM) (by omega) (by omega) (by omega) (by omega)⟩
                  · exact ⟨_, A18o2 hF (by omega) (by omega) (by omega) (by omega), fun h1 k1 => B18o2 (xF9_kp k1 hM) (by omega) (by omega) (by omega) (by omega)⟩
  · exact ⟨_, A18t hF (by omega), fun h1 k1 => B18t (xF9_kp k1 hM) (by omega)⟩
theorem O19 {l : Launch} {G : xG} {h : List va_E} {t d k : Int32} (hF : xF8 G h) (hM : xF9 G h) (hl : h.length = 125) : ∃ rr : Int32, CE l G yX8_since cX8_since 5 (some .int) 3 0 0 [.ref (G.1 + 0), .int t, .int d, .int k] h (some (.int rr)) (kp h) ∧ ∀ h1, kp h h1 → CE l G yX9_since cX9_since 7 (some .int) 2 0 0 [.ref (G.1 + 88), .int t, .int d, .int k] h1 (some (.int rr)) (fun _ => True) := by
  by_cases q2 : 0 ≤ t.toInt ∧ t.toInt < 12
  · by_cases q4 : d.toInt < 0
    · exact ⟨_, A19a hF (by omega) (by omega), fun h1 k1 => B19a (xF9_kp k1 hM) (by omega) (by omega)⟩
    · by_cases q6 : k.toInt < 0
      · exact ⟨_, A19b hF (by omega) (by omega) (by omega), fun h1 k1 => B19b (xF9_kp k1 hM) (by omega) (by omega) (by omega)⟩
      · by_cases q8 : 80000 < d.toInt
        · exact ⟨_, A19c hF (by omega) (by omega) (by omega), fun h1 k1 => B19c (xF9_kp k1 hM) (by omega) (by omega) (by omega)⟩
        · by_cases q10 : 80000 < k.toInt
          · exact ⟨_, A19e hF (by omega) (by omega) (by omega), fun h1 k1 => B19e (xF9_kp k1 hM) (by omega) (by omega) (by omega)⟩
          · exact ⟨_, A19o hF (by omega) (by omega) (by omega), fun h1 k1 => B19o (xF9_kp k1 hM) (by omega) (by omega) (by omega)⟩
  · exact ⟨_, A19t hF (by omega), fun h1 k1 => B19t (xF9_kp k1 hM) (by omega)⟩
theorem O20 {l : Launch} {G : xG} {h : List va_E} {s x y v : Int32} (hF : xF8 G h) (hM : xF9 G h) (hl : h.length = 125) : ∃ rr : Int32, CE l G yX8_visitor cX8_visitor 5 (some .int) 2 0 0 [.ref (G.1 + 0), .int s, .int x, .int y, .int v] h (some (.int rr)) (kp h) ∧ ∀ h1, kp h h1 → CE l G yX9_visitor cX9_visitor 5 (some .int) 2 0 0 [.ref (G.1 + 88), .int s, .int x, .int y, .int v] h1 (some (.int rr)) (fun _ => True) := by
  by_cases q2 : s.toInt < 0
  · exact ⟨_, A20s hF (by omega), fun h1 k1 => B20s (xF9_kp k1 hM) (by omega)⟩
  · by_cases q4 : 4 ≤ s.toInt
    · exact ⟨_, A20r hF (by omega), fun h1 k1 => B20r (xF9_kp k1 hM) (by omega)⟩
    · by_cases q6 : 0 ≤ x.toInt ∧ x.toInt < 12
      · by_cases q8 : s.toInt = 0
        · by_cases q10 : 0 ≤ y.toInt ∧ y.toInt < 12
          · by_cases q12 : x.toInt = y.toInt
            · exact ⟨_, A20z0 hF (by omega) (by omega) (by omega) (by omega), fun h1 k1 => B20z0 (xF9_kp k1 hM) (by omega) (by omega) (by omega) (by omega)⟩
            · by_cases q14 : v.toInt < 1
              · exact ⟨_, A20a0 hF (by omega) (by omega) (by omega) (by omega) (by omega), fun h1 k1 => B20a0 (xF9_kp k1 hM) (by omega) (by omega) (by omega) (by omega) (by omega)⟩
              · by_cases q16 : 9 < v.toInt
                · exact ⟨_, A20b0 hF (by omega) (by omega) (by omega) (by omega) (by omega), fun h1 k1 => B20b0 (xF9_kp k1 hM) (by omega) (by omega) (by omega) (by omega) (by omega)⟩
                · exact ⟨_, A20o0 hF (by omega) (by omega) (by omega) (by omega) (by omega), fun h1 k1 => B20o0 (xF9_kp k1 hM) (by omega) (by omega) (by omega) (by omega) (by omega)⟩
          · exact ⟨_, A20y0 hF (by omega) (by omega) (by omega), fun h1 k1 => B20y0 (xF9_kp k1 hM) (by omega) (by omega) (by omega)⟩
        · by_cases q10 : s.toInt = 1
          · by_cases q12 : 0 ≤ y.toInt ∧ y.toInt < 12
            · by_cases q14 : x.toInt = y.toInt
              · exact ⟨_, A20z1 hF (by omega) (by omega) (by omega) (by omega), fun h1 k1 => B20z1 (xF9_kp k1 hM) (by omega) (by omega) (by omega) (by omega)⟩
              · by_cases q16 : v.toInt < 1
                · exact ⟨_, A20a1 hF (by omega) (by omega) (by omega) (by omega) (by omega), fun h1 k1 => B20a1 (xF9_kp k1 hM) (by omega) (by omega) (by omega) (by omega) (by omega)⟩
                · by_cases q18 : 9 < v.toInt
                  · exact ⟨_, A20b1 hF (by omega) (by omega) (by omega) (by omega) (by omega), fun h1 k1 => B20b1 (xF9_kp k1 hM) (by omega) (by omega) (by omega) (by omega) (by omega)⟩
                  · exact ⟨_, A20o1 hF (by omega) (by omega) (by omega) (by omega) (by omega), fun h1 k1 => B20o1 (xF9_kp k1 hM) (by omega) (by omega) (by omega) (by omega) (by omega)⟩
            · exact ⟨_, A20y1 hF (by omega) (by omega) (by omega), fun h1 k1 => B20y1 (xF9_kp k1 hM) (by omega) (by omega) (by omega)⟩
          · by_cases q12 : v.toInt < 1
            · exact ⟨_, A20a2 hF (by omega) (by omega) (by omega), fun h1 k1 => B20a2 (xF9_kp k1 hM) (by omega) (by omega) (by omega)⟩
            · by_cases q14 : 9 < v.toInt
              · exact ⟨_, A20b2 hF (by omega) (by omega) (by omega), fun h1 k1 => B20b2 (xF9_kp k1 hM) (by omega) (by omega) (by omega)⟩
              · exact ⟨_, A20o2 hF (by omega) (by omega) (by omega), fun h1 k1 => B20o2 (xF9_kp k1 hM) (by omega) (by omega) (by omega)⟩
      · exact ⟨_, A20x hF (by omega) (by omega), fun h1 k1 => B20x (xF9_kp k1 hM) (by omega) (by omega)⟩
theorem O24 {l : Launch} {G : xG} {h : List va_E} {p v : Int32} (hF : xF8 G h) (hM : xF9 G h) (hl : h.length = 125) : ∃ rr : Int32, CE l G yX8_part cX8_part 3 (some .int) 2 0 0 [.ref (G.1 + 0), .int p, .int v] h (some (.int rr)) (kp h) ∧ ∀ h1, kp h h1 → CE l G yX9_part cX9_part 5 (some .int) 2 0 0 [.ref (G.1 + 88), .int p, .int v] h1 (some (.int rr)) (fun _ => True) := by
  by_cases q2 : p.toInt < 0
  · exact ⟨_, A24p hF (by omega), fun h1 k1 => B24p (xF9_kp k1 hM) (by omega)⟩
  · by_cases q4 : 10 ≤ p.toInt
    · exact ⟨_, A24q hF (by omega), fun h1 k1 => B24q (xF9_kp k1 hM) (by omega)⟩
    · by_cases q6 : v.toInt < 0
      · exact ⟨_, A24a hF (by omega) (by omega), fun h1 k1 => B24a (xF9_kp k1 hM) (by omega) (by omega)⟩
      · by_cases q8 : 5 < v.toInt
        · exact ⟨_, A24b hF (by omega) (by omega), fun h1 k1 => B24b (xF9_kp k1 hM) (by omega) (by omega)⟩
        · exact ⟨_, A24o hF (by omega) (by omega), fun h1 k1 => B24o (xF9_kp k1 hM) (by omega) (by omega)⟩
theorem O25_0 {l : Launch} {G : xG} {h : List va_E} {a b : Int32} (hF : xF8 G h) (hM : xF9 G h) (hl : h.length = 125) : ∃ rr : Int32, CE l G yX8_clash cX8_clash 4 (some .int) 2 0 0 [.ref (G.1 + 0), .int a, .int b, .int 0] h (some (.int rr)) (kp h) ∧ ∀ h1, kp h h1 → CE l G yX9_clash cX9_clash 4 (some .int) 2 0 0 [.ref (G.1 + 88), .int a, .int b, .int 0] h1 (some (.int rr)) (fun _ => True) := by
  by_cases q2 : a.toInt < 0
  · exact ⟨_, A25a0 hF (by omega), fun h1 k1 => B25a0 (xF9_kp k1 hM) (by omega)⟩
  · by_cases q4 : b.toInt < 0
    · exact ⟨_, A25b0 hF (by omega) (by omega), fun h1 k1 => B25b0 (xF9_kp k1 hM) (by omega) (by omega)⟩
    · by_cases q6 : 6 ≤ a.toInt
      · exact ⟨_, A25c0 hF (by omega) (by omega), fun h1 k1 => B25c0 (xF9_kp k1 hM) (by omega) (by omega)⟩
      · by_cases q8 : 6 ≤ b.toInt
        · exact ⟨_, A25d0 hF (by omega) (by omega), fun h1 k1 => B25d0 (xF9_kp k1 hM) (by omega) (by omega)⟩
        · by_cases q10 : a.toInt = b.toInt
          · exact ⟨_, A25e0 hF (by omega) (by omega) (by omega), fun h1 k1 => B25e0 (xF9_kp k1 hM) (by omega) (by omega) (by omega)⟩
          · exact ⟨_, A25o0 hF (by omega) (by omega) (by omega), fun h1 k1 => B25o0 (xF9_kp k1 hM) (by omega) (by omega) (by omega)⟩
theorem O25_1 {l : Launch} {G : xG} {h : List va_E} {a b : Int32} (hF : xF8 G h) (hM : xF9 G h) (hl : h.length = 125) : ∃ rr : Int32, CE l G yX8_clash cX8_clash 4 (some .int) 2 0 0 [.ref (G.1 + 0), .int a, .int b, .int 1] h (some (.int rr)) (kp h) ∧ ∀ h1, kp h h1 → CE l G yX9_clash cX9_clash 4 (some .int) 2 0 0 [.ref (G.1 + 88), .int a, .int b, .int 1] h1 (some (.int rr)) (fun _ => True) := by
  by_cases q2 : a.toInt < 0
  · exact ⟨_, A25a1 hF (by omega), fun h1 k1 => B25a1 (xF9_kp k1 hM) (by omega)⟩
  · by_cases q4 : b.toInt < 0
    · exact ⟨_, A25b1 hF (by omega) (by omega), fun h1 k1 => B25b1 (xF9_kp k1 hM) (by omega) (by omega)⟩
    · by_cases q6 : 6 ≤ a.toInt
      · exact ⟨_, A25c1 hF (by omega) (by omega), fun h1 k1 => B25c1 (xF9_kp k1 hM) (by omega) (by omega)⟩
      · by_cases q8 : 6 ≤ b.toInt
        · exact ⟨_, A25d1 hF (by omega) (by omega), fun h1 k1 => B25d1 (xF9_kp k1 hM) (by omega) (by omega)⟩
        · by_cases q10 : a.toInt = b.toInt
          · exact ⟨_, A25e1 hF (by omega) (by omega) (by omega), fun h1 k1 => B25e1 (xF9_kp k1 hM) (by omega) (by omega) (by omega)⟩
          · exact ⟨_, A25o1 hF (by omega) (by omega) (by omega), fun h1 k1 => B25o1 (xF9_kp k1 hM) (by omega) (by omega) (by omega)⟩
theorem O26 {l : Launch} {G : xG} {h : List va_E} {b : Int32} (hF : xF8 G h) (hM : xF9 G h) (hl : h.length = 125) : ∃ rr : Int32, CE l G yX8_fake cX8_fake 2 (some .int) 2 0 0 [.ref (G.1 + 0), .int b] h (some (.int rr)) (kp h) ∧ ∀ h1, kp h h1 → CE l G yX9_fake cX9_fake 2 (some .int) 2 0 0 [.ref (G.1 + 88), .int b] h1 (some (.int rr)) (fun _ => True) := by
  by_cases q2 : 0 ≤ b.toInt ∧ b.toInt < 1024
  · exact ⟨_, A26o hF (by omega), fun h1 k1 => B26o (xF9_kp k1 hM) (by omega)⟩
  · exact ⟨_, A26a hF (by omega), fun h1 k1 => B26a (xF9_kp k1 hM) (by omega)⟩
theorem O27 {l : Launch} {G : xG} {h : List va_E} {b : Int32} (hF : xF8 G h) (hM : xF9 G h) (hl : h.length = 125) : ∃ rr : Int32, CE l G yX8_least cX8_least 2 (some .int) 2 0 0 [.ref (G.1 + 0), .int b] h (some (.int rr)) (kp h) ∧ ∀ h1, kp h h1 → CE l G yX9_least cX9_least 4 (some .int) 2 0 0 [.ref (G.1 + 88), .int b] h1 (some (.int rr)) (fun _ => True) := by
  by_cases q2 : 0 ≤ b.toInt ∧ b.toInt < 1024
  · by_cases q4 : b.toInt = 0
    · exact ⟨_, A27z hF (by omega) (by omega), fun h1 k1 => B27o (xF9_kp k1 hM) (by omega)⟩
    · exact ⟨_, A27p hF (by omega) (by omega), fun h1 k1 => B27o (xF9_kp k1 hM) (by omega)⟩
  · exact ⟨_, A27a hF (by omega), fun h1 k1 => B27a (xF9_kp k1 hM) (by omega)⟩
theorem O28 {l : Launch} {G : xG} {h : List va_E} {w : Int32} (hF : xF8 G h) (hM : xF9 G h) (hl : h.length = 125) : ∃ rr : Int32, CE l G yX8_count cX8_count 2 (some .int) 2 0 0 [.ref (G.1 + 0), .int w] h (some (.int rr)) (kp h) ∧ ∀ h1, kp h h1 → CE l G yX9_count cX9_count 5 (some .int) 2 0 0 [.ref (G.1 + 88), .int w] h1 (some (.int rr)) (fun _ => True) := by
  by_cases q2 : w.toInt < 0
  · exact ⟨_, A28n hF (by omega), fun h1 k1 => B28n (xF9_kp k1 hM) (by omega)⟩
  · by_cases q4 : 16 < w.toInt
    · exact ⟨_, A28p hF (by omega), fun h1 k1 => B28p (xF9_kp k1 hM) (by omega)⟩
    · by_cases q6 : w.toInt = 0
      · obtain rfl : w = 0 := (i_eq _ _).mpr (by assumption); exact ⟨_, A28_0 hF, fun h1 k1 => B28_0 (xF9_kp k1 hM)⟩
      · by_cases q8 : w.toInt = 1
        · obtain rfl : w = 1 := (i_eq _ _).mpr (by assumption); exact ⟨_, A28_1 hF, fun h1 k1 => B28_1 (xF9_kp k1 hM)⟩
        · by_cases q10 : w.toInt = 2
          · obtain rfl : w = 2 := (i_eq _ _).mpr (by assumption); exact ⟨_, A28_2 hF, fun h1 k1 => B28_2 (xF9_kp k1 hM)⟩
          · by_cases q12 : w.toInt = 3
            · obtain rfl : w = 3 := (i_eq _ _).mpr (by assumption); exact ⟨_, A28_3 hF, fun h1 k1 => B28_3 (xF9_kp k1 hM)⟩
            · by_cases q14 : w.toInt = 4
              · obtain rfl : w = 4 := (i_eq _ _).mpr (by assumption); exact ⟨_, A28_4 hF, fun h1 k1 => B28_4 (xF9_kp k1 hM)⟩
              · by_cases q16 : w.toInt = 5
                · obtain rfl : w = 5 := (i_eq _ _).mpr (by assumption); exact ⟨_, A28_5 hF, fun h1 k1 => B28_5 (xF9_kp k1 hM)⟩
                · by_cases q18 : w.toInt = 6
                  · obtain rfl : w = 6 := (i_eq _ _).mpr (by assumption); exact ⟨_, A28_6 hF, fun h1 k1 => B28_6 (xF9_kp k1 hM)⟩
                  · by_cases q20 : w.toInt = 7
                    · obtain rfl : w = 7 := (i_eq _ _).mpr (by assumption); exact ⟨_, A28_7 hF, fun h1 k1 => B28_7 (xF9_kp k1 hM)⟩
                    · by_cases q22 : w.toInt = 8
                      · obtain rfl : w = 8 := (i_eq _ _).mpr (by assumption); exact ⟨_, A28_8 hF, fun h1 k1 => B28_8 (xF9_kp k1 hM)⟩
                      · by_cases q24 : w.toInt = 9
                        · obtain rfl : w = 9 := (i_eq _ _).mpr (by assumption); exact ⟨_, A28_9 hF, fun h1 k1 => B28_9 (xF9_kp k1 hM)⟩
                        · by_cases q26 : w.toInt = 10
                          · obtain rfl : w = 10 := (i_eq _ _).mpr (by assumption); exact ⟨_, A28x hF, fun h1 k1 => B28x (xF9_kp k1 hM)⟩
                          · by_cases q28 : w.toInt = 11
                            · obtain rfl : w = 11 := (i_eq _ _).mpr (by assumption); exact ⟨_, A28_11 hF, fun h1 k1 => B28_11 (xF9_kp k1 hM)⟩
                            · by_cases q30 : w.toInt = 12
                              · obtain rfl : w = 12 := (i_eq _ _).mpr (by assumption); exact ⟨_, A28_12 hF, fun h1 k1 => B28_12 (xF9_kp k1 hM)⟩
                              · by_cases q32 : w.toInt = 13
                                · obtain rfl : w = 13 := (i_eq _ _).mpr (by assumption); exact ⟨_, A28_13 hF, fun h1 k1 => B28_13 (xF9_kp k1 hM)⟩
                                · by_cases q34 : w.toInt = 14
                                  · obtain rfl : w = 14 := (i_eq _ _).mpr (by assumption); exact ⟨_, A28_14 hF, fun h1 k1 => B28_14 (xF9_kp k1 hM)⟩
                                  · by_cases q36 : w.toInt = 15
                                    · obtain rfl : w = 15 := (i_eq _ _).mpr (by assumption); exact ⟨_, A28_15 hF, fun h1 k1 => B28_15 (xF9_kp k1 hM)⟩
                                    · by_cases q38 : w.toInt = 16
                                      · obtain rfl : w = 16 := (i_eq _ _).mpr (by assumption); exact ⟨_, A28_16 hF, fun h1 k1 => B28_16 (xF9_kp k1 hM)⟩
                                      · exact absurd trivial (by omega)
