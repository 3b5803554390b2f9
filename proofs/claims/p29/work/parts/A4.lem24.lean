theorem cS_k2 {G : xG} {oS : Option Nat} {so x y tr : Nat → Nat} {n : Nat} {h h1 : List va_E} (hc : cS G oS so x y tr n h) (hl : h.length ≤ h1.length) (fr : ∀ S, oS = some S → 125 ≤ S → S + 10 ≤ h.length → ∀ j, S ≤ j → j ≤ S + 9 → h1[j]? = h[j]?) : cS G oS so x y tr n h1 := by
  cases oS with
  | none => trivial
  | some S =>
    obtain ⟨q1, q2, sz, b0, y0, tt, su, po, tg, lf, be, le, re, gg, bs, to, f0, f1, f2, f3, f4, f5, f6, f7, f8, f9, e⟩ := hc
    have k := fr S rfl q1 q2
    exact ⟨q1, by omega, sz, b0, y0, tt, su, po, tg, lf, be, le, re, gg, bs, to, (k _ (by omega) (by omega)).trans f0, (k _ (by omega) (by omega)).trans f1, (k _ (by omega) (by omega)).trans f2, (k _ (by omega) (by omega)).trans f3, (k _ (by omega) (by omega)).trans f4, (k _ (by omega) (by omega)).trans f5, (k _ (by omega) (by omega)).trans f6, (k _ (by omega) (by omega)).trans f7, (k _ (by omega) (by omega)).trans f8, (k _ (by omega) (by omega)).trans f9, e⟩
theorem cJ_k2 {G : xG} {Φ : jgP} {oJ : Option Nat} {h h1 : List va_E} (hc : cJ G Φ oJ h) (hl : h.length ≤ h1.length) (f0 : ∀ j, 13 ≤ j → j < 61 → h1[j]? = h[j]?) (fr : ∀ J, oJ = some J → 125 ≤ J → J + 6 ≤ h.length → ∀ j, J ≤ j → j ≤ J + 5 → h1[j]? = h[j]?) : cJ G Φ oJ h1 := by
  cases oJ with
  | none => exact iJs_k hc f0
  | some J =>
    obtain ⟨⟨q1, q2, u, v, ro, co, rc, lk, bs, wy, nw, g0, g1, g2, g3, g4, g5, e1, e2, e3, e4⟩, q4⟩ := hc
    have k := fr J rfl q1 q2
    exact ⟨⟨q1, by omega, u, v, ro, co, rc, lk, bs, wy, nw, (k _ (by omega) (by omega)).trans g0, (k _ (by omega) (by omega)).trans g1, (k _ (by omega) (by omega)).trans g2, (k _ (by omega) (by omega)).trans g3, (k _ (by omega) (by omega)).trans g4, (k _ (by omega) (by omega)).trans g5, e1, e2, e3, e4⟩, iJs_k q4 f0⟩
theorem cS_vis {G : xG} {oS : Option Nat} {so x y tr : Nat → Nat} {n a b c d : Nat} {h : List va_E} {ok : Prop} [Decidable ok] (hc : cS G oS so x y tr n h) : cS G oS (spUn ok so n a) (spUn ok x n b) (spUn ok y n c) (spUn ok tr n d) (spN ok n (n + 1)) h := by
  cases oS with
  | none => trivial
  | some S =>
    by_cases q : ok
    · obtain ⟨q1, q2, sz, b0, y0, tt, su, po, tg, lf, be, le, re, gg, bs, to, f0, f1, f2, f3, f4, f5, f6, f7, f8, f9, e1, e2, e3, e4, e5⟩ := hc
      rw [spN_y q]
      exact ⟨q1, q2, sz, b0, y0, tt, su, po, tg, lf, be, le, re, gg, bs, to, f0, f1, f2, f3, f4, f5, f6, f7, f8, f9, e1, e2, e3, by omega, fun e => by omega⟩
    · rw [spUn_n q, spUn_n q, spUn_n q, spUn_n q, spN_n q]; exact hc
theorem ent_S {fi se : Nat → Nat} {c w : Int32} {W Sn : Nat → Int32} {ok : Prop} [Decidable ok] (h : ∀ j, j < 40 → Sn j = snF se (W j) 20) : ∀ j, j < 40 → spUp fi c ok Sn (snF se w 20) j = snF se (spUp fi c ok W w j) 20 := by
  intro j hj
  by_cases q : ok
  · rw [spUp_y q, spUp_y q]
    simp only [upd]
    split
    · rfl
    · exact h j hj
  · rw [spUp_n q, spUp_n q]; exact h j hj
theorem kp_grw {a b c d : Nat} {h h1 : List va_E} (k : grw a b c d h h1) (hl : 125 ≤ h.length) (hb : b < 88) (hd : d < 88) : kp h h1 := fun j q1 q2 => k.2 j (by omega) (by omega)
