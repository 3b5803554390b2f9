def lnum : List UInt8 → Nat
  | [] => 0
  | b :: r => b.toNat + 256 * lnum r
theorem lnum_c (b : UInt8) (r : List UInt8) : lnum (b :: r) = b.toNat + 256 * lnum r := rfl
theorem lnum_at : ∀ (l : List UInt8) (p : Nat) (h : p < l.length), (l[p]'h).toNat = (lnum l >>> (8 * p)) % 256
  | [], _, h => absurd h (Nat.not_lt_zero _)
  | b :: r, 0, _ => by
    have hb := b.toNat_lt
    show b.toNat = (lnum (b :: r) >>> (8 * 0)) % 256
    rw [Nat.mul_zero, Nat.shiftRight_zero]
    rw [lnum_c]
    omega
  | b :: r, p + 1, h => by
    have hb := b.toNat_lt
    have e : lnum (b :: r) >>> 8 = lnum r := by
      rw [Nat.shiftRight_eq_div_pow, lnum_c]; omega
    rw [show 8 * (p + 1) = 8 + 8 * p by omega, Nat.shiftRight_add, e]
    exact lnum_at r p (Nat.lt_of_succ_lt_succ h)
def bT (c : ByteArray) (S N : Nat) : Bool := Nat.beq c.data.toList.length S && Nat.beq (lnum c.data.toList) N
def by1 (c : ByteArray) (p b : Nat) : Prop := ∃ h : p < c.size, (c[p]'h).toNat = b
theorem by1_of {c : ByteArray} {S N p b : Nat} (T : bT c S N = true) (h : Nat.ble (p + 1) S = true) (e : Nat.beq ((N >>> (8 * p)) % 256) b = true) : by1 c p b := by
  unfold bT at T
  rw [Bool.and_eq_true] at T
  have t1 := Nat.eq_of_beq_eq_true T.1
  have t2 := Nat.eq_of_beq_eq_true T.2
  have h2 := Nat.le_of_ble_eq_true h
  have e2 := Nat.eq_of_beq_eq_true e
  have hl : p < c.data.toList.length := by omega
  refine ⟨by show p < c.data.size; rw [← Array.length_toList]; exact hl, ?_⟩
  rw [← e2, ← t2, ← lnum_at _ _ hl]
  rfl
theorem u1_run {α : Type} {c : ByteArray} {p b : Nat} (h : by1 c p b) (k : Nat → Decoder α) : Reader.runAt (Reader.u1 >>= k) c p = Reader.runAt (k b) c (p + 1) := by
  obtain ⟨h1, h2⟩ := h
  subst h2
  show (do let a ← (Reader.u1 : Decoder Nat) c p; k a.1 c a.2 : Except DecodeError (α × Nat)) = k (c[p]'h1).toNat c (p + 1)
  have : (Reader.u1 : Decoder Nat) c p = .ok ((c[p]'h1).toNat, p + 1) := by
    show (if h : p < c.size then _ else _ : Decoder Nat) c p = _
    rw [dif_pos h1]; rfl
  rw [this]; rfl
theorem dec_of {c : ByteArray} {p n : Nat} {i : Instr} (h : Reader.runAt (Decoder.instr p) c p = .ok (i, p + n)) : decode c p = .ok (i, n) := by
  unfold decode
  rw [h]
  show Except.ok (i, p + n - p) = _
  rw [Nat.add_sub_cancel_left]
theorem r_run {α β : Type} {c : ByteArray} {p q : Nat} {r : Decoder β} {a : β} (h : r c p = .ok (a, q)) (k : β → Decoder α) : Reader.runAt (r >>= k) c p = Reader.runAt (k a) c q := by
  show (do let a ← r c p; k a.1 c a.2 : Except DecodeError (α × Nat)) = k a c q
  rw [h]; rfl
theorem u1_r {c : ByteArray} {p b : Nat} (h : by1 c p b) : (Reader.u1 : Decoder Nat) c p = .ok (b, p + 1) := by
  obtain ⟨h1, h2⟩ := h
  subst h2
  show (if h : p < c.size then _ else _ : Decoder Nat) c p = _
  rw [dif_pos h1]; rfl
theorem u2_r {c : ByteArray} {p x y : Nat} (h : by1 c p x) (h2 : by1 c (p + 1) y) : (Reader.u2 : Decoder Nat) c p = .ok (x * 256 + y, p + 2) := by
  show Reader.runAt (Reader.u1 >>= fun hi => Reader.u1 >>= fun lo => pure (hi * 256 + lo) : Decoder Nat) c p = _
  rw [u1_run h]
  show Reader.runAt (Reader.u1 >>= fun lo => pure (x * 256 + lo) : Decoder Nat) c (p + 1) = _
  rw [u1_run h2]; rfl
theorem map_r {α β : Type} {c : ByteArray} {p q : Nat} {r : Decoder α} {a : α} (f : α → β) (h : r c p = .ok (a, q)) : (f <$> r : Decoder β) c p = .ok (f a, q) := by
  show (do let a ← r c p; pure (f a.1, a.2) : Except DecodeError (β × Nat)) = _
  rw [h]; rfl
def w1 (S N p b : Nat) : Bool := Nat.ble (p + 1) S && Nat.beq ((N >>> (8 * p)) % 256) b
def w2 (S N p b x : Nat) : Bool := w1 S N p b && w1 S N (p + 1) x
def w3 (S N p b x : Nat) : Bool := w1 S N p b && (w1 S N (p + 1) (x / 256) && w1 S N (p + 2) (x % 256))
def v2 (S N p b u : Nat) (x : Int) : Bool := w2 S N p b u && decide (Reader.signed 8 u = x)
def v3 (S N p b u : Nat) (x : Int) : Bool := w3 S N p b u && decide (Reader.signed 16 u = x)
def vi (S N p b x u : Nat) (y : Int) : Bool := w2 S N p b x && (w1 S N (p + 2) u && decide (Reader.signed 8 u = y))
theorem w1_of {c : ByteArray} {S N p b : Nat} (T : bT c S N = true) (h : w1 S N p b = true) : by1 c p b := by
  unfold w1 at h
  rw [Bool.and_eq_true] at h
  exact by1_of T h.1 h.2
theorem w2_of {c : ByteArray} {S N p b x : Nat} (T : bT c S N = true) (h : w2 S N p b x = true) : by1 c p b ∧ by1 c (p + 1) x := by
  unfold w2 at h
  rw [Bool.and_eq_true] at h
  exact ⟨w1_of T h.1, w1_of T h.2⟩
theorem w3_of {c : ByteArray} {S N p b x : Nat} (T : bT c S N = true) (h : w3 S N p b x = true) : by1 c p b ∧ (Reader.u2 : Decoder Nat) c (p + 1) = .ok (x, p + 3) := by
  unfold w3 at h
  rw [Bool.and_eq_true, Bool.and_eq_true] at h
  refine ⟨w1_of T h.1, ?_⟩
  have e := u2_r (w1_of T h.2.1) (w1_of T h.2.2)
  rw [show x / 256 * 256 + x % 256 = x by omega] at e
  exact e
theorem v2_of {c : ByteArray} {S N p b u : Nat} {x : Int} (T : bT c S N = true) (h : v2 S N p b u x = true) : by1 c p b ∧ (Reader.s1 : Decoder Int) c (p + 1) = .ok (x, p + 2) := by
  unfold v2 at h
  rw [Bool.and_eq_true] at h
  have e := of_decide_eq_true h.2
  subst e
  exact ⟨(w2_of T h.1).1, map_r _ (u1_r (w2_of T h.1).2)⟩
theorem v3_of {c : ByteArray} {S N p b u : Nat} {x : Int} (T : bT c S N = true) (h : v3 S N p b u x = true) : by1 c p b ∧ (Reader.s2 : Decoder Int) c (p + 1) = .ok (x, p + 3) := by
  unfold v3 at h
  rw [Bool.and_eq_true] at h
  have e := of_decide_eq_true h.2
  subst e
  exact ⟨(w3_of T h.1).1, map_r _ (w3_of T h.1).2⟩
theorem vi_of {c : ByteArray} {S N p b x u : Nat} {y : Int} (T : bT c S N = true) (h : vi S N p b x u y = true) : by1 c p b ∧ by1 c (p + 1) x ∧ (Reader.s1 : Decoder Int) c (p + 2) = .ok (y, p + 3) := by
  unfold vi at h
  rw [Bool.and_eq_true, Bool.and_eq_true] at h
  have e := of_decide_eq_true h.2.2
  subst e
  exact ⟨(w2_of T h.1).1, (w2_of T h.1).2, map_r _ (u1_r (w1_of T h.2.1))⟩

theorem dk_1 {c : ByteArray} {S N p : Nat} (T : bT c S N = true) (h : w1 S N p 1 = true) : decode c p = .ok (.aconst_null, 1) := dec_of ((u1_run (w1_of T h) _).trans rfl)
theorem dk_2 {c : ByteArray} {S N p : Nat} (T : bT c S N = true) (h : w1 S N p 2 = true) : decode c p = .ok (.iconst (-1), 1) := dec_of ((u1_run (w1_of T h) _).trans rfl)
theorem dk_3 {c : ByteArray} {S N p : Nat} (T : bT c S N = true) (h : w1 S N p 3 = true) : decode c p = .ok (.iconst 0, 1) := dec_of ((u1_run (w1_of T h) _).trans rfl)
theorem dk_4 {c : ByteArray} {S N p : Nat} (T : bT c S N = true) (h : w1 S N p 4 = true) : decode c p = .ok (.iconst 1, 1) := dec_of ((u1_run (w1_of T h) _).trans rfl)
theorem dk_5 {c : ByteArray} {S N p : Nat} (T : bT c S N = true) (h : w1 S N p 5 = true) : decode c p = .ok (.iconst 2, 1) := dec_of ((u1_run (w1_of T h) _).trans rfl)
theorem dk_6 {c : ByteArray} {S N p : Nat} (T : bT c S N = true) (h : w1 S N p 6 = true) : decode c p = .ok (.iconst 3, 1) := dec_of ((u1_run (w1_of T h) _).trans rfl)
theorem dk_7 {c : ByteArray} {S N p : Nat} (T : bT c S N = true) (h : w1 S N p 7 = true) : decode c p = .ok (.iconst 4, 1) := dec_of ((u1_run (w1_of T h) _).trans rfl)
theorem dk_8 {c : ByteArray} {S N p : Nat} (T : bT c S N = true) (h : w1 S N p 8 = true) : decode c p = .ok (.iconst 5, 1) := dec_of ((u1_run (w1_of T h) _).trans rfl)
theorem dk_10 {c : ByteArray} {S N p : Nat} (T : bT c S N = true) (h : w1 S N p 10 = true) : decode c p = .ok (.lconst 1, 1) := dec_of ((u1_run (w1_of T h) _).trans rfl)
theorem dk_16 {c : ByteArray} {S N p : Nat} {x : Int} (u : Nat) (T : bT c S N = true) (h : v2 S N p 16 u x = true) : decode c p = .ok (.bipush x, 2) := dec_of ((u1_run (v2_of T h).1 _).trans ((r_run (v2_of T h).2 _).trans rfl))
theorem dk_17 {c : ByteArray} {S N p : Nat} {x : Int} (u : Nat) (T : bT c S N = true) (h : v3 S N p 17 u x = true) : decode c p = .ok (.sipush x, 3) := dec_of ((u1_run (v3_of T h).1 _).trans ((r_run (v3_of T h).2 _).trans rfl))
theorem dk_18 {c : ByteArray} {S N p : Nat} {x : Nat} (T : bT c S N = true) (h : w2 S N p 18 x = true) : decode c p = .ok (.ldc x, 2) := dec_of ((u1_run (w2_of T h).1 _).trans ((u1_run (w2_of T h).2 _).trans rfl))
theorem dk_19 {c : ByteArray} {S N p : Nat} {x : Nat} (T : bT c S N = true) (h : w3 S N p 19 x = true) : decode c p = .ok (.ldc_w x, 3) := dec_of ((u1_run (w3_of T h).1 _).trans ((r_run (w3_of T h).2 _).trans rfl))
theorem dk_21 {c : ByteArray} {S N p : Nat} {x : Nat} (T : bT c S N = true) (h : w2 S N p 21 x = true) : decode c p = .ok (.iload x, 2) := dec_of ((u1_run (w2_of T h).1 _).trans ((u1_run (w2_of T h).2 _).trans rfl))
theorem dk_25 {c : ByteArray} {S N p : Nat} {x : Nat} (T : bT c S N = true) (h : w2 S N p 25 x = true) : decode c p = .ok (.aload x, 2) := dec_of ((u1_run (w2_of T h).1 _).trans ((u1_run (w2_of T h).2 _).trans rfl))
theorem dk_26 {c : ByteArray} {S N p : Nat} (T : bT c S N = true) (h : w1 S N p 26 = true) : decode c p = .ok (.iload_n 0, 1) := dec_of ((u1_run (w1_of T h) _).trans rfl)
theorem dk_27 {c : ByteArray} {S N p : Nat} (T : bT c S N = true) (h : w1 S N p 27 = true) : decode c p = .ok (.iload_n 1, 1) := dec_of ((u1_run (w1_of T h) _).trans rfl)
theorem dk_28 {c : ByteArray} {S N p : Nat} (T : bT c S N = true) (h : w1 S N p 28 = true) : decode c p = .ok (.iload_n 2, 1) := dec_of ((u1_run (w1_of T h) _).trans rfl)
theorem dk_29 {c : ByteArray} {S N p : Nat} (T : bT c S N = true) (h : w1 S N p 29 = true) : decode c p = .ok (.iload_n 3, 1) := dec_of ((u1_run (w1_of T h) _).trans rfl)
theorem dk_42 {c : ByteArray} {S N p : Nat} (T : bT c S N = true) (h : w1 S N p 42 = true) : decode c p = .ok (.aload_n 0, 1) := dec_of ((u1_run (w1_of T h) _).trans rfl)
theorem dk_43 {c : ByteArray} {S N p : Nat} (T : bT c S N = true) (h : w1 S N p 43 = true) : decode c p = .ok (.aload_n 1, 1) := dec_of ((u1_run (w1_of T h) _).trans rfl)
theorem dk_44 {c : ByteArray} {S N p : Nat} (T : bT c S N = true) (h : w1 S N p 44 = true) : decode c p = .ok (.aload_n 2, 1) := dec_of ((u1_run (w1_of T h) _).trans rfl)
theorem dk_45 {c : ByteArray} {S N p : Nat} (T : bT c S N = true) (h : w1 S N p 45 = true) : decode c p = .ok (.aload_n 3, 1) := dec_of ((u1_run (w1_of T h) _).trans rfl)
theorem dk_46 {c : ByteArray} {S N p : Nat} (T : bT c S N = true) (h : w1 S N p 46 = true) : decode c p = .ok (.iaload, 1) := dec_of ((u1_run (w1_of T h) _).trans rfl)
theorem dk_47 {c : ByteArray} {S N p : Nat} (T : bT c S N = true) (h : w1 S N p 47 = true) : decode c p = .ok (.laload, 1) := dec_of ((u1_run (w1_of T h) _).trans rfl)
theorem dk_50 {c : ByteArray} {S N p : Nat} (T : bT c S N = true) (h : w1 S N p 50 = true) : decode c p = .ok (.aaload, 1) := dec_of ((u1_run (w1_of T h) _).trans rfl)
theorem dk_51 {c : ByteArray} {S N p : Nat} (T : bT c S N = true) (h : w1 S N p 51 = true) : decode c p = .ok (.baload, 1) := dec_of ((u1_run (w1_of T h) _).trans rfl)
theorem dk_54 {c : ByteArray} {S N p : Nat} {x : Nat} (T : bT c S N = true) (h : w2 S N p 54 x = true) : decode c p = .ok (.istore x, 2) := dec_of ((u1_run (w2_of T h).1 _).trans ((u1_run (w2_of T h).2 _).trans rfl))
theorem dk_58 {c : ByteArray} {S N p : Nat} {x : Nat} (T : bT c S N = true) (h : w2 S N p 58 x = true) : decode c p = .ok (.astore x, 2) := dec_of ((u1_run (w2_of T h).1 _).trans ((u1_run (w2_of T h).2 _).trans rfl))
theorem dk_59 {c : ByteArray} {S N p : Nat} (T : bT c S N = true) (h : w1 S N p 59 = true) : decode c p = .ok (.istore_n 0, 1) := dec_of ((u1_run (w1_of T h) _).trans rfl)
theorem dk_60 {c : ByteArray} {S N p : Nat} (T : bT c S N = true) (h : w1 S N p 60 = true) : decode c p = .ok (.istore_n 1, 1) := dec_of ((u1_run (w1_of T h) _).trans rfl)
theorem dk_61 {c : ByteArray} {S N p : Nat} (T : bT c S N = true) (h : w1 S N p 61 = true) : decode c p = .ok (.istore_n 2, 1) := dec_of ((u1_run (w1_of T h) _).trans rfl)
theorem dk_62 {c : ByteArray} {S N p : Nat} (T : bT c S N = true) (h : w1 S N p 62 = true) : decode c p = .ok (.istore_n 3, 1) := dec_of ((u1_run (w1_of T h) _).trans rfl)
theorem dk_76 {c : ByteArray} {S N p : Nat} (T : bT c S N = true) (h : w1 S N p 76 = true) : decode c p = .ok (.astore_n 1, 1) := dec_of ((u1_run (w1_of T h) _).trans rfl)
theorem dk_77 {c : ByteArray} {S N p : Nat} (T : bT c S N = true) (h : w1 S N p 77 = true) : decode c p = .ok (.astore_n 2, 1) := dec_of ((u1_run (w1_of T h) _).trans rfl)
theorem dk_78 {c : ByteArray} {S N p : Nat} (T : bT c S N = true) (h : w1 S N p 78 = true) : decode c p = .ok (.astore_n 3, 1) := dec_of ((u1_run (w1_of T h) _).trans rfl)
theorem dk_79 {c : ByteArray} {S N p : Nat} (T : bT c S N = true) (h : w1 S N p 79 = true) : decode c p = .ok (.iastore, 1) := dec_of ((u1_run (w1_of T h) _).trans rfl)
theorem dk_80 {c : ByteArray} {S N p : Nat} (T : bT c S N = true) (h : w1 S N p 80 = true) : decode c p = .ok (.lastore, 1) := dec_of ((u1_run (w1_of T h) _).trans rfl)
theorem dk_83 {c : ByteArray} {S N p : Nat} (T : bT c S N = true) (h : w1 S N p 83 = true) : decode c p = .ok (.aastore, 1) := dec_of ((u1_run (w1_of T h) _).trans rfl)
theorem dk_84 {c : ByteArray} {S N p : Nat} (T : bT c S N = true) (h : w1 S N p 84 = true) : decode c p = .ok (.bastore, 1) := dec_of ((u1_run (w1_of T h) _).trans rfl)
theorem dk_87 {c : ByteArray} {S N p : Nat} (T : bT c S N = true) (h : w1 S N p 87 = true) : decode c p = .ok (.pop, 1) := dec_of ((u1_run (w1_of T h) _).trans rfl)
theorem dk_89 {c : ByteArray} {S N p : Nat} (T : bT c S N = true) (h : w1 S N p 89 = true) : decode c p = .ok (.dup, 1) := dec_of ((u1_run (w1_of T h) _).trans rfl)
theorem dk_92 {c : ByteArray} {S N p : Nat} (T : bT c S N = true) (h : w1 S N p 92 = true) : decode c p = .ok (.dup2, 1) := dec_of ((u1_run (w1_of T h) _).trans rfl)
theorem dk_96 {c : ByteArray} {S N p : Nat} (T : bT c S N = true) (h : w1 S N p 96 = true) : decode c p = .ok (.iadd, 1) := dec_of ((u1_run (w1_of T h) _).trans rfl)
theorem dk_100 {c : ByteArray} {S N p : Nat} (T : bT c S N = true) (h : w1 S N p 100 = true) : decode c p = .ok (.isub, 1) := dec_of ((u1_run (w1_of T h) _).trans rfl)
theorem dk_104 {c : ByteArray} {S N p : Nat} (T : bT c S N = true) (h : w1 S N p 104 = true) : decode c p = .ok (.imul, 1) := dec_of ((u1_run (w1_of T h) _).trans rfl)
theorem dk_108 {c : ByteArray} {S N p : Nat} (T : bT c S N = true) (h : w1 S N p 108 = true) : decode c p = .ok (.idiv, 1) := dec_of ((u1_run (w1_of T h) _).trans rfl)
theorem dk_112 {c : ByteArray} {S N p : Nat} (T : bT c S N = true) (h : w1 S N p 112 = true) : decode c p = .ok (.irem, 1) := dec_of ((u1_run (w1_of T h) _).trans rfl)
theorem dk_120 {c : ByteArray} {S N p : Nat} (T : bT c S N = true) (h : w1 S N p 120 = true) : decode c p = .ok (.ishl, 1) := dec_of ((u1_run (w1_of T h) _).trans rfl)
theorem dk_121 {c : ByteArray} {S N p : Nat} (T : bT c S N = true) (h : w1 S N p 121 = true) : decode c p = .ok (.lshl, 1) := dec_of ((u1_run (w1_of T h) _).trans rfl)
theorem dk_122 {c : ByteArray} {S N p : Nat} (T : bT c S N = true) (h : w1 S N p 122 = true) : decode c p = .ok (.ishr, 1) := dec_of ((u1_run (w1_of T h) _).trans rfl)
theorem dk_124 {c : ByteArray} {S N p : Nat} (T : bT c S N = true) (h : w1 S N p 124 = true) : decode c p = .ok (.iushr, 1) := dec_of ((u1_run (w1_of T h) _).trans rfl)
theorem dk_126 {c : ByteArray} {S N p : Nat} (T : bT c S N = true) (h : w1 S N p 126 = true) : decode c p = .ok (.iand, 1) := dec_of ((u1_run (w1_of T h) _).trans rfl)
theorem dk_128 {c : ByteArray} {S N p : Nat} (T : bT c S N = true) (h : w1 S N p 128 = true) : decode c p = .ok (.ior, 1) := dec_of ((u1_run (w1_of T h) _).trans rfl)
theorem dk_129 {c : ByteArray} {S N p : Nat} (T : bT c S N = true) (h : w1 S N p 129 = true) : decode c p = .ok (.lor, 1) := dec_of ((u1_run (w1_of T h) _).trans rfl)
theorem dk_130 {c : ByteArray} {S N p : Nat} (T : bT c S N = true) (h : w1 S N p 130 = true) : decode c p = .ok (.ixor, 1) := dec_of ((u1_run (w1_of T h) _).trans rfl)
theorem dk_132 {c : ByteArray} {S N p : Nat} {x : Nat} {y : Int} (u : Nat) (T : bT c S N = true) (h : vi S N p 132 x u y = true) : decode c p = .ok (.iinc x y, 3) := dec_of ((u1_run (vi_of T h).1 _).trans ((u1_run (vi_of T h).2.1 _).trans ((r_run (vi_of T h).2.2 _).trans rfl)))
theorem dk_153 {c : ByteArray} {S N p : Nat} {x : Int} (u : Nat) (T : bT c S N = true) (h : v3 S N p 153 u x = true) : decode c p = .ok (.ifCond .eq x, 3) := dec_of ((u1_run (v3_of T h).1 _).trans ((r_run (v3_of T h).2 _).trans rfl))
theorem dk_154 {c : ByteArray} {S N p : Nat} {x : Int} (u : Nat) (T : bT c S N = true) (h : v3 S N p 154 u x = true) : decode c p = .ok (.ifCond .ne x, 3) := dec_of ((u1_run (v3_of T h).1 _).trans ((r_run (v3_of T h).2 _).trans rfl))
theorem dk_155 {c : ByteArray} {S N p : Nat} {x : Int} (u : Nat) (T : bT c S N = true) (h : v3 S N p 155 u x = true) : decode c p = .ok (.ifCond .lt x, 3) := dec_of ((u1_run (v3_of T h).1 _).trans ((r_run (v3_of T h).2 _).trans rfl))
theorem dk_156 {c : ByteArray} {S N p : Nat} {x : Int} (u : Nat) (T : bT c S N = true) (h : v3 S N p 156 u x = true) : decode c p = .ok (.ifCond .ge x, 3) := dec_of ((u1_run (v3_of T h).1 _).trans ((r_run (v3_of T h).2 _).trans rfl))
theorem dk_158 {c : ByteArray} {S N p : Nat} {x : Int} (u : Nat) (T : bT c S N = true) (h : v3 S N p 158 u x = true) : decode c p = .ok (.ifCond .le x, 3) := dec_of ((u1_run (v3_of T h).1 _).trans ((r_run (v3_of T h).2 _).trans rfl))
theorem dk_159 {c : ByteArray} {S N p : Nat} {x : Int} (u : Nat) (T : bT c S N = true) (h : v3 S N p 159 u x = true) : decode c p = .ok (.if_icmp .eq x, 3) := dec_of ((u1_run (v3_of T h).1 _).trans ((r_run (v3_of T h).2 _).trans rfl))
theorem dk_160 {c : ByteArray} {S N p : Nat} {x : Int} (u : Nat) (T : bT c S N = true) (h : v3 S N p 160 u x = true) : decode c p = .ok (.if_icmp .ne x, 3) := dec_of ((u1_run (v3_of T h).1 _).trans ((r_run (v3_of T h).2 _).trans rfl))
theorem dk_161 {c : ByteArray} {S N p : Nat} {x : Int} (u : Nat) (T : bT c S N = true) (h : v3 S N p 161 u x = true) : decode c p = .ok (.if_icmp .lt x, 3) := dec_of ((u1_run (v3_of T h).1 _).trans ((r_run (v3_of T h).2 _).trans rfl))
theorem dk_162 {c : ByteArray} {S N p : Nat} {x : Int} (u : Nat) (T : bT c S N = true) (h : v3 S N p 162 u x = true) : decode c p = .ok (.if_icmp .ge x, 3) := dec_of ((u1_run (v3_of T h).1 _).trans ((r_run (v3_of T h).2 _).trans rfl))
theorem dk_163 {c : ByteArray} {S N p : Nat} {x : Int} (u : Nat) (T : bT c S N = true) (h : v3 S N p 163 u x = true) : decode c p = .ok (.if_icmp .gt x, 3) := dec_of ((u1_run (v3_of T h).1 _).trans ((r_run (v3_of T h).2 _).trans rfl))
theorem dk_164 {c : ByteArray} {S N p : Nat} {x : Int} (u : Nat) (T : bT c S N = true) (h : v3 S N p 164 u x = true) : decode c p = .ok (.if_icmp .le x, 3) := dec_of ((u1_run (v3_of T h).1 _).trans ((r_run (v3_of T h).2 _).trans rfl))
theorem dk_167 {c : ByteArray} {S N p : Nat} {x : Int} (u : Nat) (T : bT c S N = true) (h : v3 S N p 167 u x = true) : decode c p = .ok (.goto x, 3) := dec_of ((u1_run (v3_of T h).1 _).trans ((r_run (v3_of T h).2 _).trans rfl))
theorem dk_172 {c : ByteArray} {S N p : Nat} (T : bT c S N = true) (h : w1 S N p 172 = true) : decode c p = .ok (.ireturn, 1) := dec_of ((u1_run (w1_of T h) _).trans rfl)
theorem dk_176 {c : ByteArray} {S N p : Nat} (T : bT c S N = true) (h : w1 S N p 176 = true) : decode c p = .ok (.areturn, 1) := dec_of ((u1_run (w1_of T h) _).trans rfl)
theorem dk_177 {c : ByteArray} {S N p : Nat} (T : bT c S N = true) (h : w1 S N p 177 = true) : decode c p = .ok (.return_, 1) := dec_of ((u1_run (w1_of T h) _).trans rfl)
theorem dk_180 {c : ByteArray} {S N p : Nat} {x : Nat} (T : bT c S N = true) (h : w3 S N p 180 x = true) : decode c p = .ok (.getfield x, 3) := dec_of ((u1_run (w3_of T h).1 _).trans ((r_run (w3_of T h).2 _).trans rfl))
theorem dk_181 {c : ByteArray} {S N p : Nat} {x : Nat} (T : bT c S N = true) (h : w3 S N p 181 x = true) : decode c p = .ok (.putfield x, 3) := dec_of ((u1_run (w3_of T h).1 _).trans ((r_run (w3_of T h).2 _).trans rfl))
theorem dk_182 {c : ByteArray} {S N p : Nat} {x : Nat} (T : bT c S N = true) (h : w3 S N p 182 x = true) : decode c p = .ok (.invokevirtual x, 3) := dec_of ((u1_run (w3_of T h).1 _).trans ((r_run (w3_of T h).2 _).trans rfl))
theorem dk_183 {c : ByteArray} {S N p : Nat} {x : Nat} (T : bT c S N = true) (h : w3 S N p 183 x = true) : decode c p = .ok (.invokespecial x, 3) := dec_of ((u1_run (w3_of T h).1 _).trans ((r_run (w3_of T h).2 _).trans rfl))
theorem dk_184 {c : ByteArray} {S N p : Nat} {x : Nat} (T : bT c S N = true) (h : w3 S N p 184 x = true) : decode c p = .ok (.invokestatic x, 3) := dec_of ((u1_run (w3_of T h).1 _).trans ((r_run (w3_of T h).2 _).trans rfl))
theorem dk_187 {c : ByteArray} {S N p : Nat} {x : Nat} (T : bT c S N = true) (h : w3 S N p 187 x = true) : decode c p = .ok (.new x, 3) := dec_of ((u1_run (w3_of T h).1 _).trans ((r_run (w3_of T h).2 _).trans rfl))
theorem dk_189 {c : ByteArray} {S N p : Nat} {x : Nat} (T : bT c S N = true) (h : w3 S N p 189 x = true) : decode c p = .ok (.anewarray x, 3) := dec_of ((u1_run (w3_of T h).1 _).trans ((r_run (w3_of T h).2 _).trans rfl))
theorem dk_190 {c : ByteArray} {S N p : Nat} (T : bT c S N = true) (h : w1 S N p 190 = true) : decode c p = .ok (.arraylength, 1) := dec_of ((u1_run (w1_of T h) _).trans rfl)
theorem dk_199 {c : ByteArray} {S N p : Nat} {x : Int} (u : Nat) (T : bT c S N = true) (h : v3 S N p 199 u x = true) : decode c p = .ok (.ifnonnull x, 3) := dec_of ((u1_run (v3_of T h).1 _).trans ((r_run (v3_of T h).2 _).trans rfl))
theorem t_cX0_init : bT cX0_init 26 284541039002617947046914614957804763157221460014681580495746858 = true := by decide +kernel
theorem t_cX0_tellClash : bT cX0_tellClash 72 166190474736973921644662100292699023873243343974656897876487817429447566773725436735749688443503157793440397547375029530244557144096218588600873120563237916840364360408806442 = true := by decide +kernel
theorem t_cX0_isFake : bT cX0_isFake 68 38693308453715622955516221304166815187889756431706526027357897354434994038581394179609476431456539325375328539881725394625795124482316570415769609715565675195612419 = true := by decide +kernel
theorem t_cX0_leastWithout : bT cX0_leastWithout 61 537291956828395971763511362599403751505763730032693142033854999142061332013715466037855839452119945809226008965338893373689422878803142488587713819 = true := by decide +kernel
theorem t_cX1_init : bT cX1_init 153 200790055120656921686964142498402753202311075147285447164911619809230981151218847978536045549179324366119172954496720222418092766844377043949635225189320639908357752706996163494431365552417782508203190693817637132755990300458456780562865070587600867823377922491400510929715068895969499646809905015584261521119823114166440597278416368153673304990477341452705323525650218 = true := by decide +kernel
theorem t_cX1_tellMeaning : bT cX1_tellMeaning 115 5958987447182586917930677431265126854636836179742410515811856796623051101614339977876263729706266627996045830980879185713752362894115747054510460008016199414688782559957730256379755570395716849970181387311489497152765459766354436730559562436842550798659382823837602802212844586 = true := by decide +kernel
theorem t_cX1_sensesOf : bT cX1_sensesOf 37 85595729159193084245376702684019083438358907517566257000220595403825279744378875481898243 = true := by decide +kernel
theorem t_cX1_tellYear : bT cX1_tellYear 26 276576679186951663451633038116765029973221615758880959665058858 = true := by decide +kernel
theorem t_cX1_addEntry : bT cX1_addEntry 86 862949716233043748127502927977969536183780780025979462309911147998432461032743542215570376060208202771732075964845247868097330455723706963110097896484203700794925088356118680365875328967017362715900320461866 = true := by decide +kernel
theorem t_cX1_tellBar : bT cX1_tellBar 45 1625696422840522562364346446636692206407572764299098296981270619015441878010918324337390042295295307306546218 = true := by decide +kernel
theorem t_cX1_isSameText : bT cX1_isSameText 36 334161933760548910903239362236138360346918131420695662752560489291057104861122843948074 = true := by decide +kernel
theorem t_cX1_likeness : bT cX1_likeness 121 1679125324581662852283773040119788771619758975961885034912628781888065184833480366171818693981592869233095822841995666222667454077720103891798388829720064157136691159940425249251338833679443536953213464824254824737983149002005806166753300315581686052354006772333379428425979320350278319911978 = true := by decide +kernel
theorem t_cX1_fadesAsItMay : bT cX1_fadesAsItMay 163 234656489942833878297595197127111580305328717127029795356834988088598961088410907032013789750929815353003583125023265021825351384809545271417195188678890540846194966443244985444213189182356373964421552742468116215212868910475000024646991745790964097444529396192556490006245623499202723483192882942526009743298518336487299736608480361756718458776564237930185242553930183146599592335362182746139 = true := by decide +kernel
theorem t_cX2_init : bT cX2_init 35 1343914565010780915396919489253326269054032736283453947540616609727844494274583377706 = true := by decide +kernel
theorem t_cX2_replay : bT cX2_replay 91 980471797058142401986853702837375063957152060290710323623697212915529869567991327113175135725172894793953137315204770584096761107001839313303009871730512679158390805127004626925073349142490114300531950883830467243868970 = true := by decide +kernel
theorem t_cX2_follow : bT cX2_follow 116 1569567915013035030253847366943146090179189875378382554196159417259754782787106069341324563178295086356096976532318426439612036843022715931374389854897170388331093730878129094382516681839483312854942224293162980240200616780536796270865827236818454082487290198338712867206724584987 = true := by decide +kernel
theorem t_cX2_heldSince : bT cX2_heldSince 82 200910672623591406372186190425800724649307405870697070013560743518161596527257172187438282771794428827716823004018077590199470794342565099186932174601964189238231612355371931231487766232208590514986 = true := by decide +kernel
theorem t_cX3_init : bT cX3_init 58 32957050283285656197673307085985971655200374317120813200872057184880965296788631106577018123308784308359249649803816696737053930481378178858 = true := by decide +kernel
theorem t_cX3_solve : bT cX3_solve 55 1965433026778691150763023153190904195593522308376857843914541634833801597006490846898261665389640046905923938418850045769207646530346 = true := by decide +kernel
theorem t_cX3_readLikes : bT cX3_readLikes 115 6149246726212473194340084934350877541917472821120350239473934550454260176390381977936484179539388214188204388075663624057496976121982752834371803749260207217273461299632765702591646046913744861849068784945580389980354974123884262257645166262839300234650122441537839907112793130 = true := by decide +kernel
theorem t_cX3_weighStates : bT cX3_weighStates 84 13602892502237822869857762241370734029850092579287417682020721117376401913665550286232946096898300517430067553869466518496074752828605428316864537702200306966554924311347342435798719874468302879136461866 = true := by decide +kernel
theorem t_cX3_weighState : bT cX3_weighState 48 26491203352027003128848662267313534150917774961583499660161206235286764373486618101961018883524032969595307694273578 = true := by decide +kernel
theorem t_cX3_valueOf : bT cX3_valueOf 50 1738738867501981877309913687939861255288504533133804909620726138632580049441762278877714467427999857856198094680884294698 = true := by decide +kernel
theorem t_cX3_tellFirst : bT cX3_tellFirst 97 275814534099845504452273547617998015411131620383872046181558521464265342614292996413566404631713959167997900520206332688867985536713324875198965997110143819672183757406589327329767178019787340422458031642723630318979024658960444767491 = true := by decide +kernel
theorem t_cX3_tellWays : bT cX3_tellWays 155 13116513156153454650344579094666168098833866649227048725424859355579699715936539856254159813365665431127065424439530563946873136183575265609572377653716137329813604210755535311458665790241765803506312140867319988630048972469485797832359691132967403657476427840559186257639398105100462308325085416067493247037417226349042910428002769872647143680552454675533705627245702329386 = true := by decide +kernel
theorem t_cX3_passOn : bT cX3_passOn 111 1386643728239035087888160916255683842551060189628512170406921718185460315622090218673514966103063232866659092245215344029661314309307237319483767707924000482965813708551337026668534437011612107688502594092732980957722358573482291227189134707979306551158680722536969258 = true := by decide +kernel
theorem t_cX3_sumWays : bT cX3_sumWays 48 26490569245538259707889902203510830061951555476975527117996804270070386555153518075634709899298819201263319211785475 = true := by decide +kernel
theorem t_cX4_init : bT cX4_init 36 344049717193120177997440681045059449748661106517250694995895671956529231389502962972458 = true := by decide +kernel
theorem t_cX5_init : bT cX5_init 71 668536845418075833908295932730116960455365620625745140189587556439472972529895607875914472783789462437791159153954119942720043638458821062000801973656649477507116748027690 = true := by decide +kernel
theorem t_cX5_addRecord : bT cX5_addRecord 126 1843249393752031597817623629547513197695398690447817576959095699058445366313064831736071528022761151366557978469487695934379131398175373943036355947271810213737944379238756110368130432918066815053221195114439570906195976871689139623245548687273559391436299591463094971594353379454361341237062832945673258 = true := by decide +kernel
theorem t_cX5_counts : bT cX5_counts 36 334161933760548910903449985193706125230260377025829311902482198215001968808207696573482 = true := by decide +kernel
theorem t_cX5_lastPlace : bT cX5_lastPlace 65 2306356921102483591741854916763407750612921409813863734366703410918878224621080818516528668917086882737339685034242425814861570863663296924863209497333004048 = true := by decide +kernel
theorem t_cX5_quarrelDays : bT cX5_quarrelDays 110 5419721803523414399648653231458588433225755488900656227067061397723296761180189566346963905500960455324096251325405536474920135403790938834494248399975474054048631417765564739453466350140982713375489206395774165636241808673092477145928405470501759225256808122826243 = true := by decide +kernel
theorem t_cX5_lastChange : bT cX5_lastChange 79 11982264910410540985409411283364140050492996161450331869402006316430195909162850473181940471899006143655415126671963226559439227064264786130101487109247790282581710907020448645155824087547395 = true := by decide +kernel
theorem t_cX6_init : bT cX6_init 42 96837114160169439583037659098171512024424385596590549903646287945626059657059663915744600831637370666 = true := by decide +kernel
theorem t_cX6_addSaying : bT cX6_addSaying 50 1735149393497554041426802577878565397446376911328887789906380467399384859789702950086339119768571671533719852771845387306 = true := by decide +kernel
theorem t_cX7_init : bT cX7_init 103 77436883238505983304454315198739233083808567143961702582392433447459854912050338151608337099868389814894081062033203866182847551668843457930858526658334668783786455665850479507933155517393205375782211142924423212622543547866601397176866476983891754 = true := by decide +kernel
theorem t_cX7_rebuild : bT cX7_rebuild 151 3053455383679180831914796874991191913937485417482904604068231686070247533755502174219552294033772293918576473416129288523275334428864102240282213536723910638793516247575696825273058588422084334253338601227186797754140953935480316748413634926161900482599953728324733615731089388138741272559529513853061035615776208947542950423656993234989303347134129339934858029595 = true := by decide +kernel
theorem t_cX7_readThings : bT cX7_readThings 67 156218763291660592129552144301024287749444593334432342989033774317021982084793556366117508654058013283854694679519352269703664213923461140676068602184265318597418 = true := by decide +kernel
theorem t_cX7_clearTrust : bT cX7_clearTrust 60 2169542773947818310871614069976877633071376433845717392415071899110974964810097900427162472413243642808490073819217418491102860286216080637770755 = true := by decide +kernel
theorem t_cX7_addTrust : bT cX7_addTrust 94 16407792227953746290167955465168216617980451421704374126523697970127365393343243829593165520610148648279019229390983471336336016359792332108675811238817904160041510379677389864326017197218996067520238455733698347583235338312219 = true := by decide +kernel
theorem t_cX7_weighStates : bT cX7_weighStates 113 93603065645367043981186991984244234920368537805326457138414663073884350676313089315091540322217135251950208420381801283109596338239675584918138037885339131061127180874101381097323909698909013152354217316745331509623738825742194001288385827007421586236803775444138534906372 = true := by decide +kernel
theorem t_cX7_readGains : bT cX7_readGains 114 24021551613329621741819284062612067458151093046470561475918866708042562956003679124641291480213896945764320189949298072260248811508501889382330514429956949271328574024710483229383369644049926649156343447449125171208857923398062242585908220595062313867158421484968860336794116 = true := by decide +kernel
theorem t_cX7_weighState : bT cX7_weighState 44 6167959006303865035146108380618333714926773492593529474901188022594334472373135200625806160173466489404931 = true := by decide +kernel
theorem t_cX7_valueOf : bT cX7_valueOf 48 26531049610432870892780742454660751587400124992063749638283893501041347819620835681117905544499625166654837025190954 = true := by decide +kernel
theorem t_cX7_tellRow : bT cX7_tellRow 57 129246685235773921236239079298996198025116722297649855901350708724132998837525665196830772388478910042189799552329344242106561866385013763 = true := by decide +kernel
theorem t_cX7_firstBest : bT cX7_firstBest 51 444185947561569707347821038579784240190127323354020800346028173632645869445915726245653811968254975083170225449731098417962 = true := by decide +kernel
theorem t_cX8_init : bT cX8_init 128 124463704326378194159410742887882298453763121262159422141455336318122719952019968702632615443590122088676750963368019720520236195154011386677662555301063581314175643224613906334129410440307211083196054228837969018376641816080272469728522491245600386884510899384762259520308802706661136600353841464586797102890 = true := by decide +kernel
theorem t_cX8_means : bT cX8_means 42 94209850141754702724825210652215185556702741619729441727650235431289805495052417587132867159445780507 = true := by decide +kernel
theorem t_cX8_year : bT cX8_year 51 444994307801457271939166482778810291782971959354853826709401272858784011713531342436346613323284130160180246755971185031195 = true := by decide +kernel
theorem t_cX8_entry : bT cX8_entry 105 4936407632220274281813628668759957745610039878831861108005209805048949118010370628201098296404265337066541394926749575332339947355782396122447798409684351316146298622133426823335495196629585764711521849247754240829477927907811768187474403823266419488795 = true := by decide +kernel
theorem t_cX8_set : bT cX8_set 73 42638411310498487264328864735164054030689665278043586069685110096426359410212354343769835003876411844959808577116985820935282301679311935973113710314131100964909759664759019803 = true := by decide +kernel
theorem t_cX8_bar : bT cX8_bar 98 68367396278682375670109291559451542135461718121808295013929943969580268032301675192536729506832371140208757877019198693355113966049397513204888391010945142741369922746439298423500775263194449860836261428483711024237775761940576980180251 = true := by decide +kernel
theorem t_cX8_like : bT cX8_like 54 7472027143576919094589914049071150922630136047958868222593401261909945253216836643015512490667332858132657360213564452609344412955 = true := by decide +kernel
theorem t_cX8_join : bT cX8_join 24 4229687956568078688213775753229094169223743961385863224347 = true := by decide +kernel
theorem t_cX8_joined : bT cX8_joined 35 1306597531039747821753416434710114859895296705350789644284819186479623704806721854747 = true := by decide +kernel
theorem t_cX8_bests : bT cX8_bests 24 4230262642395903396535660133364275535167600988556682075163 = true := by decide +kernel
theorem t_cX8_sure : bT cX8_sure 43 24078904965846599076261162076188258311068713324193221851986241277334725717564948957334738036613654781211 = true := by decide +kernel
theorem t_cX8_chain : bT cX8_chain 51 445599522602190437803746275524383645565887337832509447934119360864027393870648924530336637616227552727279340703852128901930 = true := by decide +kernel
theorem t_cX8_copied : bT cX8_copied 122 431513398230445890396178210845986680755815982378120279528124922449192297390030578087820509175079135249198356983347840640882574452553233917912355795030980153895611940817975112145435839136685085149001215660010576384637825941639763424265983731400801353732025009964621804357093960949883919319218203 = true := by decide +kernel
theorem t_cX8_sight : bT cX8_sight 76 716342588186540196962097782556615453702851566953544839997511161055087902276366079872018599808439164087832896568214492483440898514811238727225194114681077088886657184995999337085450267 = true := by decide +kernel
theorem t_cX8_move : bT cX8_move 95 4089593224710536093526634024674893621241092646189799678245754582689369179979747180048611971880328203231254258617697843893130464121053719667454789254360604567921769414420836849831778475976628043199324762563417075638415850064623643 = true := by decide +kernel
theorem t_cX8_withdraw : bT cX8_withdraw 95 4075034611941778077239721602585824086275416197622206125922146481793903606885461323568251150340360158540326558780962520804777197372842553241651406294646571223116628200886502821425404652460342922216427519727102971340378907506415899 = true := by decide +kernel
theorem t_cX8_where : bT cX8_where 43 24173496529803894137948159252069648401320138385717374189539367034899934737825583771881423914416723769371 = true := by decide +kernel
theorem t_cX8_quarrels : bT cX8_quarrels 39 5628840015385290765221331960754163711030422054222415717242176510445673078899020056934230308891 = true := by decide +kernel
theorem t_cX8_holds : bT cX8_holds 107 322845332945412211274160470236974674348429607542967153870559315873390492220630769110760968265136248791905407611381738554696254486348181638202980682937201659509557269595360222168437598523451537686741547724435408332057188489396987791393635189587585606881425435 = true := by decide +kernel
theorem t_cX8_since : bT cX8_since 47 103873696419715465147093932810648259147428898353067940699402571112242063710690360135947345881779359443223792629787 = true := by decide +kernel
theorem t_cX8_visitor : bT cX8_visitor 111 1392970480984658677184958646908046518844884410832798721324451501856000305847350350412343498351220395341423570126066770807376068852968873983492604816218252790439690533934796437822605639356056109265164881256552381893971911471956880984218068458887032475524545638821829403 = true := by decide +kernel
theorem t_cX8_shelf : bT cX8_shelf 24 4238020901568219155623102281109341632027675070225283332123 = true := by decide +kernel
theorem t_cX8_row : bT cX8_row 48 26500947137327578952478563116641257328567119917774372850883844331784827926331500578569766903043040292834593650817051 = true := by decide +kernel
theorem t_cX8_quarrel : bT cX8_quarrel 31 304593666239216021834118678733461427007026524647707577580624281376930183195 = true := by decide +kernel
theorem t_cX8_part : bT cX8_part 50 1743893501735528240804528220194008257976267204553691141952898890398339317410533548786221654209950004795168581917513653019 = true := by decide +kernel
theorem t_cX8_clash : bT cX8_clash 65 2306300905568338808746407626045164684312197248385357043550789870651483673322634656534403612271479831072365602401589942781471765561499290572107198721565956891 = true := by decide +kernel
theorem t_cX8_fake : bT cX8_fake 32 77803138122090350581002298479237854138035591159832183513825413776957384560667 = true := by decide +kernel
theorem t_cX8_least : bT cX8_least 24 4240128084810736366482241706901017363007997620786073047067 = true := by decide +kernel
theorem t_cX8_count : bT cX8_count 149 45443661768353380769133419425114641654247455831152404911550805544259588049733659173546120304046126578323286063620108945711944575396167247464513560243411457272090998067412644565251709086382470666361037344904190502429324948784130566025154311752076094185757473406529014119228104545616445603018179220740987052367501731215500561409238405006253153342239854628481563 = true := by decide +kernel
theorem t_cX8_areTwo : bT cX8_areTwo 25 1079735441640449636073872964187723011078346664000025656342554 = true := by decide +kernel
theorem t_cX8_isEntry : bT cX8_isEntry 30 1187181673005529031085281081898019650191069258030791705794302054187972635 = true := by decide +kernel
theorem t_cX8_daysRefusal : bT cX8_daysRefusal 30 1187181673007073419497353747954682315551958466328746270449112977590229786 = true := by decide +kernel
theorem t_cX8_shelfRefusal : bT cX8_shelfRefusal 31 303918508289810795391322319783595310589330875347604655987549205628545177882 = true := by decide +kernel
theorem t_cX8_isWay : bT cX8_isWay 68 38694907938174572244063603246315533322294989283661880478950537181643730577714717891144187950916912588150524882909663641664179766130342219848668345906468134571803675 = true := by decide +kernel
theorem t_cX8_followChain : bT cX8_followChain 171 4329146250180627503948123298434772616365496949864691033466439231509232872249358607397476591025184196666022699266531165906157789278402978062007690098757864249122179072152011142785276111943908821216183704754674921879616128494594228570265392152088855716978806393206816929097157651920926785565068287501916441897341947654416801420816479100036822004960349204934878832245134220117641335243243006582985891148385476752923 = true := by decide +kernel
theorem t_cX8_bestJoining : bT cX8_bestJoining 70 2597190542910465162160775309860649899269478594617125160168871388992826730382517646555048595948572420768159680117292949718613654409373997670719430900929066975086365422634 = true := by decide +kernel
theorem t_cX8_bestRow : bT cX8_bestRow 35 1335970300968773713368068305830208182930428608882501255102290843185852153270307435562 = true := by decide +kernel
theorem t_cX9_init : bT cX9_init 347 31717245914937982442138599228870341313000455293462756908446019896573335199945813311045918721021199163805205429888520448992198200845528449598747690779750744904227021986153626148438150811514146226449611424275589199890470259222385469504815366996326388566571166924262675060377004298637698988001599546504085467590836535561908472919544893466564098854332010874606839218790523049593010638511813309049864718320757858447107694825068212979121208418153714712781346832829755692758280345347120874300477289446799220356576110840636699588327517285179543351364935831911046371466345539237130380487169772675896212818528849893001421029581405336489180585110732315301621493701764330840605296632886542978180739483756743655515784113782900115195010963077150437461443304477734232798165549631305922086386740777467277764343175592067386486946618525084344638234474282 = true := by decide +kernel
theorem t_cX9_means : bT cX9_means 52 113777309851980266693396729460781673289944636511681687360517164696945019941280164358648014446020696616456565055953118417915931 = true := by decide +kernel
theorem t_cX9_senseOf : bT cX9_senseOf 24 4220199389813303237943723963634332043934615546670476836123 = true := by decide +kernel
theorem t_cX9_year : bT cX9_year 51 444188166303534270012393005513020411353781276413869966919864130485185217343800595275292853870453814062490298961814632269595 = true := by decide +kernel
theorem t_cX9_entry : bT cX9_entry 155 12748775190003445438759308974068892337482804620014258754091305339325514162420374689570721975606500542769620382364283488476842859474113039724223179529882598254094485924866851362204076396814236702997587737196433113442855885859600577534108344615203005565572079651951809967594432230561132133861800155792715282867173802043837619210465237404379831503050088911363679753951310776091 = true := by decide +kernel
theorem t_cX9_set : bT cX9_set 77 182728410767297034496546464231282838130934867299493966367897034479672246913054184147309660249874977236060352336679666625329581033808298900543980856128138003375011644400997127801817007387 = true := by decide +kernel
theorem t_cX9_isEntry : bT cX9_isEntry 27 70761541903348507349612149607644636269936509895723264902197413659 = true := by decide +kernel
theorem t_cX9_isBarred : bT cX9_isBarred 76 714198833539396398425780799641833200994742205981941838367974281089035766729774663095070079279093151952762201149742465001902355598799424817786671802355774563117344560321999516104605187 = true := by decide +kernel
theorem t_cX9_bar : bT cX9_bar 111 1386658609937082458595690241011329334678259764314912069813173034094550743402829479156752211724335414550498819776892226605876695735900483403267852856369538978892436882486775717624520206836643566987363428879737036378504741690878680873322229299531166723060040590954339114 = true := by decide +kernel
theorem t_cX9_senses : bT cX9_senses 42 94113457780001220563040992347932608353852773635272293179154252823233113877773303594133684061865196803 = true := by decide +kernel
theorem t_cX9_likeOf : bT cX9_likeOf 260 93599685491703312145057038749287011394533704557360166184130464156175300056905047344053656510135136604360137766768454923434348703776183111840609160184379859968503127373554825935842153764707742006291960142142846077018647106948864936546351841896252314757828782630547119684686231288500343643092155082475983019661714440864538355865710048177601177599581708253477615842302634683058330863021354267837550746562927061883660251092798688089563467000495457874349034155054733717410419042332199333518765430256368106049640554719367100165090593611333658718248426669960876256491524585115537387866581690451370260734973799290164987393654866512400 = true := by decide +kernel
theorem t_cX9_like : bT cX9_like 42 94329465412463526764044156614641732729103016991839004444962647816921648619288725042508395629615258410 = true := by decide +kernel
theorem t_cX9_areBooks : bT cX9_areBooks 27 70761541903348507349737426033574917500482855921164188270703675163 = true := by decide +kernel
theorem t_cX9_measure : bT cX9_measure 60 2168066116766141972738270715930149302521922780169770967747024670234375334209211983349704563896425387107329029000366767722333729637545045246426627 = true := by decide +kernel
theorem t_cX9_finds : bT cX9_finds 269 440851925315624192460556125753652210060485565553341540459440950594327641038939584908885788025867185495685091825823094771328698143101974902617277596974936847990206966207320508712306547329769918103996262358039581961559643435140119387224228159334738886472869017337970290920802004224901143933248135533039819939376937678418799004228097261407358370305099488694215959633497241588616178473310710282823000167771406402819221886184517794673418154191751991439318751573709554008743962895932787957660654244657130548923331575264640449053079067545470338247945066683932548264227483739857070254451967045668179627093595182453266979521602234029577255890305458411936772 = true := by decide +kernel
theorem t_cX9_joins : bT cX9_joins 187 1473845420974026060540378740281367365433801315360851254519205524586625824401824690116997144286751767580761788669399851495027114312634582004107213520574832553972781911742125282980157879569821753821513197040152973080776865498666215379295710457822100991979019243255233560181775886005400154318831530143120203943111868052474290230458907074429770827057159104300167916041467067773890791160911121825650895938781186823282304321789055367957442430509240496692010 = true := by decide +kernel
theorem t_cX9_join : bT cX9_join 24 4229879520738114789361889169923121611683929267743984720682 = true := by decide +kernel
theorem t_cX9_joined : bT cX9_joined 43 24102469611622409267101703597309343843584185532684063937304047439987817890214944548520613510841081076522 = true := by decide +kernel
theorem t_cX9_bests : bT cX9_bests 29 4641956516288029778107565258768899084259572597901470308692344560163626 = true := by decide +kernel
theorem t_cX9_isSure : bT cX9_isSure 63 35191359032720013561283992692698035353465754069806428828541721107218427072932049049684117910200656103840894996391480974591879997772896777442239933389610 = true := by decide +kernel
theorem t_cX9_sure : bT cX9_sure 44 6164199671256729363523911475230066022578785326220611159296757099277649032045993642916278492538592179329834 = true := by decide +kernel
theorem t_cX9_chain : bT cX9_chain 298 3040029880376817188311142460007565580429457585164811850605165577045251215989547361176872793787968236714427228902826485352911570642702372314749385313914014049300596362522725672848655997568794849297004197357368856783269095310260136366300838761976466010880901626911549788779619687512491399869241784487640230532038812008499111231607465715294403530565719523364325277346599654304176655352652514528810799537224157106583630898008464308682602269588118458697820674036020439200373564349421573315320780874534127807059292436393651992838669435797242112630155246264256995099522382319545740813496802470673331377923617977150563054947979656431814440346865566458444563287285915797544028438107891467473724220516890003374605635933443988266 = true := by decide +kernel
theorem t_cX9_copied : bT cX9_copied 147 693415290250123447545477969788649817739241574137239640218994097665598530437801607589944532730575897949713997849788484207331054998182307503767777244192101262769227343015482341295016193254386494099153391390220118896324226674515237510459361445815689799753695973597063727898469496719818549463744940712389508078089592971567010523082882291460191094193673476906 = true := by decide +kernel
theorem t_cX9_wrongDays : bT cX9_wrongDays 30 1187181673007073419497353873552479273676874212469191918754011818800225050 = true := by decide +kernel
theorem t_cX9_sight : bT cX9_sight 129 30990557401577029825215803695954881203384653812553086703554573090523719597495701389066627849192877772550489303565521462425524755155574033611129649752714999022562238347225535050049163910958782573438159630071983972339489847656348185751862448811198667188390043882024660701155863783638932170394410126013253664116763 = true := by decide +kernel
theorem t_cX9_move : bT cX9_move 154 49799905770260085664874334279928138430024946221769188749322234298208902380587264633635070376696369678405580733664859454405891568215994190689117656459351156406685112772347256909735845099758795068612132616426323902882072538937478388240074793996468138804132594936673622209987573898028937875345127334382567100023662159160013400583339986188504979892098480753677974388156928027 = true := by decide +kernel
theorem t_cX9_withdraw : bT cX9_withdraw 121 1676358044835239433277231947825670935169735501871839919296645580145148233021012646459887569921049762006425913813036268463073887951608200514627807728919908267553278446185860828622099850479478673847175322559969011214600659081404927852221256370508061425854396995815719546451274226226617279650588 = true := by decide +kernel
theorem t_cX9_isSight : bT cX9_isSight 36 334161933760548910903449985469898601587274330634604047416045543084179107018305110586410 = true := by decide +kernel
theorem t_cX9_isMove : bT cX9_isMove 36 334161933760548910903449985582886432824234584383648257398866911439751572649708506625066 = true := by decide +kernel
theorem t_cX9_where : bT cX9_where 119 25603422194206967355438582378606785622379865983247745430440059271977561465033481804862188680755000507091194451400445921739620285174167920994691656945962861095436314230233073306425542223680496968868483997521179744786955011209181030369688513493765624418623093645106048249068188140825219099 = true := by decide +kernel
theorem t_cX9_quarrels : bT cX9_quarrels 192 1619578853223547344133811449979087475008642424469370684876004131981559211012609397806738249612602606434861485007543322619601000208240377256344978635108005523357274792230285983151763985458657077326732193347804677334541803546132928402930404508415513121431798900846914250169653370368862363431073644696933363956125170843647842641271307312781109296395307764719542175622983035838151039009488281581249807703681572123382776521979116452547684711205007769625681466365841435 = true := by decide +kernel
theorem t_cX9_goes : bT cX9_goes 279 549304447335154753313940110234523190044259906612204088980867388362436475295205040196590612643967790502471053323426505397387329468146767280234953585143578132137417033361706078722635454029222615940097943310500105501674037522554330412834297629437476707642375821797766649426755888587145674205191323467804713504430186936310920673580263785234639820450819680841390905340464600520258354663090222934370733263585294800838651733737655758544646089203540259993391376409212725655737343964416155988314782749744425420943429400033227872744362587666387435429559981111084082091764056441618497443277634127754644715553347647063528467640701874681569533764449082256975666057320462710664149087747 = true := by decide +kernel
theorem t_cX9_holds : bT cX9_holds 83 51682162542518007113169498924568818335402197996020319643311162580184593509059701818598258748843450920048338123347427274232511364263008591556475530293641988424262308962616701642172737048433105818095643 = true := by decide +kernel
theorem t_cX9_since : bT cX9_since 96 1043189427443541235374361882840695648130507160356531114764672518518177953158301478527941524664451027652994203837316875521763400425060337473028002116655123849258006325389448469426086626925420157292515721730810254761428406529512181787 = true := by decide +kernel
theorem t_cX9_changed : bT cX9_changed 82 201028993105077307028995260739579983266047052521057339144910039439243826999873982011152681311648402597044933389333161747738452352602964313154022009967739087161625081909781782639417133931824991649283 = true := by decide +kernel
theorem t_cX9_visitor : bT cX9_visitor 143 160912175453892987650045039309497318530409754809318549035837684554604035779050921018476507915864621793832451669454368299226052589527861293742261575468939352394073659255399841346440437531254243377090357757541258304938395110100902203524118106299922575410100503086317973923523034701850953010155861813766817010732876746209304591745263258679629055771 = true := by decide +kernel
theorem t_cX9_wrongShelf : bT cX9_wrongShelf 29 4637428410183880544911534420496446926244933153230060199196228256308763 = true := by decide +kernel
theorem t_cX9_wins : bT cX9_wins 311 61656335761206801305017686029081488348030157698572640565017958420022907930015773665808441763458211538428410889357838569001199876788733200901116478790695562713467853206101615799378916939243089275443688684894009696760829019534204217840520239410351642219775717465298816305494685796317638865401709998145739582064188125893188801537935432321777240117287935845781090181361835006898544806432041526507410737598825727480554229747605803509425716970199559832417532230201167884863195117634820114616839055562489561251763682907889792600443562619246499309031289730980929053611429347096296761069546871796656361828638600418859276722369842198047683287878934965977533544161135889912057826667069245054804830739862181864010369635677401975344788535070984228200260602737706 = true := by decide +kernel
theorem t_cX9_stands : bT cX9_stands 53 29127339638834432194950244181333624518704151776758113142525469535917840663064364656129492331523325877274195617539277256952856067 = true := by decide +kernel
theorem t_cX9_shelves : bT cX9_shelves 302 13068074647010401840118665058427007088523716504760342287492544871599034146456218655526452602539456115892064118777656349629627426665560624731785210377416770680841731396970618599573417025097882162089914692542476476886347359799531533889044262441725763316863376652843117686548653641228618244864538352304276962853639313253250377796212940624285525864010649682603394836328337819976338638481462563290937105691813235705239906762605364240389530649168068834968781914554706993136077594498719757381397457151516480110949027345749173038002132613091076597373586041033555458581404637935917834921111533925182630152871444988672165763573466618777395931952995013778080230292595366809541049468385010871451437592612003799457295679228498584594308989738 = true := by decide +kernel
theorem t_cX9_shelf : bT cX9_shelf 24 4240606989666900780640697626298083875022945531840121150250 = true := by decide +kernel
theorem t_cX9_row : bT cX9_row 46 406215874944628829871434159444789657046248507991977173313822464334862790153613511515494399957436743357847444266 = true := by decide +kernel
theorem t_cX9_quarrel : bT cX9_quarrel 95 4083943133415318767499162220371510666114561915588300213140356985065343586807152389170661753284152928227064250023028882239209457449831532558487739721249469922000079157393985325836890677198077485222428496926659939780951150643518250 = true := by decide +kernel
theorem t_cX9_part : bT cX9_part 48 26475677865954352315296101178078844918983190720183474845231248553964777444445249725242387019632816226078649106436123 = true := by decide +kernel
theorem t_cX9_clash : bT cX9_clash 89 14477317056277812287935632492137454885897367731207867239361619130687649299001471713533733306226380707193110097769781405834469367716567172291996003339433758943083904341054944558684678454577254602354441603086599363355 = true := by decide +kernel
theorem t_cX9_isFake : bT cX9_isFake 87 221028581409424257013599902691147582711685292783007069184025946865158760403172414258031267007593806471509121835311755885997949730080626497858002506830137143146054731573740964100280385468732986128636266489789699 = true := by decide +kernel
theorem t_cX9_fake : bT cX9_fake 29 4650801717143131341055779927060620155152935387099823289330935745525787 = true := by decide +kernel
theorem t_cX9_least : bT cX9_least 77 182723982953186543928882093658355705600491873533436113912664752422355927550750429809823926226901812193203506170261948810466241954602685574582937956217703162520698145550928907742176393243 = true := by decide +kernel
theorem t_cX9_count : bT cX9_count 229 207334020205174428013759432371658305648183290730965645139594738672092105042529161922631500593110660672111134172620936995789123283644510876424294723200538809901678912850788573329201604679349886757838626082068192394083678088620063695568358241727151966017079240691793034587934159430880697114599231787537098492427925229687670422594949878363517114930182572189719900575525057815252082724885324012739844292218331269907579899617259793779831814671931796238049642222720022429604583440977081772702079630410906681189792634663418017783631336287826851342761176207387 = true := by decide +kernel
theorem t_cJ6_bitCount_0f7a4 : bT cJ6_bitCount_0f7a4 53 29191072314006325589562598551851352981882695395416633663429485367063422231838843172391435190752337493617816677681362004766628378 = true := by decide +kernel
theorem t_cL_law : bT cL_law 1351 22883851427742537806235894814246070431850798760235856978288983085569711512304582418510490253967677376893968644577764303676403281817953920562596542707913764263623021735327581340247639930333968911041291358128026783345148711812226664037572184111055705528950573015243416172597487923998109183306904519658970059925951502950328095076161539129571749987272563332710304316332657029122576337269408759200904428138410849191081695125170319104361944005264105052190442293493013619609017353517311833539836003474797393781833642967970656766673652571745060130937063985332900674073176950149393803289459107358438307737979140080444460633380843036066026195497747691727963047798012159457123912998430086069234159978184296478956990505091162056106795707416193029654425014401110972023314606709344111659046207416085140251032926621309223521498182633839305817515350891011245392205668797403008772214527529126878939625872739560374679064463982208974636904726830688798604280773124719853991420409746737176032917809940124183504128185123887022178766918788600734576092164156714077227846778276884432224672211917447727791819515133076799541694168281132893369259131252913280456511034571250447071386826045592139781803884808336586071111329824101769250808688253393890794657448159829227948735101173773734195085469792718750812779949079052123389354459384592569213847430229676955449564905046239539871009951574031268383274998222147909110220596206853705781581901683318078427301645386562031612875774761373054041806373056812343405341863896847967849689910197051189900998007017459771308920468443999104334447890183962739693459902671836249207591944953884396947239219246655452064488527888009162103193923920722561032871739821570833784422652121918495979801828671725713198597645419708323828732957646558866574501608303198576238806003044178836180761118379613813316391016574385613625528154827532933245316717430783254755903712215940747979216687783833103773541527063127596456612480410049442809202804516234164522189913646865389722027062693677389399724420531402257737148328149441754610951269755143922569475810421068468925032466263086998212633973137141336110136930033441078791573867110030359075833878752227218686549175803308891252687637704943772670103594710866116116318996835241518142167125364593711148950973499815474507651347896596512014605044796075374335641492693688886156626127025597581189323974507676432709942317549489627878477960617326610904763610490298397013968269078917240625006037664178357647011851892380854117955040979595466601142945911686909756253043362716151826734129289817498583648613533722586707524799544171413290532207137858425851041788935537001179687528629064564074032692400682898716647515767722070780824920047737746084153701892455646930828845605582543850161619098656755832420013718002434041762182031506110902955576055473284525594085269149511858751978809514247272292427639586521615970218630176132398061839350530185380834770176449079414672066622589573538357211491712399741661142089800314391003584212990746242505126353815831913662194182072159297193811847500233396678945690163572144423601409998829641063713347848187233272206287065992166139300552690680742832595414177204094652793797710765050585800384370051797866171319221213299467936787749152405053021045666780400470817091903387364393610167245099605414425926238395 = true := by decide +kernel
