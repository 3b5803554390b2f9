set_option maxHeartbeats 4000000 in
theorem bX9_wrongShelf {l : Launch} {G : xG} {h : List va_E} {x : Int32}   : CD l G yX9_wrongShelf cX9_wrongShelf 2 (some .int) 1 0 0 [.ref (G.1 + 88), .int x] h (some (.int (shR x))) h := by
  refine cm_ofQ rfl (Nat.le_of_ble_eq_true rfl) [(0, .ref (G.1 + 88)), (1, .int x)] rfl (fun QF hQF => ?_)
  refine aw_iload_n 1 dX9_wrongShelf_0 rfl rfl ?_
  refine aw_if_le 11 dX9_wrongShelf_1 (by decide) (fun c1 => ?_) (fun c1 => ?_)
  · have d1 := (j_le (a := x.toInt) (b := (0)) (rfl) (rfl)).mp c1
    refine aw_iconst (-1) dX9_wrongShelf_11 (by decide) ?_
    subst hQF
    exact aw_iret rfl dX9_wrongShelf_12 (by decide) (by decide) ⟨by unfold shR; (repeat' split) <;> first | (exfalso; omega) | rfl, rfl⟩
  · have d1 := mt (j_le (a := x.toInt) (b := (0)) (rfl) (rfl)).mpr c1
    refine aw_iload_n 1 dX9_wrongShelf_4 rfl rfl ?_
    refine aw_sipush (4096) dX9_wrongShelf_5 (by decide) ?_
    refine aw_icmp_lt 13 dX9_wrongShelf_8 (by decide) (fun c8 => ?_) (fun c8 => ?_)
    · have d8 := (j_lt (a := x.toInt) (b := (4096)) (rfl) (rfl)).mp c8
      obtain ⟨xa, bb_xa, ee_xa⟩ := i_nat (x := x) (N := 4096) (by omega) (by omega)
      subst ee_xa
      have tt_xa : (nI xa).toInt = (xa : Int) := nI_toInt (by omega)
      have nn_xa : tn (nI xa) = xa := tn_nI (by omega)
      refine aw_iload_n 1 dX9_wrongShelf_13 rfl rfl ?_
      refine aw_dS [.int (nI xa)] [] lX9_159 sX9_bitsOf mX9_bitsOf dX9_wrongShelf_14 (bX9_bitsOf (a := xa) (by omega)) rfl (Nat.le_of_ble_eq_true rfl) (by decide) (by decide) rfl ?_
      refine aw_toe (nI (popN xa)) (by rw [pc_pop bb_xa]) ?_
      have bpx := popN_le xa
      refine aw_bipush (8) dX9_wrongShelf_17 (by decide) ?_
      refine aw_icmp_le 27 dX9_wrongShelf_19 (by decide) (fun c19 => ?_) (fun c19 => ?_)
      · have d19 := (nv_le (a := popN xa) (b := 8) (rfl) (rfl) (by omega) (by omega)).mp c19
        refine aw_iconst (0) dX9_wrongShelf_27 (by decide) ?_
        subst hQF
        exact aw_iret rfl dX9_wrongShelf_28 (by decide) (by decide) ⟨by unfold shR; rw [nn_xa]; (repeat' split) <;> first | (exfalso; omega) | rfl, rfl⟩
      · have d19 := mt (nv_le (a := popN xa) (b := 8) (rfl) (rfl) (by omega) (by omega)).mpr c19
        refine aw_bipush (-6) dX9_wrongShelf_22 (by decide) ?_
        refine aw_goto 28 dX9_wrongShelf_24 (by decide) ?_
        subst hQF
        exact aw_iret rfl dX9_wrongShelf_28 (by decide) (by decide) ⟨by unfold shR; rw [nn_xa]; (repeat' split) <;> first | (exfalso; omega) | rfl, rfl⟩
    · have d8 := mt (j_lt (a := x.toInt) (b := (4096)) (rfl) (rfl)).mpr c8
      refine aw_iconst (-1) dX9_wrongShelf_11 (by decide) ?_
      subst hQF
      exact aw_iret rfl dX9_wrongShelf_12 (by decide) (by decide) ⟨by unfold shR; (repeat' split) <;> first | (exfalso; omega) | rfl, rfl⟩
