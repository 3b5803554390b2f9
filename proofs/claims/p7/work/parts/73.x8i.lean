set_option maxHeartbeats 4000000 in
theorem oX8_withdraw1 {l : Launch} {G : xG} {h : List va_E} {jv bv : Value} {rf : Nat → Int32} {th ot dy so kn go od : Nat → Nat} {n : Nat} {wd : Int32} {q k : Int32} (h0 : h[0]? = some (oB 8 (lX G (jv) (bv)))) (h87 : h[87]? = some (aI 7 rf)) (h61 : h[61]? = some (oB 5 (lR G 61 (nI n) wd))) (h62 : h[62]? = some (aI 60 (nA th))) (h63 : h[63]? = some (aI 60 (nA ot))) (h64 : h[64]? = some (aI 60 (nA dy))) (h65 : h[65]? = some (aI 60 (nA so))) (h66 : h[66]? = some (aI 60 (nA kn))) (h67 : h[67]? = some (aI 60 (nA go))) (h68 : h[68]? = some (aI 60 (nA od))) (hn : n ≤ 60) (hod : srt dy od n) (bkn : ∀ j, j < 60 → kn j ≤ 80000) (bgo : ∀ j, j < 60 → go j ≤ 80001) : CE l G yX8_withdraw cX8_withdraw 5 (some .int) 2 0 0 [.ref (G.1 + 0), .int 1, .int q, .int k] h (some (.int (spBack n kn go q k))) (fun h1 => ∃ wd1 : Int32, ∃ rf1 : Nat → Int32, h1[61]? = some (oB 5 (lR G 61 (nI n) wd1)) ∧ h1[62]? = some (aI 60 (nA th)) ∧ h1[63]? = some (aI 60 (nA ot)) ∧ h1[64]? = some (aI 60 (nA dy)) ∧ h1[65]? = some (aI 60 (nA so)) ∧ h1[66]? = some (aI 60 (nA kn)) ∧ h1[67]? = some (aI 60 (nA (spUn (0 ≤ (spBack n kn go q k).toInt) go (tn q) (tn k)))) ∧ h1[68]? = some (aI 60 (nA od)) ∧ h1[87]? = some (aI 7 rf1) ∧ rg2 61 68 87 87 h h1) := by
  refine cm_ofQ rfl (Nat.le_of_ble_eq_true rfl) [(0, .ref (G.1 + 0)), (1, .int 1), (2, .int q), (3, .int k)] rfl (fun QF hQF => ?_)
  refine aw_iload_n 1 dX8_withdraw_0 rfl rfl ?_
  refine aw_if_eq 11 dX8_withdraw_1 (by decide) (fun c1 => absurd c1 (by decide)) (fun c1 => ?_)
  refine aw_aload_n 0 dX8_withdraw_4 rfl rfl ?_
  refine aw_get fX8_34 dX8_withdraw_5 h0 rfl ?_
  refine aw_goto 15 dX8_withdraw_8 (by decide) ?_
  refine aw_astore [(4, .ref (G.1 + 61)), (0, .ref (G.1 + 0)), (1, .int 1), (2, .int q), (3, .int k)] dX8_withdraw_15 (by decide) rfl ?_
  refine aw_iload_n 3 dX8_withdraw_17 rfl rfl ?_
  refine aw_if_lt 30 dX8_withdraw_18 (by decide) (fun c18 => ?_) (fun c18 => ?_)
  · have d18 := (j_lt (a := q.toInt) (b := (0)) (rfl) (rfl)).mp c18
    refine aw_aload_n 1 dX8_withdraw_30 rfl rfl ?_
    refine aw_iconst (-1) dX8_withdraw_31 (by decide) ?_
    refine aw_eV [.int (-1)] [] lX8_70 vX8_refuse mX8_refuse dX8_withdraw_32 (bX8_refuse (jv := jv) (bv := bv) (rf := rf) (x := (-1)) (q := 1) h0 h87 (by decide) (by decide)) h0 rfl rfl rfl (Nat.le_of_ble_eq_true rfl) (by decide) (by decide) rfl (fun h1149 q1148 => ?_)
    obtain ⟨rf11147, f1150, k1151⟩ := q1148
    have f1152 := rng_at k1151 (by decide) h0
    have f1153 := rng_at k1151 (by decide) h61
    have f1154 := rng_at k1151 (by decide) h62
    have f1155 := rng_at k1151 (by decide) h63
    have f1156 := rng_at k1151 (by decide) h64
    have f1157 := rng_at k1151 (by decide) h65
    have f1158 := rng_at k1151 (by decide) h66
    have f1159 := rng_at k1151 (by decide) h67
    have f1160 := rng_at k1151 (by decide) h68
    subst hQF
    have eS : (spBack n kn go q k) = (-1) := by unfold spBack; (repeat' split) <;> first | (exfalso; omega) | rfl
    have ok9 : ¬ 0 ≤ (spBack n kn go q k).toInt := by rw [eS]; decide
    exact aw_iret rfl dX8_withdraw_35 (by decide) (by decide) ⟨by rw [eS], _, _, f1153, f1154, f1155, f1156, f1157, f1158, by rw [spUn_n ok9]; exact f1159, f1160, f1150, rg2_tr (rg2_rf 61 68 87 87 h) (rg2_w k1151 (by decide))⟩
  · have d18 := mt (j_lt (a := q.toInt) (b := (0)) (rfl) (rfl)).mpr c18
    refine aw_iload_n 3 dX8_withdraw_21 rfl rfl ?_
    refine aw_aload 0 dX8_withdraw_22 rfl ?_
    refine aw_get fX8_160 dX8_withdraw_24 h61 rfl ?_
    refine aw_icmp_lt 36 dX8_withdraw_27 (by decide) (fun c27 => ?_) (fun c27 => ?_)
    · have d27 := (j_lt (a := q.toInt) (b := ((n : Nat) : Int)) (rfl) (i_toNat (rfl) (by omega))).mp c27
      obtain ⟨q0, bb_q0, ee_q0⟩ := i_nat (x := q) (N := n) (by omega) (by omega)
      subst ee_q0
      have tt_q0 : (nI q0).toInt = (q0 : Int) := nI_toInt (by omega)
      have nn_q0 : tn (nI q0) = q0 := tn_nI (by omega)
      refine aw_aload 0 dX8_withdraw_36 rfl ?_
      refine aw_get fX8_165 dX8_withdraw_38 h61 rfl ?_
      refine aw_iload_n 3 dX8_withdraw_41 rfl rfl ?_
      refine aw_iald q0 (rfl) (by omega) (by decide) dX8_withdraw_42 h67 ?_
      refine aw_toe (nI (go q0)) (rfl) ?_
      have b1161 := bgo q0 (by omega)
      refine aw_ldc (80001) kX8_168 dX8_withdraw_43 ?_
      refine aw_icmp_eq 55 dX8_withdraw_45 (by decide) (fun c45 => ?_) (fun c45 => ?_)
      · have d45 := (nv_eq (a := go q0) (b := 80001) (rfl) (rfl) (by omega) (by omega)).mp c45
        refine aw_iload_n 4 dX8_withdraw_55 rfl rfl ?_
        refine aw_aload 0 dX8_withdraw_56 rfl ?_
        refine aw_get fX8_169 dX8_withdraw_58 h61 rfl ?_
        refine aw_iload_n 3 dX8_withdraw_61 rfl rfl ?_
        refine aw_iald q0 (rfl) (by omega) (by decide) dX8_withdraw_62 h66 ?_
        refine aw_toe (nI (kn q0)) (rfl) ?_
        have b1162 := bkn q0 (by omega)
        refine aw_icmp_ge 73 dX8_withdraw_63 (by decide) (fun c63 => ?_) (fun c63 => ?_)
        · have d63 := (j_le (a := ((kn q0 : Nat) : Int)) (b := k.toInt) (i_toNat (rfl) (by omega)) (rfl)).mp c63
          refine aw_iload_n 4 dX8_withdraw_73 rfl rfl ?_
          refine aw_ldc (80000) kX8_172 dX8_withdraw_74 ?_
          refine aw_icmp_le 86 dX8_withdraw_76 (by decide) (fun c76 => ?_) (fun c76 => ?_)
          · have d76 := (j_le (a := k.toInt) (b := (80000)) (rfl) (rfl)).mp c76
            obtain ⟨k0, bb_k0, ee_k0⟩ := i_nat (x := k) (N := 80001) (by omega) (by omega)
            subst ee_k0
            have tt_k0 : (nI k0).toInt = (k0 : Int) := nI_toInt (by omega)
            have nn_k0 : tn (nI k0) = k0 := tn_nI (by omega)
            refine aw_aload 0 dX8_withdraw_86 rfl ?_
            refine aw_iload_n 3 dX8_withdraw_88 rfl rfl ?_
            refine aw_iload_n 4 dX8_withdraw_89 rfl rfl ?_
            refine aw_eW [.int (nI q0), .int (nI k0)] [] lX8_173 vX5_takeBack mX5_takeBack dX8_withdraw_90 (aX5_takeBack (th := th) (ot := ot) (dy := dy) (so := so) (kn := kn) (go := go) (od := od) (n := n) (wd := wd) (r := 61) (q := q0) (k := k0) h61 h62 h63 h64 h65 h66 h67 h68 (by omega) hod (by omega)) h61 rfl rfl rfl (Nat.le_of_ble_eq_true rfl) (by decide) (by decide) rfl (fun h1165 q1164 => ?_)
            obtain ⟨wd11163, f1166, f1167, f1168, f1169, f1170, f1171, f1172, f1173, k1174⟩ := q1164
            have f1175 := rng_at k1174 (by decide) h0
            have f1176 := rng_at k1174 (by decide) h87
            refine aw_iconst (1) dX8_withdraw_93 (by decide) ?_
            subst hQF
            have eS : (spBack n kn go (nI q0) (nI k0)) = 1 := by unfold spBack; simp only [nn_q0, nn_k0]; (repeat' split) <;> first | (exfalso; omega) | rfl
            have ok9 : 0 ≤ (spBack n kn go (nI q0) (nI k0)).toInt := by rw [eS]; decide
            exact aw_iret rfl dX8_withdraw_94 (by decide) (by decide) ⟨by rw [eS], _, _, f1166, f1167, f1168, f1169, f1170, f1171, by rw [spUn_y ok9, nn_q0, nn_k0]; exact f1172, f1173, f1176, rg2_tr (rg2_rf 61 68 87 87 h) (rg2_w k1174 (by decide))⟩
          · have d76 := mt (j_le (a := k.toInt) (b := (80000)) (rfl) (rfl)).mpr c76
            refine aw_aload_n 1 dX8_withdraw_79 rfl rfl ?_
            refine aw_bipush (-6) dX8_withdraw_80 (by decide) ?_
            refine aw_eV [.int (-6)] [] lX8_70 vX8_refuse mX8_refuse dX8_withdraw_82 (bX8_refuse (jv := jv) (bv := bv) (rf := rf) (x := (-6)) (q := 6) h0 h87 (by decide) (by decide)) h0 rfl rfl rfl (Nat.le_of_ble_eq_true rfl) (by decide) (by decide) rfl (fun h1179 q1178 => ?_)
            obtain ⟨rf11177, f1180, k1181⟩ := q1178
            have f1182 := rng_at k1181 (by decide) h0
            have f1183 := rng_at k1181 (by decide) h61
            have f1184 := rng_at k1181 (by decide) h62
            have f1185 := rng_at k1181 (by decide) h63
            have f1186 := rng_at k1181 (by decide) h64
            have f1187 := rng_at k1181 (by decide) h65
            have f1188 := rng_at k1181 (by decide) h66
            have f1189 := rng_at k1181 (by decide) h67
            have f1190 := rng_at k1181 (by decide) h68
            subst hQF
            have eS : (spBack n kn go (nI q0) k) = (-6) := by unfold spBack; simp only [nn_q0]; (repeat' split) <;> first | (exfalso; omega) | rfl
            have ok9 : ¬ 0 ≤ (spBack n kn go (nI q0) k).toInt := by rw [eS]; decide
            exact aw_iret rfl dX8_withdraw_85 (by decide) (by decide) ⟨by rw [eS], _, _, f1183, f1184, f1185, f1186, f1187, f1188, by rw [spUn_n ok9]; exact f1189, f1190, f1180, rg2_tr (rg2_rf 61 68 87 87 h) (rg2_w k1181 (by decide))⟩
        · have d63 := mt (j_le (a := ((kn q0 : Nat) : Int)) (b := k.toInt) (i_toNat (rfl) (by omega)) (rfl)).mpr c63
          refine aw_aload_n 1 dX8_withdraw_66 rfl rfl ?_
          refine aw_bipush (-4) dX8_withdraw_67 (by decide) ?_
          refine aw_eV [.int (-4)] [] lX8_70 vX8_refuse mX8_refuse dX8_withdraw_69 (bX8_refuse (jv := jv) (bv := bv) (rf := rf) (x := (-4)) (q := 4) h0 h87 (by decide) (by decide)) h0 rfl rfl rfl (Nat.le_of_ble_eq_true rfl) (by decide) (by decide) rfl (fun h1193 q1192 => ?_)
          obtain ⟨rf11191, f1194, k1195⟩ := q1192
          have f1196 := rng_at k1195 (by decide) h0
          have f1197 := rng_at k1195 (by decide) h61
          have f1198 := rng_at k1195 (by decide) h62
          have f1199 := rng_at k1195 (by decide) h63
          have f1200 := rng_at k1195 (by decide) h64
          have f1201 := rng_at k1195 (by decide) h65
          have f1202 := rng_at k1195 (by decide) h66
          have f1203 := rng_at k1195 (by decide) h67
          have f1204 := rng_at k1195 (by decide) h68
          subst hQF
          have eS : (spBack n kn go (nI q0) k) = (-4) := by unfold spBack; simp only [nn_q0]; (repeat' split) <;> first | (exfalso; omega) | rfl
          have ok9 : ¬ 0 ≤ (spBack n kn go (nI q0) k).toInt := by rw [eS]; decide
          exact aw_iret rfl dX8_withdraw_72 (by decide) (by decide) ⟨by rw [eS], _, _, f1197, f1198, f1199, f1200, f1201, f1202, by rw [spUn_n ok9]; exact f1203, f1204, f1194, rg2_tr (rg2_rf 61 68 87 87 h) (rg2_w k1195 (by decide))⟩
      · have d45 := mt (nv_eq (a := go q0) (b := 80001) (rfl) (rfl) (by omega) (by omega)).mpr c45
        refine aw_aload_n 1 dX8_withdraw_48 rfl rfl ?_
        refine aw_bipush (-3) dX8_withdraw_49 (by decide) ?_
        refine aw_eV [.int (-3)] [] lX8_70 vX8_refuse mX8_refuse dX8_withdraw_51 (bX8_refuse (jv := jv) (bv := bv) (rf := rf) (x := (-3)) (q := 3) h0 h87 (by decide) (by decide)) h0 rfl rfl rfl (Nat.le_of_ble_eq_true rfl) (by decide) (by decide) rfl (fun h1207 q1206 => ?_)
        obtain ⟨rf11205, f1208, k1209⟩ := q1206
        have f1210 := rng_at k1209 (by decide) h0
        have f1211 := rng_at k1209 (by decide) h61
        have f1212 := rng_at k1209 (by decide) h62
        have f1213 := rng_at k1209 (by decide) h63
        have f1214 := rng_at k1209 (by decide) h64
        have f1215 := rng_at k1209 (by decide) h65
        have f1216 := rng_at k1209 (by decide) h66
        have f1217 := rng_at k1209 (by decide) h67
        have f1218 := rng_at k1209 (by decide) h68
        subst hQF
        have eS : (spBack n kn go (nI q0) k) = (-3) := by unfold spBack; simp only [nn_q0]; (repeat' split) <;> first | (exfalso; omega) | rfl
        have ok9 : ¬ 0 ≤ (spBack n kn go (nI q0) k).toInt := by rw [eS]; decide
        exact aw_iret rfl dX8_withdraw_54 (by decide) (by decide) ⟨by rw [eS], _, _, f1211, f1212, f1213, f1214, f1215, f1216, by rw [spUn_n ok9]; exact f1217, f1218, f1208, rg2_tr (rg2_rf 61 68 87 87 h) (rg2_w k1209 (by decide))⟩
    · have d27 := mt (j_lt (a := q.toInt) (b := ((n : Nat) : Int)) (rfl) (i_toNat (rfl) (by omega))).mpr c27
      refine aw_aload_n 1 dX8_withdraw_30 rfl rfl ?_
      refine aw_iconst (-1) dX8_withdraw_31 (by decide) ?_
      refine aw_eV [.int (-1)] [] lX8_70 vX8_refuse mX8_refuse dX8_withdraw_32 (bX8_refuse (jv := jv) (bv := bv) (rf := rf) (x := (-1)) (q := 1) h0 h87 (by decide) (by decide)) h0 rfl rfl rfl (Nat.le_of_ble_eq_true rfl) (by decide) (by decide) rfl (fun h1221 q1220 => ?_)
      obtain ⟨rf11219, f1222, k1223⟩ := q1220
      have f1224 := rng_at k1223 (by decide) h0
      have f1225 := rng_at k1223 (by decide) h61
      have f1226 := rng_at k1223 (by decide) h62
      have f1227 := rng_at k1223 (by decide) h63
      have f1228 := rng_at k1223 (by decide) h64
      have f1229 := rng_at k1223 (by decide) h65
      have f1230 := rng_at k1223 (by decide) h66
      have f1231 := rng_at k1223 (by decide) h67
      have f1232 := rng_at k1223 (by decide) h68
      subst hQF
      have eS : (spBack n kn go q k) = (-1) := by unfold spBack; (repeat' split) <;> first | (exfalso; omega) | rfl
      have ok9 : ¬ 0 ≤ (spBack n kn go q k).toInt := by rw [eS]; decide
      exact aw_iret rfl dX8_withdraw_35 (by decide) (by decide) ⟨by rw [eS], _, _, f1225, f1226, f1227, f1228, f1229, f1230, by rw [spUn_n ok9]; exact f1231, f1232, f1222, rg2_tr (rg2_rf 61 68 87 87 h) (rg2_w k1223 (by decide))⟩
set_option maxHeartbeats 4000000 in
theorem oX8_withdraw0 {l : Launch} {G : xG} {h : List va_E} {jv bv : Value} {rf : Nat → Int32} {th ot dy so kn go od : Nat → Nat} {n : Nat} {wd : Int32} {q k : Int32} (h0 : h[0]? = some (oB 8 (lX G (jv) (bv)))) (h87 : h[87]? = some (aI 7 rf)) (h69 : h[69]? = some (oB 5 (lR G 69 (nI n) wd))) (h70 : h[70]? = some (aI 60 (nA th))) (h71 : h[71]? = some (aI 60 (nA ot))) (h72 : h[72]? = some (aI 60 (nA dy))) (h73 : h[73]? = some (aI 60 (nA so))) (h74 : h[74]? = some (aI 60 (nA kn))) (h75 : h[75]? = some (aI 60 (nA go))) (h76 : h[76]? = some (aI 60 (nA od))) (hn : n ≤ 60) (hod : srt dy od n) (bkn : ∀ j, j < 60 → kn j ≤ 80000) (bgo : ∀ j, j < 60 → go j ≤ 80001) : CE l G yX8_withdraw cX8_withdraw 5 (some .int) 2 0 0 [.ref (G.1 + 0), .int 0, .int q, .int k] h (some (.int (spBack n kn go q k))) (fun h1 => ∃ wd1 : Int32, ∃ rf1 : Nat → Int32, h1[69]? = some (oB 5 (lR G 69 (nI n) wd1)) ∧ h1[70]? = some (aI 60 (nA th)) ∧ h1[71]? = some (aI 60 (nA ot)) ∧ h1[72]? = some (aI 60 (nA dy)) ∧ h1[73]? = some (aI 60 (nA so)) ∧ h1[74]? = some (aI 60 (nA kn)) ∧ h1[75]? = some (aI 60 (nA (spUn (0 ≤ (spBack n kn go q k).toInt) go (tn q) (tn k)))) ∧ h1[76]? = some (aI 60 (nA od)) ∧ h1[87]? = some (aI 7 rf1) ∧ rg2 69 76 87 87 h h1) := by
  refine cm_ofQ rfl (Nat.le_of_ble_eq_true rfl) [(0, .ref (G.1 + 0)), (1, .int 0), (2, .int q), (3, .int k)] rfl (fun QF hQF => ?_)
  refine aw_iload_n 1 dX8_withdraw_0 rfl rfl ?_
  refine aw_if_eq 11 dX8_withdraw_1 (by decide) (fun c1 => ?_) (fun c1 => absurd (by decide) c1)
  refine aw_aload_n 0 dX8_withdraw_11 rfl rfl ?_
  refine aw_get fX8_38 dX8_withdraw_12 h0 rfl ?_
  refine aw_astore [(4, .ref (G.1 + 69)), (0, .ref (G.1 + 0)), (1, .int 0), (2, .int q), (3, .int k)] dX8_withdraw_15 (by decide) rfl ?_
  refine aw_iload_n 3 dX8_withdraw_17 rfl rfl ?_
  refine aw_if_lt 30 dX8_withdraw_18 (by decide) (fun c18 => ?_) (fun c18 => ?_)
  · have d18 := (j_lt (a := q.toInt) (b := (0)) (rfl) (rfl)).mp c18
    refine aw_aload_n 1 dX8_withdraw_30 rfl rfl ?_
    refine aw_iconst (-1) dX8_withdraw_31 (by decide) ?_
    refine aw_eV [.int (-1)] [] lX8_70 vX8_refuse mX8_refuse dX8_withdraw_32 (bX8_refuse (jv := jv) (bv := bv) (rf := rf) (x := (-1)) (q := 1) h0 h87 (by decide) (by decide)) h0 rfl rfl rfl (Nat.le_of_ble_eq_true rfl) (by decide) (by decide) rfl (fun h1235 q1234 => ?_)
    obtain ⟨rf11233, f1236, k1237⟩ := q1234
    have f1238 := rng_at k1237 (by decide) h0
    have f1239 := rng_at k1237 (by decide) h69
    have f1240 := rng_at k1237 (by decide) h70
    have f1241 := rng_at k1237 (by decide) h71
    have f1242 := rng_at k1237 (by decide) h72
    have f1243 := rng_at k1237 (by decide) h73
    have f1244 := rng_at k1237 (by decide) h74
    have f1245 := rng_at k1237 (by decide) h75
    have f1246 := rng_at k1237 (by decide) h76
    subst hQF
    have eS : (spBack n kn go q k) = (-1) := by unfold spBack; (repeat' split) <;> first | (exfalso; omega) | rfl
    have ok9 : ¬ 0 ≤ (spBack n kn go q k).toInt := by rw [eS]; decide
    exact aw_iret rfl dX8_withdraw_35 (by decide) (by decide) ⟨by rw [eS], _, _, f1239, f1240, f1241, f1242, f1243, f1244, by rw [spUn_n ok9]; exact f1245, f1246, f1236, rg2_tr (rg2_rf 69 76 87 87 h) (rg2_w k1237 (by decide))⟩
  · have d18 := mt (j_lt (a := q.toInt) (b := (0)) (rfl) (rfl)).mpr c18
    refine aw_iload_n 3 dX8_withdraw_21 rfl rfl ?_
    refine aw_aload 0 dX8_withdraw_22 rfl ?_
    refine aw_get fX8_160 dX8_withdraw_24 h69 rfl ?_
    refine aw_icmp_lt 36 dX8_withdraw_27 (by decide) (fun c27 => ?_) (fun c27 => ?_)
    · have d27 := (j_lt (a := q.toInt) (b := ((n : Nat) : Int)) (rfl) (i_toNat (rfl) (by omega))).mp c27
      obtain ⟨q0, bb_q0, ee_q0⟩ := i_nat (x := q) (N := n) (by omega) (by omega)
      subst ee_q0
      have tt_q0 : (nI q0).toInt = (q0 : Int) := nI_toInt (by omega)
      have nn_q0 : tn (nI q0) = q0 := tn_nI (by omega)
      refine aw_aload 0 dX8_withdraw_36 rfl ?_
      refine aw_get fX8_165 dX8_withdraw_38 h69 rfl ?_
      refine aw_iload_n 3 dX8_withdraw_41 rfl rfl ?_
      refine aw_iald q0 (rfl) (by omega) (by decide) dX8_withdraw_42 h75 ?_
      refine aw_toe (nI (go q0)) (rfl) ?_
      have b1247 := bgo q0 (by omega)
      refine aw_ldc (80001) kX8_168 dX8_withdraw_43 ?_
      refine aw_icmp_eq 55 dX8_withdraw_45 (by decide) (fun c45 => ?_) (fun c45 => ?_)
      · have d45 := (nv_eq (a := go q0) (b := 80001) (rfl) (rfl) (by omega) (by omega)).mp c45
        refine aw_iload_n 4 dX8_withdraw_55 rfl rfl ?_
        refine aw_aload 0 dX8_withdraw_56 rfl ?_
        refine aw_get fX8_169 dX8_withdraw_58 h69 rfl ?_
        refine aw_iload_n 3 dX8_withdraw_61 rfl rfl ?_
        refine aw_iald q0 (rfl) (by omega) (by decide) dX8_withdraw_62 h74 ?_
        refine aw_toe (nI (kn q0)) (rfl) ?_
        have b1248 := bkn q0 (by omega)
        refine aw_icmp_ge 73 dX8_withdraw_63 (by decide) (fun c63 => ?_) (fun c63 => ?_)
        · have d63 := (j_le (a := ((kn q0 : Nat) : Int)) (b := k.toInt) (i_toNat (rfl) (by omega)) (rfl)).mp c63
          refine aw_iload_n 4 dX8_withdraw_73 rfl rfl ?_
          refine aw_ldc (80000) kX8_172 dX8_withdraw_74 ?_
          refine aw_icmp_le 86 dX8_withdraw_76 (by decide) (fun c76 => ?_) (fun c76 => ?_)
          · have d76 := (j_le (a := k.toInt) (b := (80000)) (rfl) (rfl)).mp c76
            obtain ⟨k0, bb_k0, ee_k0⟩ := i_nat (x := k) (N := 80001) (by omega) (by omega)
            subst ee_k0
            have tt_k0 : (nI k0).toInt = (k0 : Int) := nI_toInt (by omega)
            have nn_k0 : tn (nI k0) = k0 := tn_nI (by omega)
            refine aw_aload 0 dX8_withdraw_86 rfl ?_
            refine aw_iload_n 3 dX8_withdraw_88 rfl rfl ?_
            refine aw_iload_n 4 dX8_withdraw_89 rfl rfl ?_
            refine aw_eW [.int (nI q0), .int (nI k0)] [] lX8_173 vX5_takeBack mX5_takeBack dX8_withdraw_90 (aX5_takeBack (th := th) (ot := ot) (dy := dy) (so := so) (kn := kn) (go := go) (od := od) (n := n) (wd := wd) (r := 69) (q := q0) (k := k0) h69 h70 h71 h72 h73 h74 h75 h76 (by omega) hod (by omega)) h69 rfl rfl rfl (Nat.le_of_ble_eq_true rfl) (by decide) (by decide) rfl (fun h1251 q1250 => ?_)
            obtain ⟨wd11249, f1252, f1253, f1254, f1255, f1256, f1257, f1258, f1259, k1260⟩ := q1250
            have f1261 := rng_at k1260 (by decide) h0
            have f1262 := rng_at k1260 (by decide) h87
            refine aw_iconst (1) dX8_withdraw_93 (by decide) ?_
            subst hQF
            have eS : (spBack n kn go (nI q0) (nI k0)) = 1 := by unfold spBack; simp only [nn_q0, nn_k0]; (repeat' split) <;> first | (exfalso; omega) | rfl
            have ok9 : 0 ≤ (spBack n kn go (nI q0) (nI k0)).toInt := by rw [eS]; decide
            exact aw_iret rfl dX8_withdraw_94 (by decide) (by decide) ⟨by rw [eS], _, _, f1252, f1253, f1254, f1255, f1256, f1257, by rw [spUn_y ok9, nn_q0, nn_k0]; exact f1258, f1259, f1262, rg2_tr (rg2_rf 69 76 87 87 h) (rg2_w k1260 (by decide))⟩
          · have d76 := mt (j_le (a := k.toInt) (b := (80000)) (rfl) (rfl)).mpr c76
            refine aw_aload_n 1 dX8_withdraw_79 rfl rfl ?_
            refine aw_bipush (-6) dX8_withdraw_80 (by decide) ?_
            refine aw_eV [.int (-6)] [] lX8_70 vX8_refuse mX8_refuse dX8_withdraw_82 (bX8_refuse (jv := jv) (bv := bv) (rf := rf) (x := (-6)) (q := 6) h0 h87 (by decide) (by decide)) h0 rfl rfl rfl (Nat.le_of_ble_eq_true rfl) (by decide) (by decide) rfl (fun h1265 q1264 => ?_)
            obtain ⟨rf11263, f1266, k1267⟩ := q1264
            have f1268 := rng_at k1267 (by decide) h0
            have f1269 := rng_at k1267 (by decide) h69
            have f1270 := rng_at k1267 (by decide) h70
            have f1271 := rng_at k1267 (by decide) h71
            have f1272 := rng_at k1267 (by decide) h72
            have f1273 := rng_at k1267 (by decide) h73
            have f1274 := rng_at k1267 (by decide) h74
            have f1275 := rng_at k1267 (by decide) h75
            have f1276 := rng_at k1267 (by decide) h76
            subst hQF
            have eS : (spBack n kn go (nI q0) k) = (-6) := by unfold spBack; simp only [nn_q0]; (repeat' split) <;> first | (exfalso; omega) | rfl
            have ok9 : ¬ 0 ≤ (spBack n kn go (nI q0) k).toInt := by rw [eS]; decide
            exact aw_iret rfl dX8_withdraw_85 (by decide) (by decide) ⟨by rw [eS], _, _, f1269, f1270, f1271, f1272, f1273, f1274, by rw [spUn_n ok9]; exact f1275, f1276, f1266, rg2_tr (rg2_rf 69 76 87 87 h) (rg2_w k1267 (by decide))⟩
        · have d63 := mt (j_le (a := ((kn q0 : Nat) : Int)) (b := k.toInt) (i_toNat (rfl) (by omega)) (rfl)).mpr c63
          refine aw_aload_n 1 dX8_withdraw_66 rfl rfl ?_
          refine aw_bipush (-4) dX8_withdraw_67 (by decide) ?_
          refine aw_eV [.int (-4)] [] lX8_70 vX8_refuse mX8_refuse dX8_withdraw_69 (bX8_refuse (jv := jv) (bv := bv) (rf := rf) (x := (-4)) (q := 4) h0 h87 (by decide) (by decide)) h0 rfl rfl rfl (Nat.le_of_ble_eq_true rfl) (by decide) (by decide) rfl (fun h1279 q1278 => ?_)
          obtain ⟨rf11277, f1280, k1281⟩ := q1278
          have f1282 := rng_at k1281 (by decide) h0
          have f1283 := rng_at k1281 (by decide) h69
          have f1284 := rng_at k1281 (by decide) h70
          have f1285 := rng_at k1281 (by decide) h71
          have f1286 := rng_at k1281 (by decide) h72
          have f1287 := rng_at k1281 (by decide) h73
          have f1288 := rng_at k1281 (by decide) h74
          have f1289 := rng_at k1281 (by decide) h75
          have f1290 := rng_at k1281 (by decide) h76
          subst hQF
          have eS : (spBack n kn go (nI q0) k) = (-4) := by unfold spBack; simp only [nn_q0]; (repeat' split) <;> first | (exfalso; omega) | rfl
          have ok9 : ¬ 0 ≤ (spBack n kn go (nI q0) k).toInt := by rw [eS]; decide
          exact aw_iret rfl dX8_withdraw_72 (by decide) (by decide) ⟨by rw [eS], _, _, f1283, f1284, f1285, f1286, f1287, f1288, by rw [spUn_n ok9]; exact f1289, f1290, f1280, rg2_tr (rg2_rf 69 76 87 87 h) (rg2_w k1281 (by decide))⟩
      · have d45 := mt (nv_eq (a := go q0) (b := 80001) (rfl) (rfl) (by omega) (by omega)).mpr c45
        refine aw_aload_n 1 dX8_withdraw_48 rfl rfl ?_
        refine aw_bipush (-3) dX8_withdraw_49 (by decide) ?_
        refine aw_eV [.int (-3)] [] lX8_70 vX8_refuse mX8_refuse dX8_withdraw_51 (bX8_refuse (jv := jv) (bv := bv) (rf := rf) (x := (-3)) (q := 3) h0 h87 (by decide) (by decide)) h0 rfl rfl rfl (Nat.le_of_ble_eq_true rfl) (by decide) (by decide) rfl (fun h1293 q1292 => ?_)
        obtain ⟨rf11291, f1294, k1295⟩ := q1292
        have f1296 := rng_at k1295 (by decide) h0
        have f1297 := rng_at k1295 (by decide) h69
        have f1298 := rng_at k1295 (by decide) h70
        have f1299 := rng_at k1295 (by decide) h71
        have f1300 := rng_at k1295 (by decide) h72
        have f1301 := rng_at k1295 (by decide) h73
        have f1302 := rng_at k1295 (by decide) h74
        have f1303 := rng_at k1295 (by decide) h75
        have f1304 := rng_at k1295 (by decide) h76
        subst hQF
        have eS : (spBack n kn go (nI q0) k) = (-3) := by unfold spBack; simp only [nn_q0]; (repeat' split) <;> first | (exfalso; omega) | rfl
        have ok9 : ¬ 0 ≤ (spBack n kn go (nI q0) k).toInt := by rw [eS]; decide
        exact aw_iret rfl dX8_withdraw_54 (by decide) (by decide) ⟨by rw [eS], _, _, f1297, f1298, f1299, f1300, f1301, f1302, by rw [spUn_n ok9]; exact f1303, f1304, f1294, rg2_tr (rg2_rf 69 76 87 87 h) (rg2_w k1295 (by decide))⟩
    · have d27 := mt (j_lt (a := q.toInt) (b := ((n : Nat) : Int)) (rfl) (i_toNat (rfl) (by omega))).mpr c27
      refine aw_aload_n 1 dX8_withdraw_30 rfl rfl ?_
      refine aw_iconst (-1) dX8_withdraw_31 (by decide) ?_
      refine aw_eV [.int (-1)] [] lX8_70 vX8_refuse mX8_refuse dX8_withdraw_32 (bX8_refuse (jv := jv) (bv := bv) (rf := rf) (x := (-1)) (q := 1) h0 h87 (by decide) (by decide)) h0 rfl rfl rfl (Nat.le_of_ble_eq_true rfl) (by decide) (by decide) rfl (fun h1307 q1306 => ?_)
      obtain ⟨rf11305, f1308, k1309⟩ := q1306
      have f1310 := rng_at k1309 (by decide) h0
      have f1311 := rng_at k1309 (by decide) h69
      have f1312 := rng_at k1309 (by decide) h70
      have f1313 := rng_at k1309 (by decide) h71
      have f1314 := rng_at k1309 (by decide) h72
      have f1315 := rng_at k1309 (by decide) h73
      have f1316 := rng_at k1309 (by decide) h74
      have f1317 := rng_at k1309 (by decide) h75
      have f1318 := rng_at k1309 (by decide) h76
      subst hQF
      have eS : (spBack n kn go q k) = (-1) := by unfold spBack; (repeat' split) <;> first | (exfalso; omega) | rfl
      have ok9 : ¬ 0 ≤ (spBack n kn go q k).toInt := by rw [eS]; decide
      exact aw_iret rfl dX8_withdraw_35 (by decide) (by decide) ⟨by rw [eS], _, _, f1311, f1312, f1313, f1314, f1315, f1316, by rw [spUn_n ok9]; exact f1317, f1318, f1308, rg2_tr (rg2_rf 69 76 87 87 h) (rg2_w k1309 (by decide))⟩
