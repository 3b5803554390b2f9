set_option maxHeartbeats 4000000 in
theorem law_0 {l : Launch} {G : xG} {b L c : Nat} {xs : Nat → Int32} {m ye fi : Nat → Nat} {W Z Ro Co : Nat → Int32} {sp fa nb : Nat} {b1 b2 th1 ot1 dy1 so1 kn1 go1 : Nat → Nat} {n1 : Nat} {th2 ot2 dy2 so2 kn2 go2 : Nat → Nat} {n2 : Nat} {so3 xx3 yy3 tr3 : Nat → Nat} {n3 : Nat} {kd fo : Nat → Nat} {oJ oS : Option Nat} {h : List va_E} (hL : L ≤ 3072) (hi : 6 * c + 6 ≤ L) (Kn : LawK l G b L xs (c + 1)) (O : OKD m ye fi W Z Ro Co sp fa nb b1 b2 th1 ot1 dy1 so1 kn1 go1 n1 th2 ot2 dy2 so2 kn2 go2 n2 so3 xx3 yy3 tr3 n3 kd fo) (I : InvX G m ye fi W Z Ro Co sp fa nb b1 b2 th1 ot1 dy1 so1 kn1 go1 n1 th2 ot2 dy2 so2 kn2 go2 n2 so3 xx3 yy3 tr3 n3 kd fo c oJ oS h) (M : InvM G m ye fi W Z Ro Co sp fa nb b1 b2 th1 ot1 dy1 so1 kn1 go1 n1 th2 ot2 dy2 so2 kn2 go2 n2 so3 xx3 yy3 tr3 n3 kd fo h) : AW l G yL_law code 4 ret room_1 (xEl G b L xs) (fun below args s => lw_Z below args s) (125 + 6 * bO oJ + 10 * c) (28093 + 13430 * bO oJ + 2242 * c) 164 [(3, .int (nI (6 * c))), (2, .ref (G.1 + 88)), (1, .ref (G.1 + 0)), (0, .ref b)] [] h := by
  refine aw_aload_n 2 dL_law_164 rfl rfl ?_
  refine aw_aload_n 3 dL_law_165 rfl rfl ?_
  refine aw_iload_n 0 dL_law_166 rfl rfl ?_
  refine aw_iconst (1) dL_law_167 (by decide) ?_
  refine aw_iadd dL_law_168 ?_
  refine aw_sld (6 * c + 1) (nv_add (rfl) (rfl)) (by omega) (by omega) dL_law_169 ?_
  refine aw_aload_n 3 dL_law_170 rfl rfl ?_
  refine aw_iload_n 0 dL_law_171 rfl rfl ?_
  refine aw_iconst (2) dL_law_172 (by decide) ?_
  refine aw_iadd dL_law_173 ?_
  refine aw_sld (6 * c + 2) (nv_add (rfl) (rfl)) (by omega) (by omega) dL_law_174 ?_
  have bJ := bO1 (o := oJ)
  obtain ⟨dd, mc, ms, oJ1, oS1, hd, hmc, hms, hA⟩ := LX_means (l := l) (w := xs (6 * c + 1)) (o := xs (6 * c + 2)) O I (by omega)
  have bJ1 := bO1 (o := oJ1)
  refine aw_uV [.int (xs (6 * c + 1)), .int (xs (6 * c + 2))] [] lL_13 vX8_means mX8_means dL_law_175 hA (InvX_0 I) rfl rfl rfl (Nat.le_of_ble_eq_true rfl) (by show _ + 1 ≤ 10 ∧ 8 + (3 + 11) + 40 * _ ≤ 394; omega) (by show _ ≤ 221190 ∧ _ ≤ 8438680; omega) rfl (fun r1 h1 q1 => ?_)
  obtain ⟨I1, k1, e1⟩ := q1
  have M1 := InvM_k M k1
  obtain ⟨fs, hf⟩ := InvM_0 M1
  refine aw_pop dL_law_178 rfl ?_
  refine aw_aload_n 1 dL_law_179 rfl rfl ?_
  refine aw_aload_n 3 dL_law_180 rfl rfl ?_
  refine aw_iload_n 0 dL_law_181 rfl rfl ?_
  refine aw_iconst (1) dL_law_182 (by decide) ?_
  refine aw_iadd dL_law_183 ?_
  refine aw_sld (6 * c + 1) (nv_add (rfl) (rfl)) (by omega) (by omega) dL_law_184 ?_
  refine aw_aload_n 3 dL_law_185 rfl rfl ?_
  refine aw_iload_n 0 dL_law_186 rfl rfl ?_
  refine aw_iconst (2) dL_law_187 (by decide) ?_
  refine aw_iadd dL_law_188 ?_
  refine aw_sld (6 * c + 2) (nv_add (rfl) (rfl)) (by omega) (by omega) dL_law_189 ?_
  refine aw_uV [.int (xs (6 * c + 1)), .int (xs (6 * c + 2))] [] lL_17 vX9_means mX9_means dL_law_190 (LM_means (l := l) (w := xs (6 * c + 1)) (o := xs (6 * c + 2)) O M1) hf rfl rfl rfl (Nat.le_of_ble_eq_true rfl) (by show _ + 1 ≤ 10 ∧ 8 + (4 + 11) + 40 * _ ≤ 394; omega) (by show _ ≤ 221190 ∧ _ ≤ 8438680; omega) rfl (fun r2 h2 q2 => ?_)
  obtain ⟨M2, k2, e2⟩ := q2
  have I2 := InvX_k I1 k2
  refine aw_pop dL_law_193 rfl ?_
  refine aw_goto 1343 dL_law_194 (by decide) ?_
  exact law_next Kn (OK_means O) I2 M2 (by omega) (by omega)
set_option maxHeartbeats 4000000 in
theorem law_1 {l : Launch} {G : xG} {b L c : Nat} {xs : Nat → Int32} {m ye fi : Nat → Nat} {W Z Ro Co : Nat → Int32} {sp fa nb : Nat} {b1 b2 th1 ot1 dy1 so1 kn1 go1 : Nat → Nat} {n1 : Nat} {th2 ot2 dy2 so2 kn2 go2 : Nat → Nat} {n2 : Nat} {so3 xx3 yy3 tr3 : Nat → Nat} {n3 : Nat} {kd fo : Nat → Nat} {oJ oS : Option Nat} {h : List va_E} (hL : L ≤ 3072) (hi : 6 * c + 6 ≤ L) (Kn : LawK l G b L xs (c + 1)) (O : OKD m ye fi W Z Ro Co sp fa nb b1 b2 th1 ot1 dy1 so1 kn1 go1 n1 th2 ot2 dy2 so2 kn2 go2 n2 so3 xx3 yy3 tr3 n3 kd fo) (I : InvX G m ye fi W Z Ro Co sp fa nb b1 b2 th1 ot1 dy1 so1 kn1 go1 n1 th2 ot2 dy2 so2 kn2 go2 n2 so3 xx3 yy3 tr3 n3 kd fo c oJ oS h) (M : InvM G m ye fi W Z Ro Co sp fa nb b1 b2 th1 ot1 dy1 so1 kn1 go1 n1 th2 ot2 dy2 so2 kn2 go2 n2 so3 xx3 yy3 tr3 n3 kd fo h) : AW l G yL_law code 4 ret room_1 (xEl G b L xs) (fun below args s => lw_Z below args s) (125 + 6 * bO oJ + 10 * c) (28093 + 13430 * bO oJ + 2242 * c) 197 [(3, .int (nI (6 * c))), (2, .ref (G.1 + 88)), (1, .ref (G.1 + 0)), (0, .ref b)] [] h := by
  refine aw_aload_n 2 dL_law_197 rfl rfl ?_
  refine aw_aload_n 3 dL_law_198 rfl rfl ?_
  refine aw_iload_n 0 dL_law_199 rfl rfl ?_
  refine aw_iconst (1) dL_law_200 (by decide) ?_
  refine aw_iadd dL_law_201 ?_
  refine aw_sld (6 * c + 1) (nv_add (rfl) (rfl)) (by omega) (by omega) dL_law_202 ?_
  have bJ := bO1 (o := oJ)
  obtain ⟨dd, mc, ms, oJ1, oS1, hd, hmc, hms, hA⟩ := LX_sense (l := l) (w := xs (6 * c + 1)) O I (by omega)
  have bJ1 := bO1 (o := oJ1)
  refine aw_uV [.int (xs (6 * c + 1))] [] lL_18 vX8_sense mX8_sense dL_law_203 hA (InvX_0 I) rfl rfl rfl (Nat.le_of_ble_eq_true rfl) (by show _ + 1 ≤ 10 ∧ 8 + (2 + 11) + 40 * _ ≤ 394; omega) (by show _ ≤ 221190 ∧ _ ≤ 8438680; omega) rfl (fun r1 h1 q1 => ?_)
  obtain ⟨I1, k1, e1⟩ := q1
  have M1 := InvM_k M k1
  obtain ⟨fs, hf⟩ := InvM_0 M1
  refine aw_pop dL_law_206 rfl ?_
  refine aw_aload_n 1 dL_law_207 rfl rfl ?_
  refine aw_aload_n 3 dL_law_208 rfl rfl ?_
  refine aw_iload_n 0 dL_law_209 rfl rfl ?_
  refine aw_iconst (1) dL_law_210 (by decide) ?_
  refine aw_iadd dL_law_211 ?_
  refine aw_sld (6 * c + 1) (nv_add (rfl) (rfl)) (by omega) (by omega) dL_law_212 ?_
  refine aw_uV [.int (xs (6 * c + 1))] [] lL_22 vX9_sense mX9_sense dL_law_213 (LM_sense (l := l) (w := xs (6 * c + 1)) O M1) hf rfl rfl rfl (Nat.le_of_ble_eq_true rfl) (by show _ + 1 ≤ 10 ∧ 8 + (2 + 11) + 40 * _ ≤ 394; omega) (by show _ ≤ 221190 ∧ _ ≤ 8438680; omega) rfl (fun r2 h2 q2 => ?_)
  obtain ⟨M2, k2, e2⟩ := q2
  have I2 := InvX_k I1 k2
  refine aw_pop dL_law_216 rfl ?_
  refine aw_goto 1343 dL_law_217 (by decide) ?_
  exact law_next Kn O I2 M2 (by omega) (by omega)
set_option maxHeartbeats 4000000 in
theorem law_2 {l : Launch} {G : xG} {b L c : Nat} {xs : Nat → Int32} {m ye fi : Nat → Nat} {W Z Ro Co : Nat → Int32} {sp fa nb : Nat} {b1 b2 th1 ot1 dy1 so1 kn1 go1 : Nat → Nat} {n1 : Nat} {th2 ot2 dy2 so2 kn2 go2 : Nat → Nat} {n2 : Nat} {so3 xx3 yy3 tr3 : Nat → Nat} {n3 : Nat} {kd fo : Nat → Nat} {oJ oS : Option Nat} {h : List va_E} (hL : L ≤ 3072) (hi : 6 * c + 6 ≤ L) (Kn : LawK l G b L xs (c + 1)) (O : OKD m ye fi W Z Ro Co sp fa nb b1 b2 th1 ot1 dy1 so1 kn1 go1 n1 th2 ot2 dy2 so2 kn2 go2 n2 so3 xx3 yy3 tr3 n3 kd fo) (I : InvX G m ye fi W Z Ro Co sp fa nb b1 b2 th1 ot1 dy1 so1 kn1 go1 n1 th2 ot2 dy2 so2 kn2 go2 n2 so3 xx3 yy3 tr3 n3 kd fo c oJ oS h) (M : InvM G m ye fi W Z Ro Co sp fa nb b1 b2 th1 ot1 dy1 so1 kn1 go1 n1 th2 ot2 dy2 so2 kn2 go2 n2 so3 xx3 yy3 tr3 n3 kd fo h) : AW l G yL_law code 4 ret room_1 (xEl G b L xs) (fun below args s => lw_Z below args s) (125 + 6 * bO oJ + 10 * c) (28093 + 13430 * bO oJ + 2242 * c) 220 [(3, .int (nI (6 * c))), (2, .ref (G.1 + 88)), (1, .ref (G.1 + 0)), (0, .ref b)] [] h := by
  refine aw_aload_n 2 dL_law_220 rfl rfl ?_
  refine aw_aload_n 3 dL_law_221 rfl rfl ?_
  refine aw_iload_n 0 dL_law_222 rfl rfl ?_
  refine aw_iconst (1) dL_law_223 (by decide) ?_
  refine aw_iadd dL_law_224 ?_
  refine aw_sld (6 * c + 1) (nv_add (rfl) (rfl)) (by omega) (by omega) dL_law_225 ?_
  refine aw_aload_n 3 dL_law_226 rfl rfl ?_
  refine aw_iload_n 0 dL_law_227 rfl rfl ?_
  refine aw_iconst (2) dL_law_228 (by decide) ?_
  refine aw_iadd dL_law_229 ?_
  refine aw_sld (6 * c + 2) (nv_add (rfl) (rfl)) (by omega) (by omega) dL_law_230 ?_
  have bJ := bO1 (o := oJ)
  obtain ⟨dd, mc, ms, oJ1, oS1, hd, hmc, hms, hA⟩ := LX_year (l := l) (c := xs (6 * c + 1)) (y := xs (6 * c + 2)) O I (by omega)
  have bJ1 := bO1 (o := oJ1)
  refine aw_uV [.int (xs (6 * c + 1)), .int (xs (6 * c + 2))] [] lL_23 vX8_year mX8_year dL_law_231 hA (InvX_0 I) rfl rfl rfl (Nat.le_of_ble_eq_true rfl) (by show _ + 1 ≤ 10 ∧ 8 + (3 + 11) + 40 * _ ≤ 394; omega) (by show _ ≤ 221190 ∧ _ ≤ 8438680; omega) rfl (fun r1 h1 q1 => ?_)
  obtain ⟨I1, k1, e1⟩ := q1
  have M1 := InvM_k M k1
  obtain ⟨fs, hf⟩ := InvM_0 M1
  refine aw_pop dL_law_234 rfl ?_
  refine aw_aload_n 1 dL_law_235 rfl rfl ?_
  refine aw_aload_n 3 dL_law_236 rfl rfl ?_
  refine aw_iload_n 0 dL_law_237 rfl rfl ?_
  refine aw_iconst (1) dL_law_238 (by decide) ?_
  refine aw_iadd dL_law_239 ?_
  refine aw_sld (6 * c + 1) (nv_add (rfl) (rfl)) (by omega) (by omega) dL_law_240 ?_
  refine aw_aload_n 3 dL_law_241 rfl rfl ?_
  refine aw_iload_n 0 dL_law_242 rfl rfl ?_
  refine aw_iconst (2) dL_law_243 (by decide) ?_
  refine aw_iadd dL_law_244 ?_
  refine aw_sld (6 * c + 2) (nv_add (rfl) (rfl)) (by omega) (by omega) dL_law_245 ?_
  refine aw_uV [.int (xs (6 * c + 1)), .int (xs (6 * c + 2))] [] lL_26 vX9_year mX9_year dL_law_246 (LM_year (l := l) (c := xs (6 * c + 1)) (y := xs (6 * c + 2)) O M1) hf rfl rfl rfl (Nat.le_of_ble_eq_true rfl) (by show _ + 1 ≤ 10 ∧ 8 + (5 + 11) + 40 * _ ≤ 394; omega) (by show _ ≤ 221190 ∧ _ ≤ 8438680; omega) rfl (fun r2 h2 q2 => ?_)
  obtain ⟨M2, k2, e2⟩ := q2
  have I2 := InvX_k I1 k2
  refine aw_pop dL_law_249 rfl ?_
  refine aw_goto 1343 dL_law_250 (by decide) ?_
  exact law_next Kn (OK_year O) I2 M2 (by omega) (by omega)
set_option maxHeartbeats 4000000 in
theorem law_3 {l : Launch} {G : xG} {b L c : Nat} {xs : Nat → Int32} {m ye fi : Nat → Nat} {W Z Ro Co : Nat → Int32} {sp fa nb : Nat} {b1 b2 th1 ot1 dy1 so1 kn1 go1 : Nat → Nat} {n1 : Nat} {th2 ot2 dy2 so2 kn2 go2 : Nat → Nat} {n2 : Nat} {so3 xx3 yy3 tr3 : Nat → Nat} {n3 : Nat} {kd fo : Nat → Nat} {oJ oS : Option Nat} {h : List va_E} (hL : L ≤ 3072) (hi : 6 * c + 6 ≤ L) (Kn : LawK l G b L xs (c + 1)) (O : OKD m ye fi W Z Ro Co sp fa nb b1 b2 th1 ot1 dy1 so1 kn1 go1 n1 th2 ot2 dy2 so2 kn2 go2 n2 so3 xx3 yy3 tr3 n3 kd fo) (I : InvX G m ye fi W Z Ro Co sp fa nb b1 b2 th1 ot1 dy1 so1 kn1 go1 n1 th2 ot2 dy2 so2 kn2 go2 n2 so3 xx3 yy3 tr3 n3 kd fo c oJ oS h) (M : InvM G m ye fi W Z Ro Co sp fa nb b1 b2 th1 ot1 dy1 so1 kn1 go1 n1 th2 ot2 dy2 so2 kn2 go2 n2 so3 xx3 yy3 tr3 n3 kd fo h) : AW l G yL_law code 4 ret room_1 (xEl G b L xs) (fun below args s => lw_Z below args s) (125 + 6 * bO oJ + 10 * c) (28093 + 13430 * bO oJ + 2242 * c) 253 [(3, .int (nI (6 * c))), (2, .ref (G.1 + 88)), (1, .ref (G.1 + 0)), (0, .ref b)] [] h := by
  refine aw_aload_n 2 dL_law_253 rfl rfl ?_
  refine aw_aload_n 3 dL_law_254 rfl rfl ?_
  refine aw_iload_n 0 dL_law_255 rfl rfl ?_
  refine aw_iconst (1) dL_law_256 (by decide) ?_
  refine aw_iadd dL_law_257 ?_
  refine aw_sld (6 * c + 1) (nv_add (rfl) (rfl)) (by omega) (by omega) dL_law_258 ?_
  refine aw_aload_n 3 dL_law_259 rfl rfl ?_
  refine aw_iload_n 0 dL_law_260 rfl rfl ?_
  refine aw_iconst (2) dL_law_261 (by decide) ?_
  refine aw_iadd dL_law_262 ?_
  refine aw_sld (6 * c + 2) (nv_add (rfl) (rfl)) (by omega) (by omega) dL_law_263 ?_
  refine aw_aload_n 3 dL_law_264 rfl rfl ?_
  refine aw_iload_n 0 dL_law_265 rfl rfl ?_
  refine aw_iconst (3) dL_law_266 (by decide) ?_
  refine aw_iadd dL_law_267 ?_
  refine aw_sld (6 * c + 3) (nv_add (rfl) (rfl)) (by omega) (by omega) dL_law_268 ?_
  refine aw_aload_n 3 dL_law_269 rfl rfl ?_
  refine aw_iload_n 0 dL_law_270 rfl rfl ?_
  refine aw_iconst (4) dL_law_271 (by decide) ?_
  refine aw_iadd dL_law_272 ?_
  refine aw_sld (6 * c + 4) (nv_add (rfl) (rfl)) (by omega) (by omega) dL_law_273 ?_
  refine aw_aload_n 3 dL_law_274 rfl rfl ?_
  refine aw_iload_n 0 dL_law_275 rfl rfl ?_
  refine aw_iconst (5) dL_law_276 (by decide) ?_
  refine aw_iadd dL_law_277 ?_
  refine aw_sld (6 * c + 5) (nv_add (rfl) (rfl)) (by omega) (by omega) dL_law_278 ?_
  have bJ := bO1 (o := oJ)
  obtain ⟨dd, mc, ms, oJ1, oS1, hd, hmc, hms, hA⟩ := LX_entry (l := l) (c := xs (6 * c + 1)) (w := xs (6 * c + 2)) (s := xs (6 * c + 3)) (r0 := xs (6 * c + 4)) (u := xs (6 * c + 5)) O I (by omega)
  have bJ1 := bO1 (o := oJ1)
  refine aw_uV [.int (xs (6 * c + 1)), .int (xs (6 * c + 2)), .int (xs (6 * c + 3)), .int (xs (6 * c + 4)), .int (xs (6 * c + 5))] [] lL_27 vX8_entry mX8_entry dL_law_279 hA (InvX_0 I) rfl rfl rfl (Nat.le_of_ble_eq_true rfl) (by show _ + 1 ≤ 10 ∧ 8 + (6 + 11) + 40 * _ ≤ 394; omega) (by show _ ≤ 221190 ∧ _ ≤ 8438680; omega) rfl (fun r1 h1 q1 => ?_)
  obtain ⟨I1, k1, e1⟩ := q1
  have M1 := InvM_k M k1
  obtain ⟨fs, hf⟩ := InvM_0 M1
  refine aw_pop dL_law_282 rfl ?_
  refine aw_aload_n 1 dL_law_283 rfl rfl ?_
  refine aw_aload_n 3 dL_law_284 rfl rfl ?_
  refine aw_iload_n 0 dL_law_285 rfl rfl ?_
  refine aw_iconst (1) dL_law_286 (by decide) ?_
  refine aw_iadd dL_law_287 ?_
  refine aw_sld (6 * c + 1) (nv_add (rfl) (rfl)) (by omega) (by omega) dL_law_288 ?_
  refine aw_aload_n 3 dL_law_289 rfl rfl ?_
  refine aw_iload_n 0 dL_law_290 rfl rfl ?_
  refine aw_iconst (2) dL_law_291 (by decide) ?_
  refine aw_iadd dL_law_292 ?_
  refine aw_sld (6 * c + 2) (nv_add (rfl) (rfl)) (by omega) (by omega) dL_law_293 ?_
  refine aw_aload_n 3 dL_law_294 rfl rfl ?_
  refine aw_iload_n 0 dL_law_295 rfl rfl ?_
  refine aw_iconst (3) dL_law_296 (by decide) ?_
  refine aw_iadd dL_law_297 ?_
  refine aw_sld (6 * c + 3) (nv_add (rfl) (rfl)) (by omega) (by omega) dL_law_298 ?_
  refine aw_aload_n 3 dL_law_299 rfl rfl ?_
  refine aw_iload_n 0 dL_law_300 rfl rfl ?_
  refine aw_iconst (4) dL_law_301 (by decide) ?_
  refine aw_iadd dL_law_302 ?_
  refine aw_sld (6 * c + 4) (nv_add (rfl) (rfl)) (by omega) (by omega) dL_law_303 ?_
  refine aw_aload_n 3 dL_law_304 rfl rfl ?_
  refine aw_iload_n 0 dL_law_305 rfl rfl ?_
  refine aw_iconst (5) dL_law_306 (by decide) ?_
  refine aw_iadd dL_law_307 ?_
  refine aw_sld (6 * c + 5) (nv_add (rfl) (rfl)) (by omega) (by omega) dL_law_308 ?_
  refine aw_uV [.int (xs (6 * c + 1)), .int (xs (6 * c + 2)), .int (xs (6 * c + 3)), .int (xs (6 * c + 4)), .int (xs (6 * c + 5))] [] lL_31 vX9_entry mX9_entry dL_law_309 (LM_entry (l := l) (c := xs (6 * c + 1)) (w := xs (6 * c + 2)) (s := xs (6 * c + 3)) (r0 := xs (6 * c + 4)) (u := xs (6 * c + 5)) O M1) hf rfl rfl rfl (Nat.le_of_ble_eq_true rfl) (by show _ + 1 ≤ 10 ∧ 8 + (7 + 11) + 40 * _ ≤ 394; omega) (by show _ ≤ 221190 ∧ _ ≤ 8438680; omega) rfl (fun r2 h2 q2 => ?_)
  obtain ⟨M2, k2, e2⟩ := q2
  have I2 := InvX_k I1 k2
  refine aw_pop dL_law_312 rfl ?_
  refine aw_goto 1343 dL_law_313 (by decide) ?_
  exact law_next Kn (OK_entry O) I2 M2 (by omega) (by omega)
set_option maxHeartbeats 4000000 in
theorem law_4 {l : Launch} {G : xG} {b L c : Nat} {xs : Nat → Int32} {m ye fi : Nat → Nat} {W Z Ro Co : Nat → Int32} {sp fa nb : Nat} {b1 b2 th1 ot1 dy1 so1 kn1 go1 : Nat → Nat} {n1 : Nat} {th2 ot2 dy2 so2 kn2 go2 : Nat → Nat} {n2 : Nat} {so3 xx3 yy3 tr3 : Nat → Nat} {n3 : Nat} {kd fo : Nat → Nat} {oJ oS : Option Nat} {h : List va_E} (hL : L ≤ 3072) (hi : 6 * c + 6 ≤ L) (Kn : LawK l G b L xs (c + 1)) (O : OKD m ye fi W Z Ro Co sp fa nb b1 b2 th1 ot1 dy1 so1 kn1 go1 n1 th2 ot2 dy2 so2 kn2 go2 n2 so3 xx3 yy3 tr3 n3 kd fo) (I : InvX G m ye fi W Z Ro Co sp fa nb b1 b2 th1 ot1 dy1 so1 kn1 go1 n1 th2 ot2 dy2 so2 kn2 go2 n2 so3 xx3 yy3 tr3 n3 kd fo c oJ oS h) (M : InvM G m ye fi W Z Ro Co sp fa nb b1 b2 th1 ot1 dy1 so1 kn1 go1 n1 th2 ot2 dy2 so2 kn2 go2 n2 so3 xx3 yy3 tr3 n3 kd fo h) : AW l G yL_law code 4 ret room_1 (xEl G b L xs) (fun below args s => lw_Z below args s) (125 + 6 * bO oJ + 10 * c) (28093 + 13430 * bO oJ + 2242 * c) 316 [(3, .int (nI (6 * c))), (2, .ref (G.1 + 88)), (1, .ref (G.1 + 0)), (0, .ref b)] [] h := by
  refine aw_aload_n 2 dL_law_316 rfl rfl ?_
  refine aw_aload_n 3 dL_law_317 rfl rfl ?_
  refine aw_iload_n 0 dL_law_318 rfl rfl ?_
  refine aw_iconst (1) dL_law_319 (by decide) ?_
  refine aw_iadd dL_law_320 ?_
  refine aw_sld (6 * c + 1) (nv_add (rfl) (rfl)) (by omega) (by omega) dL_law_321 ?_
  refine aw_aload_n 3 dL_law_322 rfl rfl ?_
  refine aw_iload_n 0 dL_law_323 rfl rfl ?_
  refine aw_iconst (2) dL_law_324 (by decide) ?_
  refine aw_iadd dL_law_325 ?_
  refine aw_sld (6 * c + 2) (nv_add (rfl) (rfl)) (by omega) (by omega) dL_law_326 ?_
  have bJ := bO1 (o := oJ)
  obtain ⟨dd, mc, ms, oJ1, oS1, hd, hmc, hms, hA⟩ := LX_set (l := l) (q0 := xs (6 * c + 1)) (v := xs (6 * c + 2)) O I (by omega)
  have bJ1 := bO1 (o := oJ1)
  refine aw_uV [.int (xs (6 * c + 1)), .int (xs (6 * c + 2))] [] lL_32 vX8_set mX8_set dL_law_327 hA (InvX_0 I) rfl rfl rfl (Nat.le_of_ble_eq_true rfl) (by show _ + 1 ≤ 10 ∧ 8 + (3 + 11) + 40 * _ ≤ 394; omega) (by show _ ≤ 221190 ∧ _ ≤ 8438680; omega) rfl (fun r1 h1 q1 => ?_)
  obtain ⟨I1, k1, e1⟩ := q1
  have M1 := InvM_k M k1
  obtain ⟨fs, hf⟩ := InvM_0 M1
  refine aw_pop dL_law_330 rfl ?_
  refine aw_aload_n 1 dL_law_331 rfl rfl ?_
  refine aw_aload_n 3 dL_law_332 rfl rfl ?_
  refine aw_iload_n 0 dL_law_333 rfl rfl ?_
  refine aw_iconst (1) dL_law_334 (by decide) ?_
  refine aw_iadd dL_law_335 ?_
  refine aw_sld (6 * c + 1) (nv_add (rfl) (rfl)) (by omega) (by omega) dL_law_336 ?_
  refine aw_aload_n 3 dL_law_337 rfl rfl ?_
  refine aw_iload_n 0 dL_law_338 rfl rfl ?_
  refine aw_iconst (2) dL_law_339 (by decide) ?_
  refine aw_iadd dL_law_340 ?_
  refine aw_sld (6 * c + 2) (nv_add (rfl) (rfl)) (by omega) (by omega) dL_law_341 ?_
  refine aw_uV [.int (xs (6 * c + 1)), .int (xs (6 * c + 2))] [] lL_35 vX9_set mX9_set dL_law_342 (LM_set (l := l) (q0 := xs (6 * c + 1)) (v := xs (6 * c + 2)) O M1) hf rfl rfl rfl (Nat.le_of_ble_eq_true rfl) (by show _ + 1 ≤ 10 ∧ 8 + (5 + 11) + 40 * _ ≤ 394; omega) (by show _ ≤ 221190 ∧ _ ≤ 8438680; omega) rfl (fun r2 h2 q2 => ?_)
  obtain ⟨M2, k2, e2⟩ := q2
  have I2 := InvX_k I1 k2
  refine aw_pop dL_law_345 rfl ?_
  refine aw_goto 1343 dL_law_346 (by decide) ?_
  exact law_next Kn (OK_set O) I2 M2 (by omega) (by omega)
set_option maxHeartbeats 4000000 in
theorem law_5 {l : Launch} {G : xG} {b L c : Nat} {xs : Nat → Int32} {m ye fi : Nat → Nat} {W Z Ro Co : Nat → Int32} {sp fa nb : Nat} {b1 b2 th1 ot1 dy1 so1 kn1 go1 : Nat → Nat} {n1 : Nat} {th2 ot2 dy2 so2 kn2 go2 : Nat → Nat} {n2 : Nat} {so3 xx3 yy3 tr3 : Nat → Nat} {n3 : Nat} {kd fo : Nat → Nat} {oJ oS : Option Nat} {h : List va_E} (hL : L ≤ 3072) (hi : 6 * c + 6 ≤ L) (Kn : LawK l G b L xs (c + 1)) (O : OKD m ye fi W Z Ro Co sp fa nb b1 b2 th1 ot1 dy1 so1 kn1 go1 n1 th2 ot2 dy2 so2 kn2 go2 n2 so3 xx3 yy3 tr3 n3 kd fo) (I : InvX G m ye fi W Z Ro Co sp fa nb b1 b2 th1 ot1 dy1 so1 kn1 go1 n1 th2 ot2 dy2 so2 kn2 go2 n2 so3 xx3 yy3 tr3 n3 kd fo c oJ oS h) (M : InvM G m ye fi W Z Ro Co sp fa nb b1 b2 th1 ot1 dy1 so1 kn1 go1 n1 th2 ot2 dy2 so2 kn2 go2 n2 so3 xx3 yy3 tr3 n3 kd fo h) : AW l G yL_law code 4 ret room_1 (xEl G b L xs) (fun below args s => lw_Z below args s) (125 + 6 * bO oJ + 10 * c) (28093 + 13430 * bO oJ + 2242 * c) 349 [(3, .int (nI (6 * c))), (2, .ref (G.1 + 88)), (1, .ref (G.1 + 0)), (0, .ref b)] [] h := by
  refine aw_aload_n 2 dL_law_349 rfl rfl ?_
  refine aw_aload_n 3 dL_law_350 rfl rfl ?_
  refine aw_iload_n 0 dL_law_351 rfl rfl ?_
  refine aw_iconst (1) dL_law_352 (by decide) ?_
  refine aw_iadd dL_law_353 ?_
  refine aw_sld (6 * c + 1) (nv_add (rfl) (rfl)) (by omega) (by omega) dL_law_354 ?_
  refine aw_aload_n 3 dL_law_355 rfl rfl ?_
  refine aw_iload_n 0 dL_law_356 rfl rfl ?_
  refine aw_iconst (2) dL_law_357 (by decide) ?_
  refine aw_iadd dL_law_358 ?_
  refine aw_sld (6 * c + 2) (nv_add (rfl) (rfl)) (by omega) (by omega) dL_law_359 ?_
  refine aw_aload_n 3 dL_law_360 rfl rfl ?_
  refine aw_iload_n 0 dL_law_361 rfl rfl ?_
  refine aw_iconst (3) dL_law_362 (by decide) ?_
  refine aw_iadd dL_law_363 ?_
  refine aw_sld (6 * c + 3) (nv_add (rfl) (rfl)) (by omega) (by omega) dL_law_364 ?_
  refine aw_aload_n 3 dL_law_365 rfl rfl ?_
  refine aw_iload_n 0 dL_law_366 rfl rfl ?_
  refine aw_iconst (4) dL_law_367 (by decide) ?_
  refine aw_iadd dL_law_368 ?_
  refine aw_sld (6 * c + 4) (nv_add (rfl) (rfl)) (by omega) (by omega) dL_law_369 ?_
  have bJ := bO1 (o := oJ)
  obtain ⟨dd, mc, ms, oJ1, oS1, hd, hmc, hms, hA⟩ := LX_bar (l := l) (a := xs (6 * c + 1)) (i := xs (6 * c + 2)) (b := xs (6 * c + 3)) (k := xs (6 * c + 4)) O I (by omega)
  have bJ1 := bO1 (o := oJ1)
  refine aw_uV [.int (xs (6 * c + 1)), .int (xs (6 * c + 2)), .int (xs (6 * c + 3)), .int (xs (6 * c + 4))] [] lL_36 vX8_bar mX8_bar dL_law_370 hA (InvX_0 I) rfl rfl rfl (Nat.le_of_ble_eq_true rfl) (by show _ + 1 ≤ 10 ∧ 8 + (7 + 11) + 40 * _ ≤ 394; omega) (by show _ ≤ 221190 ∧ _ ≤ 8438680; omega) rfl (fun r1 h1 q1 => ?_)
  obtain ⟨I1, k1, e1⟩ := q1
  have M1 := InvM_k M k1
  obtain ⟨fs, hf⟩ := InvM_0 M1
  refine aw_pop dL_law_373 rfl ?_
  refine aw_aload_n 1 dL_law_374 rfl rfl ?_
  refine aw_aload_n 3 dL_law_375 rfl rfl ?_
  refine aw_iload_n 0 dL_law_376 rfl rfl ?_
  refine aw_iconst (1) dL_law_377 (by decide) ?_
  refine aw_iadd dL_law_378 ?_
  refine aw_sld (6 * c + 1) (nv_add (rfl) (rfl)) (by omega) (by omega) dL_law_379 ?_
  refine aw_aload_n 3 dL_law_380 rfl rfl ?_
  refine aw_iload_n 0 dL_law_381 rfl rfl ?_
  refine aw_iconst (2) dL_law_382 (by decide) ?_
  refine aw_iadd dL_law_383 ?_
  refine aw_sld (6 * c + 2) (nv_add (rfl) (rfl)) (by omega) (by omega) dL_law_384 ?_
  refine aw_aload_n 3 dL_law_385 rfl rfl ?_
  refine aw_iload_n 0 dL_law_386 rfl rfl ?_
  refine aw_iconst (3) dL_law_387 (by decide) ?_
  refine aw_iadd dL_law_388 ?_
  refine aw_sld (6 * c + 3) (nv_add (rfl) (rfl)) (by omega) (by omega) dL_law_389 ?_
  refine aw_aload_n 3 dL_law_390 rfl rfl ?_
  refine aw_iload_n 0 dL_law_391 rfl rfl ?_
  refine aw_iconst (4) dL_law_392 (by decide) ?_
  refine aw_iadd dL_law_393 ?_
  refine aw_sld (6 * c + 4) (nv_add (rfl) (rfl)) (by omega) (by omega) dL_law_394 ?_
  refine aw_uV [.int (xs (6 * c + 1)), .int (xs (6 * c + 2)), .int (xs (6 * c + 3)), .int (xs (6 * c + 4))] [] lL_40 vX9_bar mX9_bar dL_law_395 (LM_bar (l := l) (a := xs (6 * c + 1)) (i := xs (6 * c + 2)) (b := xs (6 * c + 3)) (k := xs (6 * c + 4)) O M1) hf rfl rfl rfl (Nat.le_of_ble_eq_true rfl) (by show _ + 1 ≤ 10 ∧ 8 + (5 + 11) + 40 * _ ≤ 394; omega) (by show _ ≤ 221190 ∧ _ ≤ 8438680; omega) rfl (fun r2 h2 q2 => ?_)
  obtain ⟨M2, k2, e2⟩ := q2
  have I2 := InvX_k I1 k2
  refine aw_pop dL_law_398 rfl ?_
  refine aw_goto 1343 dL_law_399 (by decide) ?_
  exact law_next Kn (OK_bar O) I2 M2 (by omega) (by omega)
set_option maxHeartbeats 4000000 in
theorem law_6 {l : Launch} {G : xG} {b L c : Nat} {xs : Nat → Int32} {m ye fi : Nat → Nat} {W Z Ro Co : Nat → Int32} {sp fa nb : Nat} {b1 b2 th1 ot1 dy1 so1 kn1 go1 : Nat → Nat} {n1 : Nat} {th2 ot2 dy2 so2 kn2 go2 : Nat → Nat} {n2 : Nat} {so3 xx3 yy3 tr3 : Nat → Nat} {n3 : Nat} {kd fo : Nat → Nat} {oJ oS : Option Nat} {h : List va_E} (hL : L ≤ 3072) (hi : 6 * c + 6 ≤ L) (Kn : LawK l G b L xs (c + 1)) (O : OKD m ye fi W Z Ro Co sp fa nb b1 b2 th1 ot1 dy1 so1 kn1 go1 n1 th2 ot2 dy2 so2 kn2 go2 n2 so3 xx3 yy3 tr3 n3 kd fo) (I : InvX G m ye fi W Z Ro Co sp fa nb b1 b2 th1 ot1 dy1 so1 kn1 go1 n1 th2 ot2 dy2 so2 kn2 go2 n2 so3 xx3 yy3 tr3 n3 kd fo c oJ oS h) (M : InvM G m ye fi W Z Ro Co sp fa nb b1 b2 th1 ot1 dy1 so1 kn1 go1 n1 th2 ot2 dy2 so2 kn2 go2 n2 so3 xx3 yy3 tr3 n3 kd fo h) : AW l G yL_law code 4 ret room_1 (xEl G b L xs) (fun below args s => lw_Z below args s) (125 + 6 * bO oJ + 10 * c) (28093 + 13430 * bO oJ + 2242 * c) 402 [(3, .int (nI (6 * c))), (2, .ref (G.1 + 88)), (1, .ref (G.1 + 0)), (0, .ref b)] [] h := by
  refine aw_aload_n 2 dL_law_402 rfl rfl ?_
  refine aw_aload_n 3 dL_law_403 rfl rfl ?_
  refine aw_iload_n 0 dL_law_404 rfl rfl ?_
  refine aw_iconst (1) dL_law_405 (by decide) ?_
  refine aw_iadd dL_law_406 ?_
  refine aw_sld (6 * c + 1) (nv_add (rfl) (rfl)) (by omega) (by omega) dL_law_407 ?_
  refine aw_aload_n 3 dL_law_408 rfl rfl ?_
  refine aw_iload_n 0 dL_law_409 rfl rfl ?_
  refine aw_iconst (2) dL_law_410 (by decide) ?_
  refine aw_iadd dL_law_411 ?_
  refine aw_sld (6 * c + 2) (nv_add (rfl) (rfl)) (by omega) (by omega) dL_law_412 ?_
  refine aw_aload_n 3 dL_law_413 rfl rfl ?_
  refine aw_iload_n 0 dL_law_414 rfl rfl ?_
  refine aw_iconst (3) dL_law_415 (by decide) ?_
  refine aw_iadd dL_law_416 ?_
  refine aw_sld (6 * c + 3) (nv_add (rfl) (rfl)) (by omega) (by omega) dL_law_417 ?_
  refine aw_aload_n 3 dL_law_418 rfl rfl ?_
  refine aw_iload_n 0 dL_law_419 rfl rfl ?_
  refine aw_iconst (4) dL_law_420 (by decide) ?_
  refine aw_iadd dL_law_421 ?_
  refine aw_sld (6 * c + 4) (nv_add (rfl) (rfl)) (by omega) (by omega) dL_law_422 ?_
  have bJ := bO1 (o := oJ)
  obtain ⟨dd, mc, ms, oJ1, oS1, hd, hmc, hms, hA⟩ := LX_like (l := l) (a := xs (6 * c + 1)) (i := xs (6 * c + 2)) (b := xs (6 * c + 3)) (k := xs (6 * c + 4)) O I (by omega)
  have bJ1 := bO1 (o := oJ1)
  refine aw_uV [.int (xs (6 * c + 1)), .int (xs (6 * c + 2)), .int (xs (6 * c + 3)), .int (xs (6 * c + 4))] [] lL_41 vX8_like mX8_like dL_law_423 hA (InvX_0 I) rfl rfl rfl (Nat.le_of_ble_eq_true rfl) (by show _ + 1 ≤ 10 ∧ 8 + (5 + 11) + 40 * _ ≤ 394; omega) (by show _ ≤ 221190 ∧ _ ≤ 8438680; omega) rfl (fun r1 h1 q1 => ?_)
  obtain ⟨I1, k1, e1⟩ := q1
  have M1 := InvM_k M k1
  obtain ⟨fs, hf⟩ := InvM_0 M1
  refine aw_pop dL_law_426 rfl ?_
  refine aw_aload_n 1 dL_law_427 rfl rfl ?_
  refine aw_aload_n 3 dL_law_428 rfl rfl ?_
  refine aw_iload_n 0 dL_law_429 rfl rfl ?_
  refine aw_iconst (1) dL_law_430 (by decide) ?_
  refine aw_iadd dL_law_431 ?_
  refine aw_sld (6 * c + 1) (nv_add (rfl) (rfl)) (by omega) (by omega) dL_law_432 ?_
  refine aw_aload_n 3 dL_law_433 rfl rfl ?_
  refine aw_iload_n 0 dL_law_434 rfl rfl ?_
  refine aw_iconst (2) dL_law_435 (by decide) ?_
  refine aw_iadd dL_law_436 ?_
  refine aw_sld (6 * c + 2) (nv_add (rfl) (rfl)) (by omega) (by omega) dL_law_437 ?_
  refine aw_aload_n 3 dL_law_438 rfl rfl ?_
  refine aw_iload_n 0 dL_law_439 rfl rfl ?_
  refine aw_iconst (3) dL_law_440 (by decide) ?_
  refine aw_iadd dL_law_441 ?_
  refine aw_sld (6 * c + 3) (nv_add (rfl) (rfl)) (by omega) (by omega) dL_law_442 ?_
  refine aw_aload_n 3 dL_law_443 rfl rfl ?_
  refine aw_iload_n 0 dL_law_444 rfl rfl ?_
  refine aw_iconst (4) dL_law_445 (by decide) ?_
  refine aw_iadd dL_law_446 ?_
  refine aw_sld (6 * c + 4) (nv_add (rfl) (rfl)) (by omega) (by omega) dL_law_447 ?_
  refine aw_uV [.int (xs (6 * c + 1)), .int (xs (6 * c + 2)), .int (xs (6 * c + 3)), .int (xs (6 * c + 4))] [] lL_44 vX9_like mX9_like dL_law_448 (LM_like (l := l) (a := xs (6 * c + 1)) (i := xs (6 * c + 2)) (b := xs (6 * c + 3)) (k := xs (6 * c + 4)) O M1) hf rfl rfl rfl (Nat.le_of_ble_eq_true rfl) (by show _ + 1 ≤ 10 ∧ 8 + (5 + 11) + 40 * _ ≤ 394; omega) (by show _ ≤ 221190 ∧ _ ≤ 8438680; omega) rfl (fun r2 h2 q2 => ?_)
  obtain ⟨M2, k2, e2⟩ := q2
  have I2 := InvX_k I1 k2
  refine aw_pop dL_law_451 rfl ?_
  refine aw_goto 1343 dL_law_452 (by decide) ?_
  exact law_next Kn O I2 M2 (by omega) (by omega)
set_option maxHeartbeats 4000000 in
theorem law_7 {l : Launch} {G : xG} {b L c : Nat} {xs : Nat → Int32} {m ye fi : Nat → Nat} {W Z Ro Co : Nat → Int32} {sp fa nb : Nat} {b1 b2 th1 ot1 dy1 so1 kn1 go1 : Nat → Nat} {n1 : Nat} {th2 ot2 dy2 so2 kn2 go2 : Nat → Nat} {n2 : Nat} {so3 xx3 yy3 tr3 : Nat → Nat} {n3 : Nat} {kd fo : Nat → Nat} {oJ oS : Option Nat} {h : List va_E} (hL : L ≤ 3072) (hi : 6 * c + 6 ≤ L) (Kn : LawK l G b L xs (c + 1)) (O : OKD m ye fi W Z Ro Co sp fa nb b1 b2 th1 ot1 dy1 so1 kn1 go1 n1 th2 ot2 dy2 so2 kn2 go2 n2 so3 xx3 yy3 tr3 n3 kd fo) (I : InvX G m ye fi W Z Ro Co sp fa nb b1 b2 th1 ot1 dy1 so1 kn1 go1 n1 th2 ot2 dy2 so2 kn2 go2 n2 so3 xx3 yy3 tr3 n3 kd fo c oJ oS h) (M : InvM G m ye fi W Z Ro Co sp fa nb b1 b2 th1 ot1 dy1 so1 kn1 go1 n1 th2 ot2 dy2 so2 kn2 go2 n2 so3 xx3 yy3 tr3 n3 kd fo h) : AW l G yL_law code 4 ret room_1 (xEl G b L xs) (fun below args s => lw_Z below args s) (125 + 6 * bO oJ + 10 * c) (28093 + 13430 * bO oJ + 2242 * c) 455 [(3, .int (nI (6 * c))), (2, .ref (G.1 + 88)), (1, .ref (G.1 + 0)), (0, .ref b)] [] h := by
  refine aw_aload_n 2 dL_law_455 rfl rfl ?_
  refine aw_aload_n 3 dL_law_456 rfl rfl ?_
  refine aw_iload_n 0 dL_law_457 rfl rfl ?_
  refine aw_iconst (1) dL_law_458 (by decide) ?_
  refine aw_iadd dL_law_459 ?_
  refine aw_sld (6 * c + 1) (nv_add (rfl) (rfl)) (by omega) (by omega) dL_law_460 ?_
  refine aw_aload_n 3 dL_law_461 rfl rfl ?_
  refine aw_iload_n 0 dL_law_462 rfl rfl ?_
  refine aw_iconst (2) dL_law_463 (by decide) ?_
  refine aw_iadd dL_law_464 ?_
  refine aw_sld (6 * c + 2) (nv_add (rfl) (rfl)) (by omega) (by omega) dL_law_465 ?_
  have bJ := bO1 (o := oJ)
  obtain ⟨dd, mc, ms, oJ1, oS1, hd, hmc, hms, hA⟩ := LX_join (l := l) (a := xs (6 * c + 1)) (b := xs (6 * c + 2)) O I (by omega)
  have bJ1 := bO1 (o := oJ1)
  refine aw_uV [.int (xs (6 * c + 1)), .int (xs (6 * c + 2))] [] lL_45 vX8_join mX8_join dL_law_466 hA (InvX_0 I) rfl rfl rfl (Nat.le_of_ble_eq_true rfl) (by show _ + 1 ≤ 10 ∧ 8 + (3 + 11) + 40 * _ ≤ 394; omega) (by show _ ≤ 221190 ∧ _ ≤ 8438680; omega) rfl (fun r1 h1 q1 => ?_)
  obtain ⟨I1, k1, e1⟩ := q1
  have M1 := InvM_k M k1
  obtain ⟨fs, hf⟩ := InvM_0 M1
  refine aw_pop dL_law_469 rfl ?_
  refine aw_aload_n 1 dL_law_470 rfl rfl ?_
  refine aw_aload_n 3 dL_law_471 rfl rfl ?_
  refine aw_iload_n 0 dL_law_472 rfl rfl ?_
  refine aw_iconst (1) dL_law_473 (by decide) ?_
  refine aw_iadd dL_law_474 ?_
  refine aw_sld (6 * c + 1) (nv_add (rfl) (rfl)) (by omega) (by omega) dL_law_475 ?_
  refine aw_aload_n 3 dL_law_476 rfl rfl ?_
  refine aw_iload_n 0 dL_law_477 rfl rfl ?_
  refine aw_iconst (2) dL_law_478 (by decide) ?_
  refine aw_iadd dL_law_479 ?_
  refine aw_sld (6 * c + 2) (nv_add (rfl) (rfl)) (by omega) (by omega) dL_law_480 ?_
  refine aw_uV [.int (xs (6 * c + 1)), .int (xs (6 * c + 2))] [] lL_48 vX9_join mX9_join dL_law_481 (LM_join (l := l) (a := xs (6 * c + 1)) (b := xs (6 * c + 2)) O M1) hf rfl rfl rfl (Nat.le_of_ble_eq_true rfl) (by show _ + 1 ≤ 10 ∧ 8 + (3 + 11) + 40 * _ ≤ 394; omega) (by show _ ≤ 221190 ∧ _ ≤ 8438680; omega) rfl (fun r2 h2 q2 => ?_)
  obtain ⟨M2, k2, e2⟩ := q2
  have I2 := InvX_k I1 k2
  refine aw_pop dL_law_484 rfl ?_
  refine aw_goto 1343 dL_law_485 (by decide) ?_
  exact law_next Kn O I2 M2 (by omega) (by omega)
set_option maxHeartbeats 4000000 in
theorem law_8 {l : Launch} {G : xG} {b L c : Nat} {xs : Nat → Int32} {m ye fi : Nat → Nat} {W Z Ro Co : Nat → Int32} {sp fa nb : Nat} {b1 b2 th1 ot1 dy1 so1 kn1 go1 : Nat → Nat} {n1 : Nat} {th2 ot2 dy2 so2 kn2 go2 : Nat → Nat} {n2 : Nat} {so3 xx3 yy3 tr3 : Nat → Nat} {n3 : Nat} {kd fo : Nat → Nat} {oJ oS : Option Nat} {h : List va_E} (hL : L ≤ 3072) (hi : 6 * c + 6 ≤ L) (Kn : LawK l G b L xs (c + 1)) (O : OKD m ye fi W Z Ro Co sp fa nb b1 b2 th1 ot1 dy1 so1 kn1 go1 n1 th2 ot2 dy2 so2 kn2 go2 n2 so3 xx3 yy3 tr3 n3 kd fo) (I : InvX G m ye fi W Z Ro Co sp fa nb b1 b2 th1 ot1 dy1 so1 kn1 go1 n1 th2 ot2 dy2 so2 kn2 go2 n2 so3 xx3 yy3 tr3 n3 kd fo c oJ oS h) (M : InvM G m ye fi W Z Ro Co sp fa nb b1 b2 th1 ot1 dy1 so1 kn1 go1 n1 th2 ot2 dy2 so2 kn2 go2 n2 so3 xx3 yy3 tr3 n3 kd fo h) : AW l G yL_law code 4 ret room_1 (xEl G b L xs) (fun below args s => lw_Z below args s) (125 + 6 * bO oJ + 10 * c) (28093 + 13430 * bO oJ + 2242 * c) 488 [(3, .int (nI (6 * c))), (2, .ref (G.1 + 88)), (1, .ref (G.1 + 0)), (0, .ref b)] [] h := by
  refine aw_aload_n 2 dL_law_488 rfl rfl ?_
  refine aw_aload_n 3 dL_law_489 rfl rfl ?_
  refine aw_iload_n 0 dL_law_490 rfl rfl ?_
  refine aw_iconst (1) dL_law_491 (by decide) ?_
  refine aw_iadd dL_law_492 ?_
  refine aw_sld (6 * c + 1) (nv_add (rfl) (rfl)) (by omega) (by omega) dL_law_493 ?_
  refine aw_aload_n 3 dL_law_494 rfl rfl ?_
  refine aw_iload_n 0 dL_law_495 rfl rfl ?_
  refine aw_iconst (2) dL_law_496 (by decide) ?_
  refine aw_iadd dL_law_497 ?_
  refine aw_sld (6 * c + 2) (nv_add (rfl) (rfl)) (by omega) (by omega) dL_law_498 ?_
  refine aw_aload_n 3 dL_law_499 rfl rfl ?_
  refine aw_iload_n 0 dL_law_500 rfl rfl ?_
  refine aw_iconst (3) dL_law_501 (by decide) ?_
  refine aw_iadd dL_law_502 ?_
  refine aw_sld (6 * c + 3) (nv_add (rfl) (rfl)) (by omega) (by omega) dL_law_503 ?_
  have bJ := bO1 (o := oJ)
  obtain ⟨dd, mc, ms, oJ1, oS1, hd, hmc, hms, hA⟩ := LX_joined (l := l) (a := xs (6 * c + 1)) (i := xs (6 * c + 2)) (b := xs (6 * c + 3)) O I (by omega)
  have bJ1 := bO1 (o := oJ1)
  refine aw_uV [.int (xs (6 * c + 1)), .int (xs (6 * c + 2)), .int (xs (6 * c + 3))] [] lL_49 vX8_joined mX8_joined dL_law_504 hA (InvX_0 I) rfl rfl rfl (Nat.le_of_ble_eq_true rfl) (by show _ + 1 ≤ 10 ∧ 8 + (4 + 11) + 40 * _ ≤ 394; omega) (by show _ ≤ 221190 ∧ _ ≤ 8438680; omega) rfl (fun r1 h1 q1 => ?_)
  obtain ⟨I1, k1, e1⟩ := q1
  have M1 := InvM_k M k1
  obtain ⟨fs, hf⟩ := InvM_0 M1
  refine aw_pop dL_law_507 rfl ?_
  refine aw_aload_n 1 dL_law_508 rfl rfl ?_
  refine aw_aload_n 3 dL_law_509 rfl rfl ?_
  refine aw_iload_n 0 dL_law_510 rfl rfl ?_
  refine aw_iconst (1) dL_law_511 (by decide) ?_
  refine aw_iadd dL_law_512 ?_
  refine aw_sld (6 * c + 1) (nv_add (rfl) (rfl)) (by omega) (by omega) dL_law_513 ?_
  refine aw_aload_n 3 dL_law_514 rfl rfl ?_
  refine aw_iload_n 0 dL_law_515 rfl rfl ?_
  refine aw_iconst (2) dL_law_516 (by decide) ?_
  refine aw_iadd dL_law_517 ?_
  refine aw_sld (6 * c + 2) (nv_add (rfl) (rfl)) (by omega) (by omega) dL_law_518 ?_
  refine aw_aload_n 3 dL_law_519 rfl rfl ?_
  refine aw_iload_n 0 dL_law_520 rfl rfl ?_
  refine aw_iconst (3) dL_law_521 (by decide) ?_
  refine aw_iadd dL_law_522 ?_
  refine aw_sld (6 * c + 3) (nv_add (rfl) (rfl)) (by omega) (by omega) dL_law_523 ?_
  refine aw_uV [.int (xs (6 * c + 1)), .int (xs (6 * c + 2)), .int (xs (6 * c + 3))] [] lL_53 vX9_joined mX9_joined dL_law_524 (LM_joined (l := l) (a := xs (6 * c + 1)) (i := xs (6 * c + 2)) (b := xs (6 * c + 3)) O M1) hf rfl rfl rfl (Nat.le_of_ble_eq_true rfl) (by show _ + 1 ≤ 10 ∧ 8 + (5 + 11) + 40 * _ ≤ 394; omega) (by show _ ≤ 221190 ∧ _ ≤ 8438680; omega) rfl (fun r2 h2 q2 => ?_)
  obtain ⟨M2, k2, e2⟩ := q2
  have I2 := InvX_k I1 k2
  refine aw_pop dL_law_527 rfl ?_
  refine aw_goto 1343 dL_law_528 (by decide) ?_
  exact law_next Kn O I2 M2 (by omega) (by omega)
set_option maxHeartbeats 4000000 in
theorem law_9 {l : Launch} {G : xG} {b L c : Nat} {xs : Nat → Int32} {m ye fi : Nat → Nat} {W Z Ro Co : Nat → Int32} {sp fa nb : Nat} {b1 b2 th1 ot1 dy1 so1 kn1 go1 : Nat → Nat} {n1 : Nat} {th2 ot2 dy2 so2 kn2 go2 : Nat → Nat} {n2 : Nat} {so3 xx3 yy3 tr3 : Nat → Nat} {n3 : Nat} {kd fo : Nat → Nat} {oJ oS : Option Nat} {h : List va_E} (hL : L ≤ 3072) (hi : 6 * c + 6 ≤ L) (Kn : LawK l G b L xs (c + 1)) (O : OKD m ye fi W Z Ro Co sp fa nb b1 b2 th1 ot1 dy1 so1 kn1 go1 n1 th2 ot2 dy2 so2 kn2 go2 n2 so3 xx3 yy3 tr3 n3 kd fo) (I : InvX G m ye fi W Z Ro Co sp fa nb b1 b2 th1 ot1 dy1 so1 kn1 go1 n1 th2 ot2 dy2 so2 kn2 go2 n2 so3 xx3 yy3 tr3 n3 kd fo c oJ oS h) (M : InvM G m ye fi W Z Ro Co sp fa nb b1 b2 th1 ot1 dy1 so1 kn1 go1 n1 th2 ot2 dy2 so2 kn2 go2 n2 so3 xx3 yy3 tr3 n3 kd fo h) : AW l G yL_law code 4 ret room_1 (xEl G b L xs) (fun below args s => lw_Z below args s) (125 + 6 * bO oJ + 10 * c) (28093 + 13430 * bO oJ + 2242 * c) 531 [(3, .int (nI (6 * c))), (2, .ref (G.1 + 88)), (1, .ref (G.1 + 0)), (0, .ref b)] [] h := by
  refine aw_aload_n 2 dL_law_531 rfl rfl ?_
  refine aw_aload_n 3 dL_law_532 rfl rfl ?_
  refine aw_iload_n 0 dL_law_533 rfl rfl ?_
  refine aw_iconst (1) dL_law_534 (by decide) ?_
  refine aw_iadd dL_law_535 ?_
  refine aw_sld (6 * c + 1) (nv_add (rfl) (rfl)) (by omega) (by omega) dL_law_536 ?_
  refine aw_aload_n 3 dL_law_537 rfl rfl ?_
  refine aw_iload_n 0 dL_law_538 rfl rfl ?_
  refine aw_iconst (2) dL_law_539 (by decide) ?_
  refine aw_iadd dL_law_540 ?_
  refine aw_sld (6 * c + 2) (nv_add (rfl) (rfl)) (by omega) (by omega) dL_law_541 ?_
  have bJ := bO1 (o := oJ)
  obtain ⟨dd, mc, ms, oJ1, oS1, hd, hmc, hms, hA⟩ := LX_bests (l := l) (a := xs (6 * c + 1)) (b := xs (6 * c + 2)) O I (by omega)
  have bJ1 := bO1 (o := oJ1)
  refine aw_uV [.int (xs (6 * c + 1)), .int (xs (6 * c + 2))] [] lL_54 vX8_bests mX8_bests dL_law_542 hA (InvX_0 I) rfl rfl rfl (Nat.le_of_ble_eq_true rfl) (by show _ + 1 ≤ 10 ∧ 8 + (3 + 11) + 40 * _ ≤ 394; omega) (by show _ ≤ 221190 ∧ _ ≤ 8438680; omega) rfl (fun r1 h1 q1 => ?_)
  obtain ⟨I1, k1, e1⟩ := q1
  have M1 := InvM_k M k1
  obtain ⟨fs, hf⟩ := InvM_0 M1
  refine aw_pop dL_law_545 rfl ?_
  refine aw_aload_n 1 dL_law_546 rfl rfl ?_
  refine aw_aload_n 3 dL_law_547 rfl rfl ?_
  refine aw_iload_n 0 dL_law_548 rfl rfl ?_
  refine aw_iconst (1) dL_law_549 (by decide) ?_
  refine aw_iadd dL_law_550 ?_
  refine aw_sld (6 * c + 1) (nv_add (rfl) (rfl)) (by omega) (by omega) dL_law_551 ?_
  refine aw_aload_n 3 dL_law_552 rfl rfl ?_
  refine aw_iload_n 0 dL_law_553 rfl rfl ?_
  refine aw_iconst (2) dL_law_554 (by decide) ?_
  refine aw_iadd dL_law_555 ?_
  refine aw_sld (6 * c + 2) (nv_add (rfl) (rfl)) (by omega) (by omega) dL_law_556 ?_
  refine aw_uV [.int (xs (6 * c + 1)), .int (xs (6 * c + 2))] [] lL_57 vX9_bests mX9_bests dL_law_557 (LM_bests (l := l) (a := xs (6 * c + 1)) (b := xs (6 * c + 2)) O M1) hf rfl rfl rfl (Nat.le_of_ble_eq_true rfl) (by show _ + 1 ≤ 10 ∧ 8 + (4 + 11) + 40 * _ ≤ 394; omega) (by show _ ≤ 221190 ∧ _ ≤ 8438680; omega) rfl (fun r2 h2 q2 => ?_)
  obtain ⟨M2, k2, e2⟩ := q2
  have I2 := InvX_k I1 k2
  refine aw_pop dL_law_560 rfl ?_
  refine aw_goto 1343 dL_law_561 (by decide) ?_
  exact law_next Kn O I2 M2 (by omega) (by omega)
set_option maxHeartbeats 4000000 in
theorem law_10 {l : Launch} {G : xG} {b L c : Nat} {xs : Nat → Int32} {m ye fi : Nat → Nat} {W Z Ro Co : Nat → Int32} {sp fa nb : Nat} {b1 b2 th1 ot1 dy1 so1 kn1 go1 : Nat → Nat} {n1 : Nat} {th2 ot2 dy2 so2 kn2 go2 : Nat → Nat} {n2 : Nat} {so3 xx3 yy3 tr3 : Nat → Nat} {n3 : Nat} {kd fo : Nat → Nat} {oJ oS : Option Nat} {h : List va_E} (hL : L ≤ 3072) (hi : 6 * c + 6 ≤ L) (Kn : LawK l G b L xs (c + 1)) (O : OKD m ye fi W Z Ro Co sp fa nb b1 b2 th1 ot1 dy1 so1 kn1 go1 n1 th2 ot2 dy2 so2 kn2 go2 n2 so3 xx3 yy3 tr3 n3 kd fo) (I : InvX G m ye fi W Z Ro Co sp fa nb b1 b2 th1 ot1 dy1 so1 kn1 go1 n1 th2 ot2 dy2 so2 kn2 go2 n2 so3 xx3 yy3 tr3 n3 kd fo c oJ oS h) (M : InvM G m ye fi W Z Ro Co sp fa nb b1 b2 th1 ot1 dy1 so1 kn1 go1 n1 th2 ot2 dy2 so2 kn2 go2 n2 so3 xx3 yy3 tr3 n3 kd fo h) : AW l G yL_law code 4 ret room_1 (xEl G b L xs) (fun below args s => lw_Z below args s) (125 + 6 * bO oJ + 10 * c) (28093 + 13430 * bO oJ + 2242 * c) 564 [(3, .int (nI (6 * c))), (2, .ref (G.1 + 88)), (1, .ref (G.1 + 0)), (0, .ref b)] [] h := by
  refine aw_aload_n 2 dL_law_564 rfl rfl ?_
  refine aw_aload_n 3 dL_law_565 rfl rfl ?_
  refine aw_iload_n 0 dL_law_566 rfl rfl ?_
  refine aw_iconst (1) dL_law_567 (by decide) ?_
  refine aw_iadd dL_law_568 ?_
  refine aw_sld (6 * c + 1) (nv_add (rfl) (rfl)) (by omega) (by omega) dL_law_569 ?_
  refine aw_aload_n 3 dL_law_570 rfl rfl ?_
  refine aw_iload_n 0 dL_law_571 rfl rfl ?_
  refine aw_iconst (2) dL_law_572 (by decide) ?_
  refine aw_iadd dL_law_573 ?_
  refine aw_sld (6 * c + 2) (nv_add (rfl) (rfl)) (by omega) (by omega) dL_law_574 ?_
  refine aw_aload_n 3 dL_law_575 rfl rfl ?_
  refine aw_iload_n 0 dL_law_576 rfl rfl ?_
  refine aw_iconst (3) dL_law_577 (by decide) ?_
  refine aw_iadd dL_law_578 ?_
  refine aw_sld (6 * c + 3) (nv_add (rfl) (rfl)) (by omega) (by omega) dL_law_579 ?_
  have bJ := bO1 (o := oJ)
  obtain ⟨dd, mc, ms, oJ1, oS1, hd, hmc, hms, hA⟩ := LX_sure (l := l) (a := xs (6 * c + 1)) (i := xs (6 * c + 2)) (b := xs (6 * c + 3)) O I (by omega)
  have bJ1 := bO1 (o := oJ1)
  refine aw_uV [.int (xs (6 * c + 1)), .int (xs (6 * c + 2)), .int (xs (6 * c + 3))] [] lL_58 vX8_sure mX8_sure dL_law_580 hA (InvX_0 I) rfl rfl rfl (Nat.le_of_ble_eq_true rfl) (by show _ + 1 ≤ 10 ∧ 8 + (4 + 11) + 40 * _ ≤ 394; omega) (by show _ ≤ 221190 ∧ _ ≤ 8438680; omega) rfl (fun r1 h1 q1 => ?_)
  obtain ⟨I1, k1, e1⟩ := q1
  have M1 := InvM_k M k1
  obtain ⟨fs, hf⟩ := InvM_0 M1
  refine aw_pop dL_law_583 rfl ?_
  refine aw_aload_n 1 dL_law_584 rfl rfl ?_
  refine aw_aload_n 3 dL_law_585 rfl rfl ?_
  refine aw_iload_n 0 dL_law_586 rfl rfl ?_
  refine aw_iconst (1) dL_law_587 (by decide) ?_
  refine aw_iadd dL_law_588 ?_
  refine aw_sld (6 * c + 1) (nv_add (rfl) (rfl)) (by omega) (by omega) dL_law_589 ?_
  refine aw_aload_n 3 dL_law_590 rfl rfl ?_
  refine aw_iload_n 0 dL_law_591 rfl rfl ?_
  refine aw_iconst (2) dL_law_592 (by decide) ?_
  refine aw_iadd dL_law_593 ?_
  refine aw_sld (6 * c + 2) (nv_add (rfl) (rfl)) (by omega) (by omega) dL_law_594 ?_
  refine aw_aload_n 3 dL_law_595 rfl rfl ?_
  refine aw_iload_n 0 dL_law_596 rfl rfl ?_
  refine aw_iconst (3) dL_law_597 (by decide) ?_
  refine aw_iadd dL_law_598 ?_
  refine aw_sld (6 * c + 3) (nv_add (rfl) (rfl)) (by omega) (by omega) dL_law_599 ?_
  refine aw_uV [.int (xs (6 * c + 1)), .int (xs (6 * c + 2)), .int (xs (6 * c + 3))] [] lL_61 vX9_sure mX9_sure dL_law_600 (LM_sure (l := l) (a := xs (6 * c + 1)) (i := xs (6 * c + 2)) (b := xs (6 * c + 3)) O M1) hf rfl rfl rfl (Nat.le_of_ble_eq_true rfl) (by show _ + 1 ≤ 10 ∧ 8 + (4 + 11) + 40 * _ ≤ 394; omega) (by show _ ≤ 221190 ∧ _ ≤ 8438680; omega) rfl (fun r2 h2 q2 => ?_)
  obtain ⟨M2, k2, e2⟩ := q2
  have I2 := InvX_k I1 k2
  refine aw_pop dL_law_603 rfl ?_
  refine aw_goto 1343 dL_law_604 (by decide) ?_
  exact law_next Kn O I2 M2 (by omega) (by omega)
set_option maxHeartbeats 4000000 in
theorem law_11 {l : Launch} {G : xG} {b L c : Nat} {xs : Nat → Int32} {m ye fi : Nat → Nat} {W Z Ro Co : Nat → Int32} {sp fa nb : Nat} {b1 b2 th1 ot1 dy1 so1 kn1 go1 : Nat → Nat} {n1 : Nat} {th2 ot2 dy2 so2 kn2 go2 : Nat → Nat} {n2 : Nat} {so3 xx3 yy3 tr3 : Nat → Nat} {n3 : Nat} {kd fo : Nat → Nat} {oJ oS : Option Nat} {h : List va_E} (hL : L ≤ 3072) (hi : 6 * c + 6 ≤ L) (Kn : LawK l G b L xs (c + 1)) (O : OKD m ye fi W Z Ro Co sp fa nb b1 b2 th1 ot1 dy1 so1 kn1 go1 n1 th2 ot2 dy2 so2 kn2 go2 n2 so3 xx3 yy3 tr3 n3 kd fo) (I : InvX G m ye fi W Z Ro Co sp fa nb b1 b2 th1 ot1 dy1 so1 kn1 go1 n1 th2 ot2 dy2 so2 kn2 go2 n2 so3 xx3 yy3 tr3 n3 kd fo c oJ oS h) (M : InvM G m ye fi W Z Ro Co sp fa nb b1 b2 th1 ot1 dy1 so1 kn1 go1 n1 th2 ot2 dy2 so2 kn2 go2 n2 so3 xx3 yy3 tr3 n3 kd fo h) : AW l G yL_law code 4 ret room_1 (xEl G b L xs) (fun below args s => lw_Z below args s) (125 + 6 * bO oJ + 10 * c) (28093 + 13430 * bO oJ + 2242 * c) 607 [(3, .int (nI (6 * c))), (2, .ref (G.1 + 88)), (1, .ref (G.1 + 0)), (0, .ref b)] [] h := by
  refine aw_aload_n 2 dL_law_607 rfl rfl ?_
  refine aw_aload_n 3 dL_law_608 rfl rfl ?_
  refine aw_iload_n 0 dL_law_609 rfl rfl ?_
  refine aw_iconst (1) dL_law_610 (by decide) ?_
  refine aw_iadd dL_law_611 ?_
  refine aw_sld (6 * c + 1) (nv_add (rfl) (rfl)) (by omega) (by omega) dL_law_612 ?_
  refine aw_aload_n 3 dL_law_613 rfl rfl ?_
  refine aw_iload_n 0 dL_law_614 rfl rfl ?_
  refine aw_iconst (2) dL_law_615 (by decide) ?_
  refine aw_iadd dL_law_616 ?_
  refine aw_sld (6 * c + 2) (nv_add (rfl) (rfl)) (by omega) (by omega) dL_law_617 ?_
  refine aw_aload_n 3 dL_law_618 rfl rfl ?_
  refine aw_iload_n 0 dL_law_619 rfl rfl ?_
  refine aw_iconst (3) dL_law_620 (by decide) ?_
  refine aw_iadd dL_law_621 ?_
  refine aw_sld (6 * c + 3) (nv_add (rfl) (rfl)) (by omega) (by omega) dL_law_622 ?_
  refine aw_aload_n 3 dL_law_623 rfl rfl ?_
  refine aw_iload_n 0 dL_law_624 rfl rfl ?_
  refine aw_iconst (4) dL_law_625 (by decide) ?_
  refine aw_iadd dL_law_626 ?_
  refine aw_sld (6 * c + 4) (nv_add (rfl) (rfl)) (by omega) (by omega) dL_law_627 ?_
  have bJ := bO1 (o := oJ)
  obtain ⟨dd, mc, ms, oJ1, oS1, hd, hmc, hms, hA⟩ := LX_chain (l := l) (a := xs (6 * c + 1)) (i := xs (6 * c + 2)) (y := xs (6 * c + 3)) (w := xs (6 * c + 4)) O I (by omega)
  have bJ1 := bO1 (o := oJ1)
  refine aw_uV [.int (xs (6 * c + 1)), .int (xs (6 * c + 2)), .int (xs (6 * c + 3)), .int (xs (6 * c + 4))] [] lL_62 vX8_chain mX8_chain dL_law_628 hA (InvX_0 I) rfl rfl rfl (Nat.le_of_ble_eq_true rfl) (by show _ + 1 ≤ 10 ∧ 8 + (5 + 11) + 40 * _ ≤ 394; omega) (by show _ ≤ 221190 ∧ _ ≤ 8438680; omega) rfl (fun r1 h1 q1 => ?_)
  obtain ⟨I1, k1, e1⟩ := q1
  have M1 := InvM_k M k1
  obtain ⟨fs, hf⟩ := InvM_0 M1
  refine aw_pop dL_law_631 rfl ?_
  refine aw_aload_n 1 dL_law_632 rfl rfl ?_
  refine aw_aload_n 3 dL_law_633 rfl rfl ?_
  refine aw_iload_n 0 dL_law_634 rfl rfl ?_
  refine aw_iconst (1) dL_law_635 (by decide) ?_
  refine aw_iadd dL_law_636 ?_
  refine aw_sld (6 * c + 1) (nv_add (rfl) (rfl)) (by omega) (by omega) dL_law_637 ?_
  refine aw_aload_n 3 dL_law_638 rfl rfl ?_
  refine aw_iload_n 0 dL_law_639 rfl rfl ?_
  refine aw_iconst (2) dL_law_640 (by decide) ?_
  refine aw_iadd dL_law_641 ?_
  refine aw_sld (6 * c + 2) (nv_add (rfl) (rfl)) (by omega) (by omega) dL_law_642 ?_
  refine aw_aload_n 3 dL_law_643 rfl rfl ?_
  refine aw_iload_n 0 dL_law_644 rfl rfl ?_
  refine aw_iconst (3) dL_law_645 (by decide) ?_
  refine aw_iadd dL_law_646 ?_
  refine aw_sld (6 * c + 3) (nv_add (rfl) (rfl)) (by omega) (by omega) dL_law_647 ?_
  refine aw_aload_n 3 dL_law_648 rfl rfl ?_
  refine aw_iload_n 0 dL_law_649 rfl rfl ?_
  refine aw_iconst (4) dL_law_650 (by decide) ?_
  refine aw_iadd dL_law_651 ?_
  refine aw_sld (6 * c + 4) (nv_add (rfl) (rfl)) (by omega) (by omega) dL_law_652 ?_
  refine aw_uV [.int (xs (6 * c + 1)), .int (xs (6 * c + 2)), .int (xs (6 * c + 3)), .int (xs (6 * c + 4))] [] lL_65 vX9_chain mX9_chain dL_law_653 (LM_chain (l := l) (a := xs (6 * c + 1)) (i := xs (6 * c + 2)) (y := xs (6 * c + 3)) (v := xs (6 * c + 4)) O M1) hf rfl rfl rfl (Nat.le_of_ble_eq_true rfl) (by show _ + 1 ≤ 10 ∧ 8 + (15 + 11) + 40 * _ ≤ 394; omega) (by show _ ≤ 221190 ∧ _ ≤ 8438680; omega) rfl (fun r2 h2 q2 => ?_)
  obtain ⟨M2, k2, e2⟩ := q2
  have I2 := InvX_k I1 k2
  refine aw_pop dL_law_656 rfl ?_
  refine aw_goto 1343 dL_law_657 (by decide) ?_
  exact law_next Kn O I2 M2 (by omega) (by omega)
set_option maxHeartbeats 4000000 in
theorem law_12 {l : Launch} {G : xG} {b L c : Nat} {xs : Nat → Int32} {m ye fi : Nat → Nat} {W Z Ro Co : Nat → Int32} {sp fa nb : Nat} {b1 b2 th1 ot1 dy1 so1 kn1 go1 : Nat → Nat} {n1 : Nat} {th2 ot2 dy2 so2 kn2 go2 : Nat → Nat} {n2 : Nat} {so3 xx3 yy3 tr3 : Nat → Nat} {n3 : Nat} {kd fo : Nat → Nat} {oJ oS : Option Nat} {h : List va_E} (hL : L ≤ 3072) (hi : 6 * c + 6 ≤ L) (Kn : LawK l G b L xs (c + 1)) (O : OKD m ye fi W Z Ro Co sp fa nb b1 b2 th1 ot1 dy1 so1 kn1 go1 n1 th2 ot2 dy2 so2 kn2 go2 n2 so3 xx3 yy3 tr3 n3 kd fo) (I : InvX G m ye fi W Z Ro Co sp fa nb b1 b2 th1 ot1 dy1 so1 kn1 go1 n1 th2 ot2 dy2 so2 kn2 go2 n2 so3 xx3 yy3 tr3 n3 kd fo c oJ oS h) (M : InvM G m ye fi W Z Ro Co sp fa nb b1 b2 th1 ot1 dy1 so1 kn1 go1 n1 th2 ot2 dy2 so2 kn2 go2 n2 so3 xx3 yy3 tr3 n3 kd fo h) : AW l G yL_law code 4 ret room_1 (xEl G b L xs) (fun below args s => lw_Z below args s) (125 + 6 * bO oJ + 10 * c) (28093 + 13430 * bO oJ + 2242 * c) 660 [(3, .int (nI (6 * c))), (2, .ref (G.1 + 88)), (1, .ref (G.1 + 0)), (0, .ref b)] [] h := by
  refine aw_aload_n 2 dL_law_660 rfl rfl ?_
  refine aw_aload_n 3 dL_law_661 rfl rfl ?_
  refine aw_iload_n 0 dL_law_662 rfl rfl ?_
  refine aw_iconst (1) dL_law_663 (by decide) ?_
  refine aw_iadd dL_law_664 ?_
  refine aw_sld (6 * c + 1) (nv_add (rfl) (rfl)) (by omega) (by omega) dL_law_665 ?_
  refine aw_aload_n 3 dL_law_666 rfl rfl ?_
  refine aw_iload_n 0 dL_law_667 rfl rfl ?_
  refine aw_iconst (2) dL_law_668 (by decide) ?_
  refine aw_iadd dL_law_669 ?_
  refine aw_sld (6 * c + 2) (nv_add (rfl) (rfl)) (by omega) (by omega) dL_law_670 ?_
  refine aw_aload_n 3 dL_law_671 rfl rfl ?_
  refine aw_iload_n 0 dL_law_672 rfl rfl ?_
  refine aw_iconst (3) dL_law_673 (by decide) ?_
  refine aw_iadd dL_law_674 ?_
  refine aw_sld (6 * c + 3) (nv_add (rfl) (rfl)) (by omega) (by omega) dL_law_675 ?_
  have bJ := bO1 (o := oJ)
  obtain ⟨dd, mc, ms, oJ1, oS1, hd, hmc, hms, hA⟩ := LX_copied (l := l) (a := xs (6 * c + 1)) (b := xs (6 * c + 2)) (k := xs (6 * c + 3)) O I (by omega)
  have bJ1 := bO1 (o := oJ1)
  refine aw_uV [.int (xs (6 * c + 1)), .int (xs (6 * c + 2)), .int (xs (6 * c + 3))] [] lL_66 vX8_copied mX8_copied dL_law_676 hA (InvX_0 I) rfl rfl rfl (Nat.le_of_ble_eq_true rfl) (by show _ + 1 ≤ 10 ∧ 8 + (6 + 11) + 40 * _ ≤ 394; omega) (by show _ ≤ 221190 ∧ _ ≤ 8438680; omega) rfl (fun r1 h1 q1 => ?_)
  obtain ⟨I1, k1⟩ := q1
  have M1 := InvM_k M k1
  obtain ⟨fs, hf⟩ := InvM_0 M1
  refine aw_pop dL_law_679 rfl ?_
  refine aw_aload_n 1 dL_law_680 rfl rfl ?_
  refine aw_aload_n 3 dL_law_681 rfl rfl ?_
  refine aw_iload_n 0 dL_law_682 rfl rfl ?_
  refine aw_iconst (1) dL_law_683 (by decide) ?_
  refine aw_iadd dL_law_684 ?_
  refine aw_sld (6 * c + 1) (nv_add (rfl) (rfl)) (by omega) (by omega) dL_law_685 ?_
  refine aw_aload_n 3 dL_law_686 rfl rfl ?_
  refine aw_iload_n 0 dL_law_687 rfl rfl ?_
  refine aw_iconst (2) dL_law_688 (by decide) ?_
  refine aw_iadd dL_law_689 ?_
  refine aw_sld (6 * c + 2) (nv_add (rfl) (rfl)) (by omega) (by omega) dL_law_690 ?_
  refine aw_aload_n 3 dL_law_691 rfl rfl ?_
  refine aw_iload_n 0 dL_law_692 rfl rfl ?_
  refine aw_iconst (3) dL_law_693 (by decide) ?_
  refine aw_iadd dL_law_694 ?_
  refine aw_sld (6 * c + 3) (nv_add (rfl) (rfl)) (by omega) (by omega) dL_law_695 ?_
  refine aw_uV [.int (xs (6 * c + 1)), .int (xs (6 * c + 2)), .int (xs (6 * c + 3))] [] lL_69 vX9_copied mX9_copied dL_law_696 (LM_copied (l := l) (a := xs (6 * c + 1)) (b := xs (6 * c + 2)) (k := xs (6 * c + 3)) O M1) hf rfl rfl rfl (Nat.le_of_ble_eq_true rfl) (by show _ + 1 ≤ 10 ∧ 8 + (6 + 11) + 40 * _ ≤ 394; omega) (by show _ ≤ 221190 ∧ _ ≤ 8438680; omega) rfl (fun r2 h2 q2 => ?_)
  obtain ⟨M2, k2⟩ := q2
  have I2 := InvX_k I1 k2
  refine aw_pop dL_law_699 rfl ?_
  refine aw_goto 1343 dL_law_700 (by decide) ?_
  exact law_next Kn O I2 M2 (by omega) (by omega)
set_option maxHeartbeats 4000000 in
theorem law_13 {l : Launch} {G : xG} {b L c : Nat} {xs : Nat → Int32} {m ye fi : Nat → Nat} {W Z Ro Co : Nat → Int32} {sp fa nb : Nat} {b1 b2 th1 ot1 dy1 so1 kn1 go1 : Nat → Nat} {n1 : Nat} {th2 ot2 dy2 so2 kn2 go2 : Nat → Nat} {n2 : Nat} {so3 xx3 yy3 tr3 : Nat → Nat} {n3 : Nat} {kd fo : Nat → Nat} {oJ oS : Option Nat} {h : List va_E} (hL : L ≤ 3072) (hi : 6 * c + 6 ≤ L) (Kn : LawK l G b L xs (c + 1)) (O : OKD m ye fi W Z Ro Co sp fa nb b1 b2 th1 ot1 dy1 so1 kn1 go1 n1 th2 ot2 dy2 so2 kn2 go2 n2 so3 xx3 yy3 tr3 n3 kd fo) (I : InvX G m ye fi W Z Ro Co sp fa nb b1 b2 th1 ot1 dy1 so1 kn1 go1 n1 th2 ot2 dy2 so2 kn2 go2 n2 so3 xx3 yy3 tr3 n3 kd fo c oJ oS h) (M : InvM G m ye fi W Z Ro Co sp fa nb b1 b2 th1 ot1 dy1 so1 kn1 go1 n1 th2 ot2 dy2 so2 kn2 go2 n2 so3 xx3 yy3 tr3 n3 kd fo h) : AW l G yL_law code 4 ret room_1 (xEl G b L xs) (fun below args s => lw_Z below args s) (125 + 6 * bO oJ + 10 * c) (28093 + 13430 * bO oJ + 2242 * c) 703 [(3, .int (nI (6 * c))), (2, .ref (G.1 + 88)), (1, .ref (G.1 + 0)), (0, .ref b)] [] h := by
  refine aw_aload_n 2 dL_law_703 rfl rfl ?_
  refine aw_aload_n 3 dL_law_704 rfl rfl ?_
  refine aw_iload_n 0 dL_law_705 rfl rfl ?_
  refine aw_iconst (1) dL_law_706 (by decide) ?_
  refine aw_iadd dL_law_707 ?_
  refine aw_sld (6 * c + 1) (nv_add (rfl) (rfl)) (by omega) (by omega) dL_law_708 ?_
  refine aw_aload_n 3 dL_law_709 rfl rfl ?_
  refine aw_iload_n 0 dL_law_710 rfl rfl ?_
  refine aw_iconst (2) dL_law_711 (by decide) ?_
  refine aw_iadd dL_law_712 ?_
  refine aw_sld (6 * c + 2) (nv_add (rfl) (rfl)) (by omega) (by omega) dL_law_713 ?_
  refine aw_aload_n 3 dL_law_714 rfl rfl ?_
  refine aw_iload_n 0 dL_law_715 rfl rfl ?_
  refine aw_iconst (3) dL_law_716 (by decide) ?_
  refine aw_iadd dL_law_717 ?_
  refine aw_sld (6 * c + 3) (nv_add (rfl) (rfl)) (by omega) (by omega) dL_law_718 ?_
  refine aw_aload_n 3 dL_law_719 rfl rfl ?_
  refine aw_iload_n 0 dL_law_720 rfl rfl ?_
  refine aw_iconst (4) dL_law_721 (by decide) ?_
  refine aw_iadd dL_law_722 ?_
  refine aw_sld (6 * c + 4) (nv_add (rfl) (rfl)) (by omega) (by omega) dL_law_723 ?_
  have bJ := bO1 (o := oJ)
  obtain ⟨dd, mc, ms, oJ1, oS1, hd, hmc, hms, hA⟩ := LX_sight (l := l) (t := xs (6 * c + 1)) (p := xs (6 * c + 2)) (d := xs (6 * c + 3)) (k := xs (6 * c + 4)) O I (by omega)
  have bJ1 := bO1 (o := oJ1)
  refine aw_uV [.int (xs (6 * c + 1)), .int (xs (6 * c + 2)), .int (xs (6 * c + 3)), .int (xs (6 * c + 4))] [] lL_70 vX8_sight mX8_sight dL_law_724 hA (InvX_0 I) rfl rfl rfl (Nat.le_of_ble_eq_true rfl) (by show _ + 1 ≤ 10 ∧ 8 + (6 + 11) + 40 * _ ≤ 394; omega) (by show _ ≤ 221190 ∧ _ ≤ 8438680; omega) rfl (fun r1 h1 q1 => ?_)
  obtain ⟨I1, k1, e1⟩ := q1
  have M1 := InvM_k M k1
  obtain ⟨fs, hf⟩ := InvM_0 M1
  refine aw_pop dL_law_727 rfl ?_
  refine aw_aload_n 1 dL_law_728 rfl rfl ?_
  refine aw_aload_n 3 dL_law_729 rfl rfl ?_
  refine aw_iload_n 0 dL_law_730 rfl rfl ?_
  refine aw_iconst (1) dL_law_731 (by decide) ?_
  refine aw_iadd dL_law_732 ?_
  refine aw_sld (6 * c + 1) (nv_add (rfl) (rfl)) (by omega) (by omega) dL_law_733 ?_
  refine aw_aload_n 3 dL_law_734 rfl rfl ?_
  refine aw_iload_n 0 dL_law_735 rfl rfl ?_
  refine aw_iconst (2) dL_law_736 (by decide) ?_
  refine aw_iadd dL_law_737 ?_
  refine aw_sld (6 * c + 2) (nv_add (rfl) (rfl)) (by omega) (by omega) dL_law_738 ?_
  refine aw_aload_n 3 dL_law_739 rfl rfl ?_
  refine aw_iload_n 0 dL_law_740 rfl rfl ?_
  refine aw_iconst (3) dL_law_741 (by decide) ?_
  refine aw_iadd dL_law_742 ?_
  refine aw_sld (6 * c + 3) (nv_add (rfl) (rfl)) (by omega) (by omega) dL_law_743 ?_
  refine aw_aload_n 3 dL_law_744 rfl rfl ?_
  refine aw_iload_n 0 dL_law_745 rfl rfl ?_
  refine aw_iconst (4) dL_law_746 (by decide) ?_
  refine aw_iadd dL_law_747 ?_
  refine aw_sld (6 * c + 4) (nv_add (rfl) (rfl)) (by omega) (by omega) dL_law_748 ?_
  refine aw_uV [.int (xs (6 * c + 1)), .int (xs (6 * c + 2)), .int (xs (6 * c + 3)), .int (xs (6 * c + 4))] [] lL_73 vX9_sight mX9_sight dL_law_749 (LM_sight (l := l) (t := xs (6 * c + 1)) (p := xs (6 * c + 2)) (d := xs (6 * c + 3)) (k := xs (6 * c + 4)) O M1) hf rfl rfl rfl (Nat.le_of_ble_eq_true rfl) (by show _ + 1 ≤ 10 ∧ 8 + (6 + 11) + 40 * _ ≤ 394; omega) (by show _ ≤ 221190 ∧ _ ≤ 8438680; omega) rfl (fun r2 h2 q2 => ?_)
  obtain ⟨M2, k2, e2⟩ := q2
  have I2 := InvX_k I1 k2
  refine aw_pop dL_law_752 rfl ?_
  refine aw_goto 1343 dL_law_753 (by decide) ?_
  exact law_next Kn (OK_sight O) I2 M2 (by omega) (by omega)
set_option maxHeartbeats 4000000 in
theorem law_14 {l : Launch} {G : xG} {b L c : Nat} {xs : Nat → Int32} {m ye fi : Nat → Nat} {W Z Ro Co : Nat → Int32} {sp fa nb : Nat} {b1 b2 th1 ot1 dy1 so1 kn1 go1 : Nat → Nat} {n1 : Nat} {th2 ot2 dy2 so2 kn2 go2 : Nat → Nat} {n2 : Nat} {so3 xx3 yy3 tr3 : Nat → Nat} {n3 : Nat} {kd fo : Nat → Nat} {oJ oS : Option Nat} {h : List va_E} (hL : L ≤ 3072) (hi : 6 * c + 6 ≤ L) (Kn : LawK l G b L xs (c + 1)) (O : OKD m ye fi W Z Ro Co sp fa nb b1 b2 th1 ot1 dy1 so1 kn1 go1 n1 th2 ot2 dy2 so2 kn2 go2 n2 so3 xx3 yy3 tr3 n3 kd fo) (I : InvX G m ye fi W Z Ro Co sp fa nb b1 b2 th1 ot1 dy1 so1 kn1 go1 n1 th2 ot2 dy2 so2 kn2 go2 n2 so3 xx3 yy3 tr3 n3 kd fo c oJ oS h) (M : InvM G m ye fi W Z Ro Co sp fa nb b1 b2 th1 ot1 dy1 so1 kn1 go1 n1 th2 ot2 dy2 so2 kn2 go2 n2 so3 xx3 yy3 tr3 n3 kd fo h) : AW l G yL_law code 4 ret room_1 (xEl G b L xs) (fun below args s => lw_Z below args s) (125 + 6 * bO oJ + 10 * c) (28093 + 13430 * bO oJ + 2242 * c) 756 [(3, .int (nI (6 * c))), (2, .ref (G.1 + 88)), (1, .ref (G.1 + 0)), (0, .ref b)] [] h := by
  refine aw_aload_n 2 dL_law_756 rfl rfl ?_
  refine aw_aload_n 3 dL_law_757 rfl rfl ?_
  refine aw_iload_n 0 dL_law_758 rfl rfl ?_
  refine aw_iconst (1) dL_law_759 (by decide) ?_
  refine aw_iadd dL_law_760 ?_
  refine aw_sld (6 * c + 1) (nv_add (rfl) (rfl)) (by omega) (by omega) dL_law_761 ?_
  refine aw_aload_n 3 dL_law_762 rfl rfl ?_
  refine aw_iload_n 0 dL_law_763 rfl rfl ?_
  refine aw_iconst (2) dL_law_764 (by decide) ?_
  refine aw_iadd dL_law_765 ?_
  refine aw_sld (6 * c + 2) (nv_add (rfl) (rfl)) (by omega) (by omega) dL_law_766 ?_
  refine aw_aload_n 3 dL_law_767 rfl rfl ?_
  refine aw_iload_n 0 dL_law_768 rfl rfl ?_
  refine aw_iconst (3) dL_law_769 (by decide) ?_
  refine aw_iadd dL_law_770 ?_
  refine aw_sld (6 * c + 3) (nv_add (rfl) (rfl)) (by omega) (by omega) dL_law_771 ?_
  refine aw_aload_n 3 dL_law_772 rfl rfl ?_
  refine aw_iload_n 0 dL_law_773 rfl rfl ?_
  refine aw_iconst (4) dL_law_774 (by decide) ?_
  refine aw_iadd dL_law_775 ?_
  refine aw_sld (6 * c + 4) (nv_add (rfl) (rfl)) (by omega) (by omega) dL_law_776 ?_
  refine aw_aload_n 3 dL_law_777 rfl rfl ?_
  refine aw_iload_n 0 dL_law_778 rfl rfl ?_
  refine aw_iconst (5) dL_law_779 (by decide) ?_
  refine aw_iadd dL_law_780 ?_
  refine aw_sld (6 * c + 5) (nv_add (rfl) (rfl)) (by omega) (by omega) dL_law_781 ?_
  have bJ := bO1 (o := oJ)
  obtain ⟨dd, mc, ms, oJ1, oS1, hd, hmc, hms, hA⟩ := LX_move (l := l) (t := xs (6 * c + 1)) (p := xs (6 * c + 2)) (d := xs (6 * c + 3)) (s := xs (6 * c + 4)) (k := xs (6 * c + 5)) O I (by omega)
  have bJ1 := bO1 (o := oJ1)
  refine aw_uV [.int (xs (6 * c + 1)), .int (xs (6 * c + 2)), .int (xs (6 * c + 3)), .int (xs (6 * c + 4)), .int (xs (6 * c + 5))] [] lL_74 vX8_move mX8_move dL_law_782 hA (InvX_0 I) rfl rfl rfl (Nat.le_of_ble_eq_true rfl) (by show _ + 1 ≤ 10 ∧ 8 + (7 + 11) + 40 * _ ≤ 394; omega) (by show _ ≤ 221190 ∧ _ ≤ 8438680; omega) rfl (fun r1 h1 q1 => ?_)
  obtain ⟨I1, k1, e1⟩ := q1
  have M1 := InvM_k M k1
  obtain ⟨fs, hf⟩ := InvM_0 M1
  refine aw_pop dL_law_785 rfl ?_
  refine aw_aload_n 1 dL_law_786 rfl rfl ?_
  refine aw_aload_n 3 dL_law_787 rfl rfl ?_
  refine aw_iload_n 0 dL_law_788 rfl rfl ?_
  refine aw_iconst (1) dL_law_789 (by decide) ?_
  refine aw_iadd dL_law_790 ?_
  refine aw_sld (6 * c + 1) (nv_add (rfl) (rfl)) (by omega) (by omega) dL_law_791 ?_
  refine aw_aload_n 3 dL_law_792 rfl rfl ?_
  refine aw_iload_n 0 dL_law_793 rfl rfl ?_
  refine aw_iconst (2) dL_law_794 (by decide) ?_
  refine aw_iadd dL_law_795 ?_
  refine aw_sld (6 * c + 2) (nv_add (rfl) (rfl)) (by omega) (by omega) dL_law_796 ?_
  refine aw_aload_n 3 dL_law_797 rfl rfl ?_
  refine aw_iload_n 0 dL_law_798 rfl rfl ?_
  refine aw_iconst (3) dL_law_799 (by decide) ?_
  refine aw_iadd dL_law_800 ?_
  refine aw_sld (6 * c + 3) (nv_add (rfl) (rfl)) (by omega) (by omega) dL_law_801 ?_
  refine aw_aload_n 3 dL_law_802 rfl rfl ?_
  refine aw_iload_n 0 dL_law_803 rfl rfl ?_
  refine aw_iconst (4) dL_law_804 (by decide) ?_
  refine aw_iadd dL_law_805 ?_
  refine aw_sld (6 * c + 4) (nv_add (rfl) (rfl)) (by omega) (by omega) dL_law_806 ?_
  refine aw_aload_n 3 dL_law_807 rfl rfl ?_
  refine aw_iload_n 0 dL_law_808 rfl rfl ?_
  refine aw_iconst (5) dL_law_809 (by decide) ?_
  refine aw_iadd dL_law_810 ?_
  refine aw_sld (6 * c + 5) (nv_add (rfl) (rfl)) (by omega) (by omega) dL_law_811 ?_
  refine aw_uV [.int (xs (6 * c + 1)), .int (xs (6 * c + 2)), .int (xs (6 * c + 3)), .int (xs (6 * c + 4)), .int (xs (6 * c + 5))] [] lL_77 vX9_move mX9_move dL_law_812 (LM_move (l := l) (t := xs (6 * c + 1)) (p := xs (6 * c + 2)) (d := xs (6 * c + 3)) (s := xs (6 * c + 4)) (k := xs (6 * c + 5)) O M1) hf rfl rfl rfl (Nat.le_of_ble_eq_true rfl) (by show _ + 1 ≤ 10 ∧ 8 + (7 + 11) + 40 * _ ≤ 394; omega) (by show _ ≤ 221190 ∧ _ ≤ 8438680; omega) rfl (fun r2 h2 q2 => ?_)
  obtain ⟨M2, k2, e2⟩ := q2
  have I2 := InvX_k I1 k2
  refine aw_pop dL_law_815 rfl ?_
  refine aw_goto 1343 dL_law_816 (by decide) ?_
  exact law_next Kn (OK_move O) I2 M2 (by omega) (by omega)
