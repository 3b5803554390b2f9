set_option maxHeartbeats 4000000 in
theorem law_end {l : Launch} {G : xG} {b : Nat} {xs : Nat → Int32} {h : List va_E} {k n : Nat} (hk : k ≤ 600000) (hn : n ≤ 7302250) : AW l G yL_law code 4 ret room_1 (xEl G b 6 xs) (fun below args s => lw_Z below args s) k n 1343 [(3, .int 0), (2, .ref (G.1 + 88)), (1, .ref (G.1 + 0)), (0, .ref b)] [] h := by
  refine aw_iinc (j := 0) (6) [(3, .int 6), (2, .ref (G.1 + 88)), (1, .ref (G.1 + 0)), (0, .ref b)] dL_law_1343 rfl (by decide) (by decide) rfl ?_
  refine aw_goto 18 dL_law_1346 (by decide) ?_
  refine aw_iload_n 0 dL_law_18 rfl rfl ?_
  refine aw_aload_n 3 dL_law_19 rfl rfl ?_
  refine aw_slen dL_law_20 ?_
  refine aw_toe 6 rfl ?_
  refine aw_bipush (6) dL_law_21 (by decide) ?_
  refine aw_isub dL_law_23 ?_
  refine aw_toe 0 (by decide) ?_
  refine aw_icmp_gt 1349 dL_law_24 (by decide) (fun c24 => ?_) (fun c24 => absurd (by decide) c24)
  refine aw_iconst (1) dL_law_1349 (by decide) ?_
  exact aw_lret dL_law_1350 hk hn
set_option maxHeartbeats 4000000 in
theorem law_0 {l : Launch} {G : xG} {b : Nat} {xs : Nat → Int32} {h : List va_E} (hF : xF8 G h) (hM : xF9 G h) (hl : h.length = 125) : AW l G yL_law code 4 ret room_1 (xEl G b 6 xs) (fun below args s => lw_Z below args s) 125 28093 164 [(3, .int 0), (2, .ref (G.1 + 88)), (1, .ref (G.1 + 0)), (0, .ref b)] [] h := by
  refine aw_aload_n 2 dL_law_164 rfl rfl ?_
  refine aw_aload_n 3 dL_law_165 rfl rfl ?_
  refine aw_iload_n 0 dL_law_166 rfl rfl ?_
  refine aw_iconst (1) dL_law_167 (by decide) ?_
  refine aw_iadd dL_law_168 ?_
  refine aw_toe 1 (by decide) ?_
  refine aw_sld 1 (rfl) (by decide) (by decide) dL_law_169 ?_
  refine aw_aload_n 3 dL_law_170 rfl rfl ?_
  refine aw_iload_n 0 dL_law_171 rfl rfl ?_
  refine aw_iconst (2) dL_law_172 (by decide) ?_
  refine aw_iadd dL_law_173 ?_
  refine aw_toe 2 (by decide) ?_
  refine aw_sld 2 (rfl) (by decide) (by decide) dL_law_174 ?_
  obtain ⟨rr, hA, hB⟩ := O0 (l := l) (G := G) (w := xs 1) (o := xs 2) hF hM hl
  refine aw_eV [.int (xs 1), .int (xs 2)] [] lL_13 vX8_means mX8_means dL_law_175 (hA) hF.1 rfl rfl rfl (Nat.le_of_ble_eq_true rfl) (by decide) (by decide) rfl (fun h1 k1 => ?_)
  refine aw_aload_n 1 dL_law_178 rfl rfl ?_
  refine aw_aload_n 3 dL_law_179 rfl rfl ?_
  refine aw_iload_n 0 dL_law_180 rfl rfl ?_
  refine aw_iconst (1) dL_law_181 (by decide) ?_
  refine aw_iadd dL_law_182 ?_
  refine aw_toe 1 (by decide) ?_
  refine aw_sld 1 (rfl) (by decide) (by decide) dL_law_183 ?_
  refine aw_aload_n 3 dL_law_184 rfl rfl ?_
  refine aw_iload_n 0 dL_law_185 rfl rfl ?_
  refine aw_iconst (2) dL_law_186 (by decide) ?_
  refine aw_iadd dL_law_187 ?_
  refine aw_toe 2 (by decide) ?_
  refine aw_sld 2 (rfl) (by decide) (by decide) dL_law_188 ?_
  refine aw_eV [.int (xs 1), .int (xs 2)] [.int rr] lL_17 vX9_means mX9_means dL_law_189 (hB h1 k1) ((k1 88 (by decide) (by decide)).trans hM.1) rfl rfl rfl (Nat.le_of_ble_eq_true rfl) (by decide) (by decide) rfl (fun h2 _k2 => ?_)
  refine aw_icmp_eq 1343 dL_law_192 (by decide) (fun c192 => ?_) (fun c192 => absurd (rfl) c192)
  exact law_end (by decide) (by decide)
set_option maxHeartbeats 4000000 in
theorem law_1 {l : Launch} {G : xG} {b : Nat} {xs : Nat → Int32} {h : List va_E} (hF : xF8 G h) (hM : xF9 G h) (hl : h.length = 125) : AW l G yL_law code 4 ret room_1 (xEl G b 6 xs) (fun below args s => lw_Z below args s) 125 28093 197 [(3, .int 0), (2, .ref (G.1 + 88)), (1, .ref (G.1 + 0)), (0, .ref b)] [] h := by
  refine aw_aload_n 2 dL_law_197 rfl rfl ?_
  refine aw_aload_n 3 dL_law_198 rfl rfl ?_
  refine aw_iload_n 0 dL_law_199 rfl rfl ?_
  refine aw_iconst (1) dL_law_200 (by decide) ?_
  refine aw_iadd dL_law_201 ?_
  refine aw_toe 1 (by decide) ?_
  refine aw_sld 1 (rfl) (by decide) (by decide) dL_law_202 ?_
  obtain ⟨rr, hA, hB⟩ := O1 (l := l) (G := G) (w := xs 1) hF hM hl
  refine aw_eV [.int (xs 1)] [] lL_18 vX8_sense mX8_sense dL_law_203 (hA) hF.1 rfl rfl rfl (Nat.le_of_ble_eq_true rfl) (by decide) (by decide) rfl (fun h1 k1 => ?_)
  refine aw_aload_n 1 dL_law_206 rfl rfl ?_
  refine aw_aload_n 3 dL_law_207 rfl rfl ?_
  refine aw_iload_n 0 dL_law_208 rfl rfl ?_
  refine aw_iconst (1) dL_law_209 (by decide) ?_
  refine aw_iadd dL_law_210 ?_
  refine aw_toe 1 (by decide) ?_
  refine aw_sld 1 (rfl) (by decide) (by decide) dL_law_211 ?_
  refine aw_eV [.int (xs 1)] [.int rr] lL_22 vX9_sense mX9_sense dL_law_212 (hB h1 k1) ((k1 88 (by decide) (by decide)).trans hM.1) rfl rfl rfl (Nat.le_of_ble_eq_true rfl) (by decide) (by decide) rfl (fun h2 _k2 => ?_)
  refine aw_icmp_eq 1343 dL_law_215 (by decide) (fun c215 => ?_) (fun c215 => absurd (rfl) c215)
  exact law_end (by decide) (by decide)
set_option maxHeartbeats 4000000 in
theorem law_2 {l : Launch} {G : xG} {b : Nat} {xs : Nat → Int32} {h : List va_E} (hF : xF8 G h) (hM : xF9 G h) (hl : h.length = 125) : AW l G yL_law code 4 ret room_1 (xEl G b 6 xs) (fun below args s => lw_Z below args s) 125 28093 220 [(3, .int 0), (2, .ref (G.1 + 88)), (1, .ref (G.1 + 0)), (0, .ref b)] [] h := by
  refine aw_aload_n 2 dL_law_220 rfl rfl ?_
  refine aw_aload_n 3 dL_law_221 rfl rfl ?_
  refine aw_iload_n 0 dL_law_222 rfl rfl ?_
  refine aw_iconst (1) dL_law_223 (by decide) ?_
  refine aw_iadd dL_law_224 ?_
  refine aw_toe 1 (by decide) ?_
  refine aw_sld 1 (rfl) (by decide) (by decide) dL_law_225 ?_
  refine aw_aload_n 3 dL_law_226 rfl rfl ?_
  refine aw_iload_n 0 dL_law_227 rfl rfl ?_
  refine aw_iconst (2) dL_law_228 (by decide) ?_
  refine aw_iadd dL_law_229 ?_
  refine aw_toe 2 (by decide) ?_
  refine aw_sld 2 (rfl) (by decide) (by decide) dL_law_230 ?_
  obtain ⟨rr, hA, hB⟩ := O2 (l := l) (G := G) (c := xs 1) (y := xs 2) hF hM hl
  refine aw_eV [.int (xs 1), .int (xs 2)] [] lL_23 vX8_year mX8_year dL_law_231 (hA) hF.1 rfl rfl rfl (Nat.le_of_ble_eq_true rfl) (by decide) (by decide) rfl (fun h1 k1 => ?_)
  refine aw_aload_n 1 dL_law_234 rfl rfl ?_
  refine aw_aload_n 3 dL_law_235 rfl rfl ?_
  refine aw_iload_n 0 dL_law_236 rfl rfl ?_
  refine aw_iconst (1) dL_law_237 (by decide) ?_
  refine aw_iadd dL_law_238 ?_
  refine aw_toe 1 (by decide) ?_
  refine aw_sld 1 (rfl) (by decide) (by decide) dL_law_239 ?_
  refine aw_aload_n 3 dL_law_240 rfl rfl ?_
  refine aw_iload_n 0 dL_law_241 rfl rfl ?_
  refine aw_iconst (2) dL_law_242 (by decide) ?_
  refine aw_iadd dL_law_243 ?_
  refine aw_toe 2 (by decide) ?_
  refine aw_sld 2 (rfl) (by decide) (by decide) dL_law_244 ?_
  refine aw_eV [.int (xs 1), .int (xs 2)] [.int rr] lL_26 vX9_year mX9_year dL_law_245 (hB h1 k1) ((k1 88 (by decide) (by decide)).trans hM.1) rfl rfl rfl (Nat.le_of_ble_eq_true rfl) (by decide) (by decide) rfl (fun h2 _k2 => ?_)
  refine aw_icmp_eq 1343 dL_law_248 (by decide) (fun c248 => ?_) (fun c248 => absurd (rfl) c248)
  exact law_end (by decide) (by decide)
set_option maxHeartbeats 4000000 in
theorem law_3 {l : Launch} {G : xG} {b : Nat} {xs : Nat → Int32} {h : List va_E} (hF : xF8 G h) (hM : xF9 G h) (hl : h.length = 125) : AW l G yL_law code 4 ret room_1 (xEl G b 6 xs) (fun below args s => lw_Z below args s) 125 28093 253 [(3, .int 0), (2, .ref (G.1 + 88)), (1, .ref (G.1 + 0)), (0, .ref b)] [] h := by
  refine aw_aload_n 2 dL_law_253 rfl rfl ?_
  refine aw_aload_n 3 dL_law_254 rfl rfl ?_
  refine aw_iload_n 0 dL_law_255 rfl rfl ?_
  refine aw_iconst (1) dL_law_256 (by decide) ?_
  refine aw_iadd dL_law_257 ?_
  refine aw_toe 1 (by decide) ?_
  refine aw_sld 1 (rfl) (by decide) (by decide) dL_law_258 ?_
  refine aw_aload_n 3 dL_law_259 rfl rfl ?_
  refine aw_iload_n 0 dL_law_260 rfl rfl ?_
  refine aw_iconst (2) dL_law_261 (by decide) ?_
  refine aw_iadd dL_law_262 ?_
  refine aw_toe 2 (by decide) ?_
  refine aw_sld 2 (rfl) (by decide) (by decide) dL_law_263 ?_
  refine aw_aload_n 3 dL_law_264 rfl rfl ?_
  refine aw_iload_n 0 dL_law_265 rfl rfl ?_
  refine aw_iconst (3) dL_law_266 (by decide) ?_
  refine aw_iadd dL_law_267 ?_
  refine aw_toe 3 (by decide) ?_
  refine aw_sld 3 (rfl) (by decide) (by decide) dL_law_268 ?_
  refine aw_aload_n 3 dL_law_269 rfl rfl ?_
  refine aw_iload_n 0 dL_law_270 rfl rfl ?_
  refine aw_iconst (4) dL_law_271 (by decide) ?_
  refine aw_iadd dL_law_272 ?_
  refine aw_toe 4 (by decide) ?_
  refine aw_sld 4 (rfl) (by decide) (by decide) dL_law_273 ?_
  refine aw_aload_n 3 dL_law_274 rfl rfl ?_
  refine aw_iload_n 0 dL_law_275 rfl rfl ?_
  refine aw_iconst (5) dL_law_276 (by decide) ?_
  refine aw_iadd dL_law_277 ?_
  refine aw_toe 5 (by decide) ?_
  refine aw_sld 5 (rfl) (by decide) (by decide) dL_law_278 ?_
  obtain ⟨rr, hA, hB⟩ := O3 (l := l) (G := G) (c := xs 1) (w := xs 2) (s := xs 3) (r := xs 4) (u := xs 5) hF hM hl
  refine aw_eV [.int (xs 1), .int (xs 2), .int (xs 3), .int (xs 4), .int (xs 5)] [] lL_27 vX8_entry mX8_entry dL_law_279 (hA) hF.1 rfl rfl rfl (Nat.le_of_ble_eq_true rfl) (by decide) (by decide) rfl (fun h1 k1 => ?_)
  refine aw_aload_n 1 dL_law_282 rfl rfl ?_
  refine aw_aload_n 3 dL_law_283 rfl rfl ?_
  refine aw_iload_n 0 dL_law_284 rfl rfl ?_
  refine aw_iconst (1) dL_law_285 (by decide) ?_
  refine aw_iadd dL_law_286 ?_
  refine aw_toe 1 (by decide) ?_
  refine aw_sld 1 (rfl) (by decide) (by decide) dL_law_287 ?_
  refine aw_aload_n 3 dL_law_288 rfl rfl ?_
  refine aw_iload_n 0 dL_law_289 rfl rfl ?_
  refine aw_iconst (2) dL_law_290 (by decide) ?_
  refine aw_iadd dL_law_291 ?_
  refine aw_toe 2 (by decide) ?_
  refine aw_sld 2 (rfl) (by decide) (by decide) dL_law_292 ?_
  refine aw_aload_n 3 dL_law_293 rfl rfl ?_
  refine aw_iload_n 0 dL_law_294 rfl rfl ?_
  refine aw_iconst (3) dL_law_295 (by decide) ?_
  refine aw_iadd dL_law_296 ?_
  refine aw_toe 3 (by decide) ?_
  refine aw_sld 3 (rfl) (by decide) (by decide) dL_law_297 ?_
  refine aw_aload_n 3 dL_law_298 rfl rfl ?_
  refine aw_iload_n 0 dL_law_299 rfl rfl ?_
  refine aw_iconst (4) dL_law_300 (by decide) ?_
  refine aw_iadd dL_law_301 ?_
  refine aw_toe 4 (by decide) ?_
  refine aw_sld 4 (rfl) (by decide) (by decide) dL_law_302 ?_
  refine aw_aload_n 3 dL_law_303 rfl rfl ?_
  refine aw_iload_n 0 dL_law_304 rfl rfl ?_
  refine aw_iconst (5) dL_law_305 (by decide) ?_
  refine aw_iadd dL_law_306 ?_
  refine aw_toe 5 (by decide) ?_
  refine aw_sld 5 (rfl) (by decide) (by decide) dL_law_307 ?_
  refine aw_eV [.int (xs 1), .int (xs 2), .int (xs 3), .int (xs 4), .int (xs 5)] [.int rr] lL_31 vX9_entry mX9_entry dL_law_308 (hB h1 k1) ((k1 88 (by decide) (by decide)).trans hM.1) rfl rfl rfl (Nat.le_of_ble_eq_true rfl) (by decide) (by decide) rfl (fun h2 _k2 => ?_)
  refine aw_icmp_eq 1343 dL_law_311 (by decide) (fun c311 => ?_) (fun c311 => absurd (rfl) c311)
  exact law_end (by decide) (by decide)
set_option maxHeartbeats 4000000 in
theorem law_4 {l : Launch} {G : xG} {b : Nat} {xs : Nat → Int32} {h : List va_E} (hF : xF8 G h) (hM : xF9 G h) (hl : h.length = 125) : AW l G yL_law code 4 ret room_1 (xEl G b 6 xs) (fun below args s => lw_Z below args s) 125 28093 316 [(3, .int 0), (2, .ref (G.1 + 88)), (1, .ref (G.1 + 0)), (0, .ref b)] [] h := by
  refine aw_aload_n 2 dL_law_316 rfl rfl ?_
  refine aw_aload_n 3 dL_law_317 rfl rfl ?_
  refine aw_iload_n 0 dL_law_318 rfl rfl ?_
  refine aw_iconst (1) dL_law_319 (by decide) ?_
  refine aw_iadd dL_law_320 ?_
  refine aw_toe 1 (by decide) ?_
  refine aw_sld 1 (rfl) (by decide) (by decide) dL_law_321 ?_
  refine aw_aload_n 3 dL_law_322 rfl rfl ?_
  refine aw_iload_n 0 dL_law_323 rfl rfl ?_
  refine aw_iconst (2) dL_law_324 (by decide) ?_
  refine aw_iadd dL_law_325 ?_
  refine aw_toe 2 (by decide) ?_
  refine aw_sld 2 (rfl) (by decide) (by decide) dL_law_326 ?_
  obtain ⟨rr, hA, hB⟩ := O4 (l := l) (G := G) (w := xs 1) (v := xs 2) hF hM hl
  refine aw_eV [.int (xs 1), .int (xs 2)] [] lL_32 vX8_set mX8_set dL_law_327 (hA) hF.1 rfl rfl rfl (Nat.le_of_ble_eq_true rfl) (by decide) (by decide) rfl (fun h1 k1 => ?_)
  refine aw_aload_n 1 dL_law_330 rfl rfl ?_
  refine aw_aload_n 3 dL_law_331 rfl rfl ?_
  refine aw_iload_n 0 dL_law_332 rfl rfl ?_
  refine aw_iconst (1) dL_law_333 (by decide) ?_
  refine aw_iadd dL_law_334 ?_
  refine aw_toe 1 (by decide) ?_
  refine aw_sld 1 (rfl) (by decide) (by decide) dL_law_335 ?_
  refine aw_aload_n 3 dL_law_336 rfl rfl ?_
  refine aw_iload_n 0 dL_law_337 rfl rfl ?_
  refine aw_iconst (2) dL_law_338 (by decide) ?_
  refine aw_iadd dL_law_339 ?_
  refine aw_toe 2 (by decide) ?_
  refine aw_sld 2 (rfl) (by decide) (by decide) dL_law_340 ?_
  refine aw_eV [.int (xs 1), .int (xs 2)] [.int rr] lL_35 vX9_set mX9_set dL_law_341 (hB h1 k1) ((k1 88 (by decide) (by decide)).trans hM.1) rfl rfl rfl (Nat.le_of_ble_eq_true rfl) (by decide) (by decide) rfl (fun h2 _k2 => ?_)
  refine aw_icmp_eq 1343 dL_law_344 (by decide) (fun c344 => ?_) (fun c344 => absurd (rfl) c344)
  exact law_end (by decide) (by decide)
set_option maxHeartbeats 4000000 in
theorem law_5 {l : Launch} {G : xG} {b : Nat} {xs : Nat → Int32} {h : List va_E} (hF : xF8 G h) (hM : xF9 G h) (hl : h.length = 125) : AW l G yL_law code 4 ret room_1 (xEl G b 6 xs) (fun below args s => lw_Z below args s) 125 28093 349 [(3, .int 0), (2, .ref (G.1 + 88)), (1, .ref (G.1 + 0)), (0, .ref b)] [] h := by
  refine aw_aload_n 2 dL_law_349 rfl rfl ?_
  refine aw_aload_n 3 dL_law_350 rfl rfl ?_
  refine aw_iload_n 0 dL_law_351 rfl rfl ?_
  refine aw_iconst (1) dL_law_352 (by decide) ?_
  refine aw_iadd dL_law_353 ?_
  refine aw_toe 1 (by decide) ?_
  refine aw_sld 1 (rfl) (by decide) (by decide) dL_law_354 ?_
  refine aw_aload_n 3 dL_law_355 rfl rfl ?_
  refine aw_iload_n 0 dL_law_356 rfl rfl ?_
  refine aw_iconst (2) dL_law_357 (by decide) ?_
  refine aw_iadd dL_law_358 ?_
  refine aw_toe 2 (by decide) ?_
  refine aw_sld 2 (rfl) (by decide) (by decide) dL_law_359 ?_
  refine aw_aload_n 3 dL_law_360 rfl rfl ?_
  refine aw_iload_n 0 dL_law_361 rfl rfl ?_
  refine aw_iconst (3) dL_law_362 (by decide) ?_
  refine aw_iadd dL_law_363 ?_
  refine aw_toe 3 (by decide) ?_
  refine aw_sld 3 (rfl) (by decide) (by decide) dL_law_364 ?_
  refine aw_aload_n 3 dL_law_365 rfl rfl ?_
  refine aw_iload_n 0 dL_law_366 rfl rfl ?_
  refine aw_iconst (4) dL_law_367 (by decide) ?_
  refine aw_iadd dL_law_368 ?_
  refine aw_toe 4 (by decide) ?_
  refine aw_sld 4 (rfl) (by decide) (by decide) dL_law_369 ?_
  obtain ⟨rr, hA, hB⟩ := O5 (l := l) (G := G) (a := xs 1) (i := xs 2) (b := xs 3) (k := xs 4) hF hM hl
  refine aw_eV [.int (xs 1), .int (xs 2), .int (xs 3), .int (xs 4)] [] lL_36 vX8_bar mX8_bar dL_law_370 (hA) hF.1 rfl rfl rfl (Nat.le_of_ble_eq_true rfl) (by decide) (by decide) rfl (fun h1 k1 => ?_)
  refine aw_aload_n 1 dL_law_373 rfl rfl ?_
  refine aw_aload_n 3 dL_law_374 rfl rfl ?_
  refine aw_iload_n 0 dL_law_375 rfl rfl ?_
  refine aw_iconst (1) dL_law_376 (by decide) ?_
  refine aw_iadd dL_law_377 ?_
  refine aw_toe 1 (by decide) ?_
  refine aw_sld 1 (rfl) (by decide) (by decide) dL_law_378 ?_
  refine aw_aload_n 3 dL_law_379 rfl rfl ?_
  refine aw_iload_n 0 dL_law_380 rfl rfl ?_
  refine aw_iconst (2) dL_law_381 (by decide) ?_
  refine aw_iadd dL_law_382 ?_
  refine aw_toe 2 (by decide) ?_
  refine aw_sld 2 (rfl) (by decide) (by decide) dL_law_383 ?_
  refine aw_aload_n 3 dL_law_384 rfl rfl ?_
  refine aw_iload_n 0 dL_law_385 rfl rfl ?_
  refine aw_iconst (3) dL_law_386 (by decide) ?_
  refine aw_iadd dL_law_387 ?_
  refine aw_toe 3 (by decide) ?_
  refine aw_sld 3 (rfl) (by decide) (by decide) dL_law_388 ?_
  refine aw_aload_n 3 dL_law_389 rfl rfl ?_
  refine aw_iload_n 0 dL_law_390 rfl rfl ?_
  refine aw_iconst (4) dL_law_391 (by decide) ?_
  refine aw_iadd dL_law_392 ?_
  refine aw_toe 4 (by decide) ?_
  refine aw_sld 4 (rfl) (by decide) (by decide) dL_law_393 ?_
  refine aw_eV [.int (xs 1), .int (xs 2), .int (xs 3), .int (xs 4)] [.int rr] lL_40 vX9_bar mX9_bar dL_law_394 (hB h1 k1) ((k1 88 (by decide) (by decide)).trans hM.1) rfl rfl rfl (Nat.le_of_ble_eq_true rfl) (by decide) (by decide) rfl (fun h2 _k2 => ?_)
  refine aw_icmp_eq 1343 dL_law_397 (by decide) (fun c397 => ?_) (fun c397 => absurd (rfl) c397)
  exact law_end (by decide) (by decide)
set_option maxHeartbeats 4000000 in
theorem law_6 {l : Launch} {G : xG} {b : Nat} {xs : Nat → Int32} {h : List va_E} (hF : xF8 G h) (hM : xF9 G h) (hl : h.length = 125) : AW l G yL_law code 4 ret room_1 (xEl G b 6 xs) (fun below args s => lw_Z below args s) 125 28093 402 [(3, .int 0), (2, .ref (G.1 + 88)), (1, .ref (G.1 + 0)), (0, .ref b)] [] h := by
  refine aw_aload_n 2 dL_law_402 rfl rfl ?_
  refine aw_aload_n 3 dL_law_403 rfl rfl ?_
  refine aw_iload_n 0 dL_law_404 rfl rfl ?_
  refine aw_iconst (1) dL_law_405 (by decide) ?_
  refine aw_iadd dL_law_406 ?_
  refine aw_toe 1 (by decide) ?_
  refine aw_sld 1 (rfl) (by decide) (by decide) dL_law_407 ?_
  refine aw_aload_n 3 dL_law_408 rfl rfl ?_
  refine aw_iload_n 0 dL_law_409 rfl rfl ?_
  refine aw_iconst (2) dL_law_410 (by decide) ?_
  refine aw_iadd dL_law_411 ?_
  refine aw_toe 2 (by decide) ?_
  refine aw_sld 2 (rfl) (by decide) (by decide) dL_law_412 ?_
  refine aw_aload_n 3 dL_law_413 rfl rfl ?_
  refine aw_iload_n 0 dL_law_414 rfl rfl ?_
  refine aw_iconst (3) dL_law_415 (by decide) ?_
  refine aw_iadd dL_law_416 ?_
  refine aw_toe 3 (by decide) ?_
  refine aw_sld 3 (rfl) (by decide) (by decide) dL_law_417 ?_
  refine aw_aload_n 3 dL_law_418 rfl rfl ?_
  refine aw_iload_n 0 dL_law_419 rfl rfl ?_
  refine aw_iconst (4) dL_law_420 (by decide) ?_
  refine aw_iadd dL_law_421 ?_
  refine aw_toe 4 (by decide) ?_
  refine aw_sld 4 (rfl) (by decide) (by decide) dL_law_422 ?_
  obtain ⟨rr, hA, hB⟩ := O6 (l := l) (G := G) (a := xs 1) (i := xs 2) (b := xs 3) (k := xs 4) hF hM hl
  refine aw_eV [.int (xs 1), .int (xs 2), .int (xs 3), .int (xs 4)] [] lL_41 vX8_like mX8_like dL_law_423 (hA) hF.1 rfl rfl rfl (Nat.le_of_ble_eq_true rfl) (by decide) (by decide) rfl (fun h1 k1 => ?_)
  refine aw_aload_n 1 dL_law_426 rfl rfl ?_
  refine aw_aload_n 3 dL_law_427 rfl rfl ?_
  refine aw_iload_n 0 dL_law_428 rfl rfl ?_
  refine aw_iconst (1) dL_law_429 (by decide) ?_
  refine aw_iadd dL_law_430 ?_
  refine aw_toe 1 (by decide) ?_
  refine aw_sld 1 (rfl) (by decide) (by decide) dL_law_431 ?_
  refine aw_aload_n 3 dL_law_432 rfl rfl ?_
  refine aw_iload_n 0 dL_law_433 rfl rfl ?_
  refine aw_iconst (2) dL_law_434 (by decide) ?_
  refine aw_iadd dL_law_435 ?_
  refine aw_toe 2 (by decide) ?_
  refine aw_sld 2 (rfl) (by decide) (by decide) dL_law_436 ?_
  refine aw_aload_n 3 dL_law_437 rfl rfl ?_
  refine aw_iload_n 0 dL_law_438 rfl rfl ?_
  refine aw_iconst (3) dL_law_439 (by decide) ?_
  refine aw_iadd dL_law_440 ?_
  refine aw_toe 3 (by decide) ?_
  refine aw_sld 3 (rfl) (by decide) (by decide) dL_law_441 ?_
  refine aw_aload_n 3 dL_law_442 rfl rfl ?_
  refine aw_iload_n 0 dL_law_443 rfl rfl ?_
  refine aw_iconst (4) dL_law_444 (by decide) ?_
  refine aw_iadd dL_law_445 ?_
  refine aw_toe 4 (by decide) ?_
  refine aw_sld 4 (rfl) (by decide) (by decide) dL_law_446 ?_
  refine aw_eV [.int (xs 1), .int (xs 2), .int (xs 3), .int (xs 4)] [.int rr] lL_44 vX9_like mX9_like dL_law_447 (hB h1 k1) ((k1 88 (by decide) (by decide)).trans hM.1) rfl rfl rfl (Nat.le_of_ble_eq_true rfl) (by decide) (by decide) rfl (fun h2 _k2 => ?_)
  refine aw_icmp_eq 1343 dL_law_450 (by decide) (fun c450 => ?_) (fun c450 => absurd (rfl) c450)
  exact law_end (by decide) (by decide)
set_option maxHeartbeats 4000000 in
theorem law_7 {l : Launch} {G : xG} {b : Nat} {xs : Nat → Int32} {h : List va_E} (hF : xF8 G h) (hM : xF9 G h) (hl : h.length = 125) : AW l G yL_law code 4 ret room_1 (xEl G b 6 xs) (fun below args s => lw_Z below args s) 125 28093 455 [(3, .int 0), (2, .ref (G.1 + 88)), (1, .ref (G.1 + 0)), (0, .ref b)] [] h := by
  refine aw_aload_n 2 dL_law_455 rfl rfl ?_
  refine aw_aload_n 3 dL_law_456 rfl rfl ?_
  refine aw_iload_n 0 dL_law_457 rfl rfl ?_
  refine aw_iconst (1) dL_law_458 (by decide) ?_
  refine aw_iadd dL_law_459 ?_
  refine aw_toe 1 (by decide) ?_
  refine aw_sld 1 (rfl) (by decide) (by decide) dL_law_460 ?_
  refine aw_aload_n 3 dL_law_461 rfl rfl ?_
  refine aw_iload_n 0 dL_law_462 rfl rfl ?_
  refine aw_iconst (2) dL_law_463 (by decide) ?_
  refine aw_iadd dL_law_464 ?_
  refine aw_toe 2 (by decide) ?_
  refine aw_sld 2 (rfl) (by decide) (by decide) dL_law_465 ?_
  obtain ⟨rr, hA, hB⟩ := O7 (l := l) (G := G) (a := xs 1) (b := xs 2) hF hM hl
  refine aw_eV [.int (xs 1), .int (xs 2)] [] lL_45 vX8_join mX8_join dL_law_466 (hA) hF.1 rfl rfl rfl (Nat.le_of_ble_eq_true rfl) (by decide) (by decide) rfl (fun h1 k1 => ?_)
  refine aw_aload_n 1 dL_law_469 rfl rfl ?_
  refine aw_aload_n 3 dL_law_470 rfl rfl ?_
  refine aw_iload_n 0 dL_law_471 rfl rfl ?_
  refine aw_iconst (1) dL_law_472 (by decide) ?_
  refine aw_iadd dL_law_473 ?_
  refine aw_toe 1 (by decide) ?_
  refine aw_sld 1 (rfl) (by decide) (by decide) dL_law_474 ?_
  refine aw_aload_n 3 dL_law_475 rfl rfl ?_
  refine aw_iload_n 0 dL_law_476 rfl rfl ?_
  refine aw_iconst (2) dL_law_477 (by decide) ?_
  refine aw_iadd dL_law_478 ?_
  refine aw_toe 2 (by decide) ?_
  refine aw_sld 2 (rfl) (by decide) (by decide) dL_law_479 ?_
  refine aw_eV [.int (xs 1), .int (xs 2)] [.int rr] lL_48 vX9_join mX9_join dL_law_480 (hB h1 k1) ((k1 88 (by decide) (by decide)).trans hM.1) rfl rfl rfl (Nat.le_of_ble_eq_true rfl) (by decide) (by decide) rfl (fun h2 _k2 => ?_)
  refine aw_icmp_eq 1343 dL_law_483 (by decide) (fun c483 => ?_) (fun c483 => absurd (rfl) c483)
  exact law_end (by decide) (by decide)
set_option maxHeartbeats 4000000 in
theorem law_8 {l : Launch} {G : xG} {b : Nat} {xs : Nat → Int32} {h : List va_E} (hF : xF8 G h) (hM : xF9 G h) (hl : h.length = 125) : AW l G yL_law code 4 ret room_1 (xEl G b 6 xs) (fun below args s => lw_Z below args s) 125 28093 488 [(3, .int 0), (2, .ref (G.1 + 88)), (1, .ref (G.1 + 0)), (0, .ref b)] [] h := by
  refine aw_aload_n 2 dL_law_488 rfl rfl ?_
  refine aw_aload_n 3 dL_law_489 rfl rfl ?_
  refine aw_iload_n 0 dL_law_490 rfl rfl ?_
  refine aw_iconst (1) dL_law_491 (by decide) ?_
  refine aw_iadd dL_law_492 ?_
  refine aw_toe 1 (by decide) ?_
  refine aw_sld 1 (rfl) (by decide) (by decide) dL_law_493 ?_
  refine aw_aload_n 3 dL_law_494 rfl rfl ?_
  refine aw_iload_n 0 dL_law_495 rfl rfl ?_
  refine aw_iconst (2) dL_law_496 (by decide) ?_
  refine aw_iadd dL_law_497 ?_
  refine aw_toe 2 (by decide) ?_
  refine aw_sld 2 (rfl) (by decide) (by decide) dL_law_498 ?_
  refine aw_aload_n 3 dL_law_499 rfl rfl ?_
  refine aw_iload_n 0 dL_law_500 rfl rfl ?_
  refine aw_iconst (3) dL_law_501 (by decide) ?_
  refine aw_iadd dL_law_502 ?_
  refine aw_toe 3 (by decide) ?_
  refine aw_sld 3 (rfl) (by decide) (by decide) dL_law_503 ?_
  obtain ⟨rr, hA, hB⟩ := O8 (l := l) (G := G) (a := xs 1) (i := xs 2) (b := xs 3) hF hM hl
  refine aw_eV [.int (xs 1), .int (xs 2), .int (xs 3)] [] lL_49 vX8_joined mX8_joined dL_law_504 (hA) hF.1 rfl rfl rfl (Nat.le_of_ble_eq_true rfl) (by decide) (by decide) rfl (fun h1 k1 => ?_)
  refine aw_aload_n 1 dL_law_507 rfl rfl ?_
  refine aw_aload_n 3 dL_law_508 rfl rfl ?_
  refine aw_iload_n 0 dL_law_509 rfl rfl ?_
  refine aw_iconst (1) dL_law_510 (by decide) ?_
  refine aw_iadd dL_law_511 ?_
  refine aw_toe 1 (by decide) ?_
  refine aw_sld 1 (rfl) (by decide) (by decide) dL_law_512 ?_
  refine aw_aload_n 3 dL_law_513 rfl rfl ?_
  refine aw_iload_n 0 dL_law_514 rfl rfl ?_
  refine aw_iconst (2) dL_law_515 (by decide) ?_
  refine aw_iadd dL_law_516 ?_
  refine aw_toe 2 (by decide) ?_
  refine aw_sld 2 (rfl) (by decide) (by decide) dL_law_517 ?_
  refine aw_aload_n 3 dL_law_518 rfl rfl ?_
  refine aw_iload_n 0 dL_law_519 rfl rfl ?_
  refine aw_iconst (3) dL_law_520 (by decide) ?_
  refine aw_iadd dL_law_521 ?_
  refine aw_toe 3 (by decide) ?_
  refine aw_sld 3 (rfl) (by decide) (by decide) dL_law_522 ?_
  refine aw_eV [.int (xs 1), .int (xs 2), .int (xs 3)] [.int rr] lL_53 vX9_joined mX9_joined dL_law_523 (hB h1 k1) ((k1 88 (by decide) (by decide)).trans hM.1) rfl rfl rfl (Nat.le_of_ble_eq_true rfl) (by decide) (by decide) rfl (fun h2 _k2 => ?_)
  refine aw_icmp_eq 1343 dL_law_526 (by decide) (fun c526 => ?_) (fun c526 => absurd (rfl) c526)
  exact law_end (by decide) (by decide)
set_option maxHeartbeats 4000000 in
theorem law_9 {l : Launch} {G : xG} {b : Nat} {xs : Nat → Int32} {h : List va_E} (hF : xF8 G h) (hM : xF9 G h) (hl : h.length = 125) : AW l G yL_law code 4 ret room_1 (xEl G b 6 xs) (fun below args s => lw_Z below args s) 125 28093 531 [(3, .int 0), (2, .ref (G.1 + 88)), (1, .ref (G.1 + 0)), (0, .ref b)] [] h := by
  refine aw_aload_n 2 dL_law_531 rfl rfl ?_
  refine aw_aload_n 3 dL_law_532 rfl rfl ?_
  refine aw_iload_n 0 dL_law_533 rfl rfl ?_
  refine aw_iconst (1) dL_law_534 (by decide) ?_
  refine aw_iadd dL_law_535 ?_
  refine aw_toe 1 (by decide) ?_
  refine aw_sld 1 (rfl) (by decide) (by decide) dL_law_536 ?_
  refine aw_aload_n 3 dL_law_537 rfl rfl ?_
  refine aw_iload_n 0 dL_law_538 rfl rfl ?_
  refine aw_iconst (2) dL_law_539 (by decide) ?_
  refine aw_iadd dL_law_540 ?_
  refine aw_toe 2 (by decide) ?_
  refine aw_sld 2 (rfl) (by decide) (by decide) dL_law_541 ?_
  obtain ⟨rr, hA, hB⟩ := O9 (l := l) (G := G) (a := xs 1) (b := xs 2) hF hM hl
  refine aw_eV [.int (xs 1), .int (xs 2)] [] lL_54 vX8_bests mX8_bests dL_law_542 (hA) hF.1 rfl rfl rfl (Nat.le_of_ble_eq_true rfl) (by decide) (by decide) rfl (fun h1 k1 => ?_)
  refine aw_aload_n 1 dL_law_545 rfl rfl ?_
  refine aw_aload_n 3 dL_law_546 rfl rfl ?_
  refine aw_iload_n 0 dL_law_547 rfl rfl ?_
  refine aw_iconst (1) dL_law_548 (by decide) ?_
  refine aw_iadd dL_law_549 ?_
  refine aw_toe 1 (by decide) ?_
  refine aw_sld 1 (rfl) (by decide) (by decide) dL_law_550 ?_
  refine aw_aload_n 3 dL_law_551 rfl rfl ?_
  refine aw_iload_n 0 dL_law_552 rfl rfl ?_
  refine aw_iconst (2) dL_law_553 (by decide) ?_
  refine aw_iadd dL_law_554 ?_
  refine aw_toe 2 (by decide) ?_
  refine aw_sld 2 (rfl) (by decide) (by decide) dL_law_555 ?_
  refine aw_eV [.int (xs 1), .int (xs 2)] [.int rr] lL_57 vX9_bests mX9_bests dL_law_556 (hB h1 k1) ((k1 88 (by decide) (by decide)).trans hM.1) rfl rfl rfl (Nat.le_of_ble_eq_true rfl) (by decide) (by decide) rfl (fun h2 _k2 => ?_)
  refine aw_icmp_eq 1343 dL_law_559 (by decide) (fun c559 => ?_) (fun c559 => absurd (rfl) c559)
  exact law_end (by decide) (by decide)
set_option maxHeartbeats 4000000 in
theorem law_10 {l : Launch} {G : xG} {b : Nat} {xs : Nat → Int32} {h : List va_E} (hF : xF8 G h) (hM : xF9 G h) (hl : h.length = 125) : AW l G yL_law code 4 ret room_1 (xEl G b 6 xs) (fun below args s => lw_Z below args s) 125 28093 564 [(3, .int 0), (2, .ref (G.1 + 88)), (1, .ref (G.1 + 0)), (0, .ref b)] [] h := by
  refine aw_aload_n 2 dL_law_564 rfl rfl ?_
  refine aw_aload_n 3 dL_law_565 rfl rfl ?_
  refine aw_iload_n 0 dL_law_566 rfl rfl ?_
  refine aw_iconst (1) dL_law_567 (by decide) ?_
  refine aw_iadd dL_law_568 ?_
  refine aw_toe 1 (by decide) ?_
  refine aw_sld 1 (rfl) (by decide) (by decide) dL_law_569 ?_
  refine aw_aload_n 3 dL_law_570 rfl rfl ?_
  refine aw_iload_n 0 dL_law_571 rfl rfl ?_
  refine aw_iconst (2) dL_law_572 (by decide) ?_
  refine aw_iadd dL_law_573 ?_
  refine aw_toe 2 (by decide) ?_
  refine aw_sld 2 (rfl) (by decide) (by decide) dL_law_574 ?_
  refine aw_aload_n 3 dL_law_575 rfl rfl ?_
  refine aw_iload_n 0 dL_law_576 rfl rfl ?_
  refine aw_iconst (3) dL_law_577 (by decide) ?_
  refine aw_iadd dL_law_578 ?_
  refine aw_toe 3 (by decide) ?_
  refine aw_sld 3 (rfl) (by decide) (by decide) dL_law_579 ?_
  obtain ⟨rr, hA, hB⟩ := O10 (l := l) (G := G) (a := xs 1) (i := xs 2) (b := xs 3) hF hM hl
  refine aw_eV [.int (xs 1), .int (xs 2), .int (xs 3)] [] lL_58 vX8_sure mX8_sure dL_law_580 (hA) hF.1 rfl rfl rfl (Nat.le_of_ble_eq_true rfl) (by decide) (by decide) rfl (fun h1 k1 => ?_)
  refine aw_aload_n 1 dL_law_583 rfl rfl ?_
  refine aw_aload_n 3 dL_law_584 rfl rfl ?_
  refine aw_iload_n 0 dL_law_585 rfl rfl ?_
  refine aw_iconst (1) dL_law_586 (by decide) ?_
  refine aw_iadd dL_law_587 ?_
  refine aw_toe 1 (by decide) ?_
  refine aw_sld 1 (rfl) (by decide) (by decide) dL_law_588 ?_
  refine aw_aload_n 3 dL_law_589 rfl rfl ?_
  refine aw_iload_n 0 dL_law_590 rfl rfl ?_
  refine aw_iconst (2) dL_law_591 (by decide) ?_
  refine aw_iadd dL_law_592 ?_
  refine aw_toe 2 (by decide) ?_
  refine aw_sld 2 (rfl) (by decide) (by decide) dL_law_593 ?_
  refine aw_aload_n 3 dL_law_594 rfl rfl ?_
  refine aw_iload_n 0 dL_law_595 rfl rfl ?_
  refine aw_iconst (3) dL_law_596 (by decide) ?_
  refine aw_iadd dL_law_597 ?_
  refine aw_toe 3 (by decide) ?_
  refine aw_sld 3 (rfl) (by decide) (by decide) dL_law_598 ?_
  refine aw_eV [.int (xs 1), .int (xs 2), .int (xs 3)] [.int rr] lL_61 vX9_sure mX9_sure dL_law_599 (hB h1 k1) ((k1 88 (by decide) (by decide)).trans hM.1) rfl rfl rfl (Nat.le_of_ble_eq_true rfl) (by decide) (by decide) rfl (fun h2 _k2 => ?_)
  refine aw_icmp_eq 1343 dL_law_602 (by decide) (fun c602 => ?_) (fun c602 => absurd (rfl) c602)
  exact law_end (by decide) (by decide)
set_option maxHeartbeats 4000000 in
theorem law_11 {l : Launch} {G : xG} {b : Nat} {xs : Nat → Int32} {h : List va_E} (hF : xF8 G h) (hM : xF9 G h) (hl : h.length = 125) : AW l G yL_law code 4 ret room_1 (xEl G b 6 xs) (fun below args s => lw_Z below args s) 125 28093 607 [(3, .int 0), (2, .ref (G.1 + 88)), (1, .ref (G.1 + 0)), (0, .ref b)] [] h := by
  refine aw_aload_n 2 dL_law_607 rfl rfl ?_
  refine aw_aload_n 3 dL_law_608 rfl rfl ?_
  refine aw_iload_n 0 dL_law_609 rfl rfl ?_
  refine aw_iconst (1) dL_law_610 (by decide) ?_
  refine aw_iadd dL_law_611 ?_
  refine aw_toe 1 (by decide) ?_
  refine aw_sld 1 (rfl) (by decide) (by decide) dL_law_612 ?_
  refine aw_aload_n 3 dL_law_613 rfl rfl ?_
  refine aw_iload_n 0 dL_law_614 rfl rfl ?_
  refine aw_iconst (2) dL_law_615 (by decide) ?_
  refine aw_iadd dL_law_616 ?_
  refine aw_toe 2 (by decide) ?_
  refine aw_sld 2 (rfl) (by decide) (by decide) dL_law_617 ?_
  refine aw_aload_n 3 dL_law_618 rfl rfl ?_
  refine aw_iload_n 0 dL_law_619 rfl rfl ?_
  refine aw_iconst (3) dL_law_620 (by decide) ?_
  refine aw_iadd dL_law_621 ?_
  refine aw_toe 3 (by decide) ?_
  refine aw_sld 3 (rfl) (by decide) (by decide) dL_law_622 ?_
  refine aw_aload_n 3 dL_law_623 rfl rfl ?_
  refine aw_iload_n 0 dL_law_624 rfl rfl ?_
  refine aw_iconst (4) dL_law_625 (by decide) ?_
  refine aw_iadd dL_law_626 ?_
  refine aw_toe 4 (by decide) ?_
  refine aw_sld 4 (rfl) (by decide) (by decide) dL_law_627 ?_
  obtain ⟨rr, hA, hB⟩ := O11 (l := l) (G := G) (a := xs 1) (i := xs 2) (w := xs 3) (z := xs 4) hF hM hl
  refine aw_eV [.int (xs 1), .int (xs 2), .int (xs 3), .int (xs 4)] [] lL_62 vX8_chain mX8_chain dL_law_628 (hA) hF.1 rfl rfl rfl (Nat.le_of_ble_eq_true rfl) (by decide) (by decide) rfl (fun h1 k1 => ?_)
  refine aw_aload_n 1 dL_law_631 rfl rfl ?_
  refine aw_aload_n 3 dL_law_632 rfl rfl ?_
  refine aw_iload_n 0 dL_law_633 rfl rfl ?_
  refine aw_iconst (1) dL_law_634 (by decide) ?_
  refine aw_iadd dL_law_635 ?_
  refine aw_toe 1 (by decide) ?_
  refine aw_sld 1 (rfl) (by decide) (by decide) dL_law_636 ?_
  refine aw_aload_n 3 dL_law_637 rfl rfl ?_
  refine aw_iload_n 0 dL_law_638 rfl rfl ?_
  refine aw_iconst (2) dL_law_639 (by decide) ?_
  refine aw_iadd dL_law_640 ?_
  refine aw_toe 2 (by decide) ?_
  refine aw_sld 2 (rfl) (by decide) (by decide) dL_law_641 ?_
  refine aw_aload_n 3 dL_law_642 rfl rfl ?_
  refine aw_iload_n 0 dL_law_643 rfl rfl ?_
  refine aw_iconst (3) dL_law_644 (by decide) ?_
  refine aw_iadd dL_law_645 ?_
  refine aw_toe 3 (by decide) ?_
  refine aw_sld 3 (rfl) (by decide) (by decide) dL_law_646 ?_
  refine aw_aload_n 3 dL_law_647 rfl rfl ?_
  refine aw_iload_n 0 dL_law_648 rfl rfl ?_
  refine aw_iconst (4) dL_law_649 (by decide) ?_
  refine aw_iadd dL_law_650 ?_
  refine aw_toe 4 (by decide) ?_
  refine aw_sld 4 (rfl) (by decide) (by decide) dL_law_651 ?_
  refine aw_eV [.int (xs 1), .int (xs 2), .int (xs 3), .int (xs 4)] [.int rr] lL_65 vX9_chain mX9_chain dL_law_652 (hB h1 k1) ((k1 88 (by decide) (by decide)).trans hM.1) rfl rfl rfl (Nat.le_of_ble_eq_true rfl) (by decide) (by decide) rfl (fun h2 _k2 => ?_)
  refine aw_icmp_eq 1343 dL_law_655 (by decide) (fun c655 => ?_) (fun c655 => absurd (rfl) c655)
  exact law_end (by decide) (by decide)
set_option maxHeartbeats 4000000 in
theorem law_12 {l : Launch} {G : xG} {b : Nat} {xs : Nat → Int32} {h : List va_E} (hF : xF8 G h) (hM : xF9 G h) (hl : h.length = 125) : AW l G yL_law code 4 ret room_1 (xEl G b 6 xs) (fun below args s => lw_Z below args s) 125 28093 660 [(3, .int 0), (2, .ref (G.1 + 88)), (1, .ref (G.1 + 0)), (0, .ref b)] [] h := by
  refine aw_aload_n 2 dL_law_660 rfl rfl ?_
  refine aw_aload_n 3 dL_law_661 rfl rfl ?_
  refine aw_iload_n 0 dL_law_662 rfl rfl ?_
  refine aw_iconst (1) dL_law_663 (by decide) ?_
  refine aw_iadd dL_law_664 ?_
  refine aw_toe 1 (by decide) ?_
  refine aw_sld 1 (rfl) (by decide) (by decide) dL_law_665 ?_
  refine aw_aload_n 3 dL_law_666 rfl rfl ?_
  refine aw_iload_n 0 dL_law_667 rfl rfl ?_
  refine aw_iconst (2) dL_law_668 (by decide) ?_
  refine aw_iadd dL_law_669 ?_
  refine aw_toe 2 (by decide) ?_
  refine aw_sld 2 (rfl) (by decide) (by decide) dL_law_670 ?_
  refine aw_aload_n 3 dL_law_671 rfl rfl ?_
  refine aw_iload_n 0 dL_law_672 rfl rfl ?_
  refine aw_iconst (3) dL_law_673 (by decide) ?_
  refine aw_iadd dL_law_674 ?_
  refine aw_toe 3 (by decide) ?_
  refine aw_sld 3 (rfl) (by decide) (by decide) dL_law_675 ?_
  obtain ⟨rr, hA, hB⟩ := O12 (l := l) (G := G) (a := xs 1) (b := xs 2) (k := xs 3) hF hM hl
  refine aw_eV [.int (xs 1), .int (xs 2), .int (xs 3)] [] lL_66 vX8_copied mX8_copied dL_law_676 (hA) hF.1 rfl rfl rfl (Nat.le_of_ble_eq_true rfl) (by decide) (by decide) rfl (fun h1 k1 => ?_)
  refine aw_aload_n 1 dL_law_679 rfl rfl ?_
  refine aw_aload_n 3 dL_law_680 rfl rfl ?_
  refine aw_iload_n 0 dL_law_681 rfl rfl ?_
  refine aw_iconst (1) dL_law_682 (by decide) ?_
  refine aw_iadd dL_law_683 ?_
  refine aw_toe 1 (by decide) ?_
  refine aw_sld 1 (rfl) (by decide) (by decide) dL_law_684 ?_
  refine aw_aload_n 3 dL_law_685 rfl rfl ?_
  refine aw_iload_n 0 dL_law_686 rfl rfl ?_
  refine aw_iconst (2) dL_law_687 (by decide) ?_
  refine aw_iadd dL_law_688 ?_
  refine aw_toe 2 (by decide) ?_
  refine aw_sld 2 (rfl) (by decide) (by decide) dL_law_689 ?_
  refine aw_aload_n 3 dL_law_690 rfl rfl ?_
  refine aw_iload_n 0 dL_law_691 rfl rfl ?_
  refine aw_iconst (3) dL_law_692 (by decide) ?_
  refine aw_iadd dL_law_693 ?_
  refine aw_toe 3 (by decide) ?_
  refine aw_sld 3 (rfl) (by decide) (by decide) dL_law_694 ?_
  refine aw_eV [.int (xs 1), .int (xs 2), .int (xs 3)] [.int rr] lL_69 vX9_copied mX9_copied dL_law_695 (hB h1 k1) ((k1 88 (by decide) (by decide)).trans hM.1) rfl rfl rfl (Nat.le_of_ble_eq_true rfl) (by decide) (by decide) rfl (fun h2 _k2 => ?_)
  refine aw_icmp_eq 1343 dL_law_698 (by decide) (fun c698 => ?_) (fun c698 => absurd (rfl) c698)
  exact law_end (by decide) (by decide)
set_option maxHeartbeats 4000000 in
theorem law_13 {l : Launch} {G : xG} {b : Nat} {xs : Nat → Int32} {h : List va_E} (hF : xF8 G h) (hM : xF9 G h) (hl : h.length = 125) : AW l G yL_law code 4 ret room_1 (xEl G b 6 xs) (fun below args s => lw_Z below args s) 125 28093 703 [(3, .int 0), (2, .ref (G.1 + 88)), (1, .ref (G.1 + 0)), (0, .ref b)] [] h := by
  refine aw_aload_n 2 dL_law_703 rfl rfl ?_
  refine aw_aload_n 3 dL_law_704 rfl rfl ?_
  refine aw_iload_n 0 dL_law_705 rfl rfl ?_
  refine aw_iconst (1) dL_law_706 (by decide) ?_
  refine aw_iadd dL_law_707 ?_
  refine aw_toe 1 (by decide) ?_
  refine aw_sld 1 (rfl) (by decide) (by decide) dL_law_708 ?_
  refine aw_aload_n 3 dL_law_709 rfl rfl ?_
  refine aw_iload_n 0 dL_law_710 rfl rfl ?_
  refine aw_iconst (2) dL_law_711 (by decide) ?_
  refine aw_iadd dL_law_712 ?_
  refine aw_toe 2 (by decide) ?_
  refine aw_sld 2 (rfl) (by decide) (by decide) dL_law_713 ?_
  refine aw_aload_n 3 dL_law_714 rfl rfl ?_
  refine aw_iload_n 0 dL_law_715 rfl rfl ?_
  refine aw_iconst (3) dL_law_716 (by decide) ?_
  refine aw_iadd dL_law_717 ?_
  refine aw_toe 3 (by decide) ?_
  refine aw_sld 3 (rfl) (by decide) (by decide) dL_law_718 ?_
  refine aw_aload_n 3 dL_law_719 rfl rfl ?_
  refine aw_iload_n 0 dL_law_720 rfl rfl ?_
  refine aw_iconst (4) dL_law_721 (by decide) ?_
  refine aw_iadd dL_law_722 ?_
  refine aw_toe 4 (by decide) ?_
  refine aw_sld 4 (rfl) (by decide) (by decide) dL_law_723 ?_
  obtain ⟨rr, hA, hB⟩ := O13 (l := l) (G := G) (t := xs 1) (p := xs 2) (d := xs 3) (k := xs 4) hF hM hl
  refine aw_eV [.int (xs 1), .int (xs 2), .int (xs 3), .int (xs 4)] [] lL_70 vX8_sight mX8_sight dL_law_724 (hA) hF.1 rfl rfl rfl (Nat.le_of_ble_eq_true rfl) (by decide) (by decide) rfl (fun h1 k1 => ?_)
  refine aw_aload_n 1 dL_law_727 rfl rfl ?_
  refine aw_aload_n 3 dL_law_728 rfl rfl ?_
  refine aw_iload_n 0 dL_law_729 rfl rfl ?_
  refine aw_iconst (1) dL_law_730 (by decide) ?_
  refine aw_iadd dL_law_731 ?_
  refine aw_toe 1 (by decide) ?_
  refine aw_sld 1 (rfl) (by decide) (by decide) dL_law_732 ?_
  refine aw_aload_n 3 dL_law_733 rfl rfl ?_
  refine aw_iload_n 0 dL_law_734 rfl rfl ?_
  refine aw_iconst (2) dL_law_735 (by decide) ?_
  refine aw_iadd dL_law_736 ?_
  refine aw_toe 2 (by decide) ?_
  refine aw_sld 2 (rfl) (by decide) (by decide) dL_law_737 ?_
  refine aw_aload_n 3 dL_law_738 rfl rfl ?_
  refine aw_iload_n 0 dL_law_739 rfl rfl ?_
  refine aw_iconst (3) dL_law_740 (by decide) ?_
  refine aw_iadd dL_law_741 ?_
  refine aw_toe 3 (by decide) ?_
  refine aw_sld 3 (rfl) (by decide) (by decide) dL_law_742 ?_
  refine aw_aload_n 3 dL_law_743 rfl rfl ?_
  refine aw_iload_n 0 dL_law_744 rfl rfl ?_
  refine aw_iconst (4) dL_law_745 (by decide) ?_
  refine aw_iadd dL_law_746 ?_
  refine aw_toe 4 (by decide) ?_
  refine aw_sld 4 (rfl) (by decide) (by decide) dL_law_747 ?_
  refine aw_eV [.int (xs 1), .int (xs 2), .int (xs 3), .int (xs 4)] [.int rr] lL_73 vX9_sight mX9_sight dL_law_748 (hB h1 k1) ((k1 88 (by decide) (by decide)).trans hM.1) rfl rfl rfl (Nat.le_of_ble_eq_true rfl) (by decide) (by decide) rfl (fun h2 _k2 => ?_)
  refine aw_icmp_eq 1343 dL_law_751 (by decide) (fun c751 => ?_) (fun c751 => absurd (rfl) c751)
  exact law_end (by decide) (by decide)
set_option maxHeartbeats 4000000 in
theorem law_14 {l : Launch} {G : xG} {b : Nat} {xs : Nat → Int32} {h : List va_E} (hF : xF8 G h) (hM : xF9 G h) (hl : h.length = 125) : AW l G yL_law code 4 ret room_1 (xEl G b 6 xs) (fun below args s => lw_Z below args s) 125 28093 756 [(3, .int 0), (2, .ref (G.1 + 88)), (1, .ref (G.1 + 0)), (0, .ref b)] [] h := by
  refine aw_aload_n 2 dL_law_756 rfl rfl ?_
  refine aw_aload_n 3 dL_law_757 rfl rfl ?_
  refine aw_iload_n 0 dL_law_758 rfl rfl ?_
  refine aw_iconst (1) dL_law_759 (by decide) ?_
  refine aw_iadd dL_law_760 ?_
  refine aw_toe 1 (by decide) ?_
  refine aw_sld 1 (rfl) (by decide) (by decide) dL_law_761 ?_
  refine aw_aload_n 3 dL_law_762 rfl rfl ?_
  refine aw_iload_n 0 dL_law_763 rfl rfl ?_
  refine aw_iconst (2) dL_law_764 (by decide) ?_
  refine aw_iadd dL_law_765 ?_
  refine aw_toe 2 (by decide) ?_
  refine aw_sld 2 (rfl) (by decide) (by decide) dL_law_766 ?_
  refine aw_aload_n 3 dL_law_767 rfl rfl ?_
  refine aw_iload_n 0 dL_law_768 rfl rfl ?_
  refine aw_iconst (3) dL_law_769 (by decide) ?_
  refine aw_iadd dL_law_770 ?_
  refine aw_toe 3 (by decide) ?_
  refine aw_sld 3 (rfl) (by decide) (by decide) dL_law_771 ?_
  refine aw_aload_n 3 dL_law_772 rfl rfl ?_
  refine aw_iload_n 0 dL_law_773 rfl rfl ?_
  refine aw_iconst (4) dL_law_774 (by decide) ?_
  refine aw_iadd dL_law_775 ?_
  refine aw_toe 4 (by decide) ?_
  refine aw_sld 4 (rfl) (by decide) (by decide) dL_law_776 ?_
  refine aw_aload_n 3 dL_law_777 rfl rfl ?_
  refine aw_iload_n 0 dL_law_778 rfl rfl ?_
  refine aw_iconst (5) dL_law_779 (by decide) ?_
  refine aw_iadd dL_law_780 ?_
  refine aw_toe 5 (by decide) ?_
  refine aw_sld 5 (rfl) (by decide) (by decide) dL_law_781 ?_
  obtain ⟨rr, hA, hB⟩ := O14 (l := l) (G := G) (t := xs 1) (p := xs 2) (d := xs 3) (s := xs 4) (k := xs 5) hF hM hl
  refine aw_eV [.int (xs 1), .int (xs 2), .int (xs 3), .int (xs 4), .int (xs 5)] [] lL_74 vX8_move mX8_move dL_law_782 (hA) hF.1 rfl rfl rfl (Nat.le_of_ble_eq_true rfl) (by decide) (by decide) rfl (fun h1 k1 => ?_)
  refine aw_aload_n 1 dL_law_785 rfl rfl ?_
  refine aw_aload_n 3 dL_law_786 rfl rfl ?_
  refine aw_iload_n 0 dL_law_787 rfl rfl ?_
  refine aw_iconst (1) dL_law_788 (by decide) ?_
  refine aw_iadd dL_law_789 ?_
  refine aw_toe 1 (by decide) ?_
  refine aw_sld 1 (rfl) (by decide) (by decide) dL_law_790 ?_
  refine aw_aload_n 3 dL_law_791 rfl rfl ?_
  refine aw_iload_n 0 dL_law_792 rfl rfl ?_
  refine aw_iconst (2) dL_law_793 (by decide) ?_
  refine aw_iadd dL_law_794 ?_
  refine aw_toe 2 (by decide) ?_
  refine aw_sld 2 (rfl) (by decide) (by decide) dL_law_795 ?_
  refine aw_aload_n 3 dL_law_796 rfl rfl ?_
  refine aw_iload_n 0 dL_law_797 rfl rfl ?_
  refine aw_iconst (3) dL_law_798 (by decide) ?_
  refine aw_iadd dL_law_799 ?_
  refine aw_toe 3 (by decide) ?_
  refine aw_sld 3 (rfl) (by decide) (by decide) dL_law_800 ?_
  refine aw_aload_n 3 dL_law_801 rfl rfl ?_
  refine aw_iload_n 0 dL_law_802 rfl rfl ?_
  refine aw_iconst (4) dL_law_803 (by decide) ?_
  refine aw_iadd dL_law_804 ?_
  refine aw_toe 4 (by decide) ?_
  refine aw_sld 4 (rfl) (by decide) (by decide) dL_law_805 ?_
  refine aw_aload_n 3 dL_law_806 rfl rfl ?_
  refine aw_iload_n 0 dL_law_807 rfl rfl ?_
  refine aw_iconst (5) dL_law_808 (by decide) ?_
  refine aw_iadd dL_law_809 ?_
  refine aw_toe 5 (by decide) ?_
  refine aw_sld 5 (rfl) (by decide) (by decide) dL_law_810 ?_
  refine aw_eV [.int (xs 1), .int (xs 2), .int (xs 3), .int (xs 4), .int (xs 5)] [.int rr] lL_77 vX9_move mX9_move dL_law_811 (hB h1 k1) ((k1 88 (by decide) (by decide)).trans hM.1) rfl rfl rfl (Nat.le_of_ble_eq_true rfl) (by decide) (by decide) rfl (fun h2 _k2 => ?_)
  refine aw_icmp_eq 1343 dL_law_814 (by decide) (fun c814 => ?_) (fun c814 => absurd (rfl) c814)
  exact law_end (by decide) (by decide)
set_option maxHeartbeats 4000000 in
theorem law_15 {l : Launch} {G : xG} {b : Nat} {xs : Nat → Int32} {h : List va_E} (hF : xF8 G h) (hM : xF9 G h) (hl : h.length = 125) : AW l G yL_law code 4 ret room_1 (xEl G b 6 xs) (fun below args s => lw_Z below args s) 125 28093 819 [(3, .int 0), (2, .ref (G.1 + 88)), (1, .ref (G.1 + 0)), (0, .ref b)] [] h := by
  refine aw_aload_n 2 dL_law_819 rfl rfl ?_
  refine aw_aload_n 3 dL_law_820 rfl rfl ?_
  refine aw_iload_n 0 dL_law_821 rfl rfl ?_
  refine aw_iconst (1) dL_law_822 (by decide) ?_
  refine aw_iadd dL_law_823 ?_
  refine aw_toe 1 (by decide) ?_
  refine aw_sld 1 (rfl) (by decide) (by decide) dL_law_824 ?_
  refine aw_if_eq 832 dL_law_825 (by decide) (fun c825 => ?_) (fun c825 => ?_)
  · refine aw_iconst (0) dL_law_832 (by decide) ?_
    refine aw_aload_n 3 dL_law_833 rfl rfl ?_
    refine aw_iload_n 0 dL_law_834 rfl rfl ?_
    refine aw_iconst (2) dL_law_835 (by decide) ?_
    refine aw_iadd dL_law_836 ?_
    refine aw_toe 2 (by decide) ?_
    refine aw_sld 2 (rfl) (by decide) (by decide) dL_law_837 ?_
    refine aw_aload_n 3 dL_law_838 rfl rfl ?_
    refine aw_iload_n 0 dL_law_839 rfl rfl ?_
    refine aw_iconst (3) dL_law_840 (by decide) ?_
    refine aw_iadd dL_law_841 ?_
    refine aw_toe 3 (by decide) ?_
    refine aw_sld 3 (rfl) (by decide) (by decide) dL_law_842 ?_
    obtain ⟨rr, hA, hB⟩ := O15_0 (l := l) (G := G) (n := xs 2) (k := xs 3) hF hM hl
    refine aw_eV [.int 0, .int (xs 2), .int (xs 3)] [] lL_78 vX8_withdraw mX8_withdraw dL_law_843 (hA) hF.1 rfl rfl rfl (Nat.le_of_ble_eq_true rfl) (by decide) (by decide) rfl (fun h1 k1 => ?_)
    refine aw_aload_n 1 dL_law_846 rfl rfl ?_
    refine aw_aload_n 3 dL_law_847 rfl rfl ?_
    refine aw_iload_n 0 dL_law_848 rfl rfl ?_
    refine aw_iconst (1) dL_law_849 (by decide) ?_
    refine aw_iadd dL_law_850 ?_
    refine aw_toe 1 (by decide) ?_
    refine aw_sld 1 (rfl) (by decide) (by decide) dL_law_851 ?_
    refine aw_if_eq 859 dL_law_852 (by decide) (fun c852 => ?_) (fun c852 => absurd (c825) c852)
    refine aw_iconst (0) dL_law_859 (by decide) ?_
    refine aw_aload_n 3 dL_law_860 rfl rfl ?_
    refine aw_iload_n 0 dL_law_861 rfl rfl ?_
    refine aw_iconst (2) dL_law_862 (by decide) ?_
    refine aw_iadd dL_law_863 ?_
    refine aw_toe 2 (by decide) ?_
    refine aw_sld 2 (rfl) (by decide) (by decide) dL_law_864 ?_
    refine aw_aload_n 3 dL_law_865 rfl rfl ?_
    refine aw_iload_n 0 dL_law_866 rfl rfl ?_
    refine aw_iconst (3) dL_law_867 (by decide) ?_
    refine aw_iadd dL_law_868 ?_
    refine aw_toe 3 (by decide) ?_
    refine aw_sld 3 (rfl) (by decide) (by decide) dL_law_869 ?_
    refine aw_eV [.int 0, .int (xs 2), .int (xs 3)] [.int rr] lL_82 vX9_withdraw mX9_withdraw dL_law_870 (hB h1 k1) ((k1 88 (by decide) (by decide)).trans hM.1) rfl rfl rfl (Nat.le_of_ble_eq_true rfl) (by decide) (by decide) rfl (fun h2 _k2 => ?_)
    refine aw_icmp_eq 1343 dL_law_873 (by decide) (fun c873 => ?_) (fun c873 => absurd (rfl) c873)
    exact law_end (by decide) (by decide)
  · refine aw_iconst (1) dL_law_828 (by decide) ?_
    refine aw_goto 833 dL_law_829 (by decide) ?_
    refine aw_aload_n 3 dL_law_833 rfl rfl ?_
    refine aw_iload_n 0 dL_law_834 rfl rfl ?_
    refine aw_iconst (2) dL_law_835 (by decide) ?_
    refine aw_iadd dL_law_836 ?_
    refine aw_toe 2 (by decide) ?_
    refine aw_sld 2 (rfl) (by decide) (by decide) dL_law_837 ?_
    refine aw_aload_n 3 dL_law_838 rfl rfl ?_
    refine aw_iload_n 0 dL_law_839 rfl rfl ?_
    refine aw_iconst (3) dL_law_840 (by decide) ?_
    refine aw_iadd dL_law_841 ?_
    refine aw_toe 3 (by decide) ?_
    refine aw_sld 3 (rfl) (by decide) (by decide) dL_law_842 ?_
    obtain ⟨rr, hA, hB⟩ := O15_1 (l := l) (G := G) (n := xs 2) (k := xs 3) hF hM hl
    refine aw_eV [.int 1, .int (xs 2), .int (xs 3)] [] lL_78 vX8_withdraw mX8_withdraw dL_law_843 (hA) hF.1 rfl rfl rfl (Nat.le_of_ble_eq_true rfl) (by decide) (by decide) rfl (fun h1 k1 => ?_)
    refine aw_aload_n 1 dL_law_846 rfl rfl ?_
    refine aw_aload_n 3 dL_law_847 rfl rfl ?_
    refine aw_iload_n 0 dL_law_848 rfl rfl ?_
    refine aw_iconst (1) dL_law_849 (by decide) ?_
    refine aw_iadd dL_law_850 ?_
    refine aw_toe 1 (by decide) ?_
    refine aw_sld 1 (rfl) (by decide) (by decide) dL_law_851 ?_
    refine aw_if_eq 859 dL_law_852 (by decide) (fun c852 => absurd c852 (c825)) (fun c852 => ?_)
    refine aw_iconst (1) dL_law_855 (by decide) ?_
    refine aw_goto 860 dL_law_856 (by decide) ?_
    refine aw_aload_n 3 dL_law_860 rfl rfl ?_
    refine aw_iload_n 0 dL_law_861 rfl rfl ?_
    refine aw_iconst (2) dL_law_862 (by decide) ?_
    refine aw_iadd dL_law_863 ?_
    refine aw_toe 2 (by decide) ?_
    refine aw_sld 2 (rfl) (by decide) (by decide) dL_law_864 ?_
    refine aw_aload_n 3 dL_law_865 rfl rfl ?_
    refine aw_iload_n 0 dL_law_866 rfl rfl ?_
    refine aw_iconst (3) dL_law_867 (by decide) ?_
    refine aw_iadd dL_law_868 ?_
    refine aw_toe 3 (by decide) ?_
    refine aw_sld 3 (rfl) (by decide) (by decide) dL_law_869 ?_
    refine aw_eV [.int 1, .int (xs 2), .int (xs 3)] [.int rr] lL_82 vX9_withdraw mX9_withdraw dL_law_870 (hB h1 k1) ((k1 88 (by decide) (by decide)).trans hM.1) rfl rfl rfl (Nat.le_of_ble_eq_true rfl) (by decide) (by decide) rfl (fun h2 _k2 => ?_)
    refine aw_icmp_eq 1343 dL_law_873 (by decide) (fun c873 => ?_) (fun c873 => absurd (rfl) c873)
    exact law_end (by decide) (by decide)
set_option maxHeartbeats 4000000 in
theorem law_16 {l : Launch} {G : xG} {b : Nat} {xs : Nat → Int32} {h : List va_E} (hF : xF8 G h) (hM : xF9 G h) (hl : h.length = 125) : AW l G yL_law code 4 ret room_1 (xEl G b 6 xs) (fun below args s => lw_Z below args s) 125 28093 878 [(3, .int 0), (2, .ref (G.1 + 88)), (1, .ref (G.1 + 0)), (0, .ref b)] [] h := by
  refine aw_aload_n 2 dL_law_878 rfl rfl ?_
  refine aw_aload_n 3 dL_law_879 rfl rfl ?_
  refine aw_iload_n 0 dL_law_880 rfl rfl ?_
  refine aw_iconst (1) dL_law_881 (by decide) ?_
  refine aw_iadd dL_law_882 ?_
  refine aw_toe 1 (by decide) ?_
  refine aw_sld 1 (rfl) (by decide) (by decide) dL_law_883 ?_
  refine aw_aload_n 3 dL_law_884 rfl rfl ?_
  refine aw_iload_n 0 dL_law_885 rfl rfl ?_
  refine aw_iconst (2) dL_law_886 (by decide) ?_
  refine aw_iadd dL_law_887 ?_
  refine aw_toe 2 (by decide) ?_
  refine aw_sld 2 (rfl) (by decide) (by decide) dL_law_888 ?_
  refine aw_aload_n 3 dL_law_889 rfl rfl ?_
  refine aw_iload_n 0 dL_law_890 rfl rfl ?_
  refine aw_iconst (3) dL_law_891 (by decide) ?_
  refine aw_iadd dL_law_892 ?_
  refine aw_toe 3 (by decide) ?_
  refine aw_sld 3 (rfl) (by decide) (by decide) dL_law_893 ?_
  obtain ⟨rr, hA, hB⟩ := O16 (l := l) (G := G) (t := xs 1) (d := xs 2) (k := xs 3) hF hM hl
  refine aw_eV [.int (xs 1), .int (xs 2), .int (xs 3)] [] lL_83 vX8_where mX8_where dL_law_894 (hA) hF.1 rfl rfl rfl (Nat.le_of_ble_eq_true rfl) (by decide) (by decide) rfl (fun h1 k1 => ?_)
  refine aw_aload_n 1 dL_law_897 rfl rfl ?_
  refine aw_aload_n 3 dL_law_898 rfl rfl ?_
  refine aw_iload_n 0 dL_law_899 rfl rfl ?_
  refine aw_iconst (1) dL_law_900 (by decide) ?_
  refine aw_iadd dL_law_901 ?_
  refine aw_toe 1 (by decide) ?_
  refine aw_sld 1 (rfl) (by decide) (by decide) dL_law_902 ?_
  refine aw_aload_n 3 dL_law_903 rfl rfl ?_
  refine aw_iload_n 0 dL_law_904 rfl rfl ?_
  refine aw_iconst (2) dL_law_905 (by decide) ?_
  refine aw_iadd dL_law_906 ?_
  refine aw_toe 2 (by decide) ?_
  refine aw_sld 2 (rfl) (by decide) (by decide) dL_law_907 ?_
  refine aw_aload_n 3 dL_law_908 rfl rfl ?_
  refine aw_iload_n 0 dL_law_909 rfl rfl ?_
  refine aw_iconst (3) dL_law_910 (by decide) ?_
  refine aw_iadd dL_law_911 ?_
  refine aw_toe 3 (by decide) ?_
  refine aw_sld 3 (rfl) (by decide) (by decide) dL_law_912 ?_
  refine aw_eV [.int (xs 1), .int (xs 2), .int (xs 3)] [.int rr] lL_86 vX9_where mX9_where dL_law_913 (hB h1 k1) ((k1 88 (by decide) (by decide)).trans hM.1) rfl rfl rfl (Nat.le_of_ble_eq_true rfl) (by decide) (by decide) rfl (fun h2 _k2 => ?_)
  refine aw_icmp_eq 1343 dL_law_916 (by decide) (fun c916 => ?_) (fun c916 => absurd (rfl) c916)
  exact law_end (by decide) (by decide)
set_option maxHeartbeats 4000000 in
theorem law_17 {l : Launch} {G : xG} {b : Nat} {xs : Nat → Int32} {h : List va_E} (hF : xF8 G h) (hM : xF9 G h) (hl : h.length = 125) : AW l G yL_law code 4 ret room_1 (xEl G b 6 xs) (fun below args s => lw_Z below args s) 125 28093 921 [(3, .int 0), (2, .ref (G.1 + 88)), (1, .ref (G.1 + 0)), (0, .ref b)] [] h := by
  refine aw_aload_n 2 dL_law_921 rfl rfl ?_
  refine aw_aload_n 3 dL_law_922 rfl rfl ?_
  refine aw_iload_n 0 dL_law_923 rfl rfl ?_
  refine aw_iconst (1) dL_law_924 (by decide) ?_
  refine aw_iadd dL_law_925 ?_
  refine aw_toe 1 (by decide) ?_
  refine aw_sld 1 (rfl) (by decide) (by decide) dL_law_926 ?_
  refine aw_aload_n 3 dL_law_927 rfl rfl ?_
  refine aw_iload_n 0 dL_law_928 rfl rfl ?_
  refine aw_iconst (2) dL_law_929 (by decide) ?_
  refine aw_iadd dL_law_930 ?_
  refine aw_toe 2 (by decide) ?_
  refine aw_sld 2 (rfl) (by decide) (by decide) dL_law_931 ?_
  obtain ⟨rr, hA, hB⟩ := O17 (l := l) (G := G) (t := xs 1) (k := xs 2) hF hM hl
  refine aw_eV [.int (xs 1), .int (xs 2)] [] lL_87 vX8_quarrels mX8_quarrels dL_law_932 (hA) hF.1 rfl rfl rfl (Nat.le_of_ble_eq_true rfl) (by decide) (by decide) rfl (fun h1 k1 => ?_)
  refine aw_aload_n 1 dL_law_935 rfl rfl ?_
  refine aw_aload_n 3 dL_law_936 rfl rfl ?_
  refine aw_iload_n 0 dL_law_937 rfl rfl ?_
  refine aw_iconst (1) dL_law_938 (by decide) ?_
  refine aw_iadd dL_law_939 ?_
  refine aw_toe 1 (by decide) ?_
  refine aw_sld 1 (rfl) (by decide) (by decide) dL_law_940 ?_
  refine aw_aload_n 3 dL_law_941 rfl rfl ?_
  refine aw_iload_n 0 dL_law_942 rfl rfl ?_
  refine aw_iconst (2) dL_law_943 (by decide) ?_
  refine aw_iadd dL_law_944 ?_
  refine aw_toe 2 (by decide) ?_
  refine aw_sld 2 (rfl) (by decide) (by decide) dL_law_945 ?_
  refine aw_eV [.int (xs 1), .int (xs 2)] [.int rr] lL_90 vX9_quarrels mX9_quarrels dL_law_946 (hB h1 k1) ((k1 88 (by decide) (by decide)).trans hM.1) rfl rfl rfl (Nat.le_of_ble_eq_true rfl) (by decide) (by decide) rfl (fun h2 _k2 => ?_)
  refine aw_icmp_eq 1343 dL_law_949 (by decide) (fun c949 => ?_) (fun c949 => absurd (rfl) c949)
  exact law_end (by decide) (by decide)
set_option maxHeartbeats 4000000 in
theorem law_18 {l : Launch} {G : xG} {b : Nat} {xs : Nat → Int32} {h : List va_E} (hF : xF8 G h) (hM : xF9 G h) (hl : h.length = 125) : AW l G yL_law code 4 ret room_1 (xEl G b 6 xs) (fun below args s => lw_Z below args s) 125 28093 954 [(3, .int 0), (2, .ref (G.1 + 88)), (1, .ref (G.1 + 0)), (0, .ref b)] [] h := by
  refine aw_aload_n 2 dL_law_954 rfl rfl ?_
  refine aw_aload_n 3 dL_law_955 rfl rfl ?_
  refine aw_iload_n 0 dL_law_956 rfl rfl ?_
  refine aw_iconst (1) dL_law_957 (by decide) ?_
  refine aw_iadd dL_law_958 ?_
  refine aw_toe 1 (by decide) ?_
  refine aw_sld 1 (rfl) (by decide) (by decide) dL_law_959 ?_
  refine aw_aload_n 3 dL_law_960 rfl rfl ?_
  refine aw_iload_n 0 dL_law_961 rfl rfl ?_
  refine aw_iconst (2) dL_law_962 (by decide) ?_
  refine aw_iadd dL_law_963 ?_
  refine aw_toe 2 (by decide) ?_
  refine aw_sld 2 (rfl) (by decide) (by decide) dL_law_964 ?_
  refine aw_aload_n 3 dL_law_965 rfl rfl ?_
  refine aw_iload_n 0 dL_law_966 rfl rfl ?_
  refine aw_iconst (3) dL_law_967 (by decide) ?_
  refine aw_iadd dL_law_968 ?_
  refine aw_toe 3 (by decide) ?_
  refine aw_sld 3 (rfl) (by decide) (by decide) dL_law_969 ?_
  refine aw_aload_n 3 dL_law_970 rfl rfl ?_
  refine aw_iload_n 0 dL_law_971 rfl rfl ?_
  refine aw_iconst (4) dL_law_972 (by decide) ?_
  refine aw_iadd dL_law_973 ?_
  refine aw_toe 4 (by decide) ?_
  refine aw_sld 4 (rfl) (by decide) (by decide) dL_law_974 ?_
  obtain ⟨rr, hA, hB⟩ := O18 (l := l) (G := G) (t := xs 1) (d := xs 2) (k := xs 3) (w := xs 4) hF hM hl
  refine aw_eV [.int (xs 1), .int (xs 2), .int (xs 3), .int (xs 4)] [] lL_91 vX8_holds mX8_holds dL_law_975 (hA) hF.1 rfl rfl rfl (Nat.le_of_ble_eq_true rfl) (by decide) (by decide) rfl (fun h1 k1 => ?_)
  refine aw_aload_n 1 dL_law_978 rfl rfl ?_
  refine aw_aload_n 3 dL_law_979 rfl rfl ?_
  refine aw_iload_n 0 dL_law_980 rfl rfl ?_
  refine aw_iconst (1) dL_law_981 (by decide) ?_
  refine aw_iadd dL_law_982 ?_
  refine aw_toe 1 (by decide) ?_
  refine aw_sld 1 (rfl) (by decide) (by decide) dL_law_983 ?_
  refine aw_aload_n 3 dL_law_984 rfl rfl ?_
  refine aw_iload_n 0 dL_law_985 rfl rfl ?_
  refine aw_iconst (2) dL_law_986 (by decide) ?_
  refine aw_iadd dL_law_987 ?_
  refine aw_toe 2 (by decide) ?_
  refine aw_sld 2 (rfl) (by decide) (by decide) dL_law_988 ?_
  refine aw_aload_n 3 dL_law_989 rfl rfl ?_
  refine aw_iload_n 0 dL_law_990 rfl rfl ?_
  refine aw_iconst (3) dL_law_991 (by decide) ?_
  refine aw_iadd dL_law_992 ?_
  refine aw_toe 3 (by decide) ?_
  refine aw_sld 3 (rfl) (by decide) (by decide) dL_law_993 ?_
  refine aw_aload_n 3 dL_law_994 rfl rfl ?_
  refine aw_iload_n 0 dL_law_995 rfl rfl ?_
  refine aw_iconst (4) dL_law_996 (by decide) ?_
  refine aw_iadd dL_law_997 ?_
  refine aw_toe 4 (by decide) ?_
  refine aw_sld 4 (rfl) (by decide) (by decide) dL_law_998 ?_
  refine aw_eV [.int (xs 1), .int (xs 2), .int (xs 3), .int (xs 4)] [.int rr] lL_94 vX9_holds mX9_holds dL_law_999 (hB h1 k1) ((k1 88 (by decide) (by decide)).trans hM.1) rfl rfl rfl (Nat.le_of_ble_eq_true rfl) (by decide) (by decide) rfl (fun h2 _k2 => ?_)
  refine aw_icmp_eq 1343 dL_law_1002 (by decide) (fun c1002 => ?_) (fun c1002 => absurd (rfl) c1002)
  exact law_end (by decide) (by decide)
set_option maxHeartbeats 4000000 in
theorem law_19 {l : Launch} {G : xG} {b : Nat} {xs : Nat → Int32} {h : List va_E} (hF : xF8 G h) (hM : xF9 G h) (hl : h.length = 125) : AW l G yL_law code 4 ret room_1 (xEl G b 6 xs) (fun below args s => lw_Z below args s) 125 28093 1007 [(3, .int 0), (2, .ref (G.1 + 88)), (1, .ref (G.1 + 0)), (0, .ref b)] [] h := by
  refine aw_aload_n 2 dL_law_1007 rfl rfl ?_
  refine aw_aload_n 3 dL_law_1008 rfl rfl ?_
  refine aw_iload_n 0 dL_law_1009 rfl rfl ?_
  refine aw_iconst (1) dL_law_1010 (by decide) ?_
  refine aw_iadd dL_law_1011 ?_
  refine aw_toe 1 (by decide) ?_
  refine aw_sld 1 (rfl) (by decide) (by decide) dL_law_1012 ?_
  refine aw_aload_n 3 dL_law_1013 rfl rfl ?_
  refine aw_iload_n 0 dL_law_1014 rfl rfl ?_
  refine aw_iconst (2) dL_law_1015 (by decide) ?_
  refine aw_iadd dL_law_1016 ?_
  refine aw_toe 2 (by decide) ?_
  refine aw_sld 2 (rfl) (by decide) (by decide) dL_law_1017 ?_
  refine aw_aload_n 3 dL_law_1018 rfl rfl ?_
  refine aw_iload_n 0 dL_law_1019 rfl rfl ?_
  refine aw_iconst (3) dL_law_1020 (by decide) ?_
  refine aw_iadd dL_law_1021 ?_
  refine aw_toe 3 (by decide) ?_
  refine aw_sld 3 (rfl) (by decide) (by decide) dL_law_1022 ?_
  obtain ⟨rr, hA, hB⟩ := O19 (l := l) (G := G) (t := xs 1) (d := xs 2) (k := xs 3) hF hM hl
  refine aw_eV [.int (xs 1), .int (xs 2), .int (xs 3)] [] lL_95 vX8_since mX8_since dL_law_1023 (hA) hF.1 rfl rfl rfl (Nat.le_of_ble_eq_true rfl) (by decide) (by decide) rfl (fun h1 k1 => ?_)
  refine aw_aload_n 1 dL_law_1026 rfl rfl ?_
  refine aw_aload_n 3 dL_law_1027 rfl rfl ?_
  refine aw_iload_n 0 dL_law_1028 rfl rfl ?_
  refine aw_iconst (1) dL_law_1029 (by decide) ?_
  refine aw_iadd dL_law_1030 ?_
  refine aw_toe 1 (by decide) ?_
  refine aw_sld 1 (rfl) (by decide) (by decide) dL_law_1031 ?_
  refine aw_aload_n 3 dL_law_1032 rfl rfl ?_
  refine aw_iload_n 0 dL_law_1033 rfl rfl ?_
  refine aw_iconst (2) dL_law_1034 (by decide) ?_
  refine aw_iadd dL_law_1035 ?_
  refine aw_toe 2 (by decide) ?_
  refine aw_sld 2 (rfl) (by decide) (by decide) dL_law_1036 ?_
  refine aw_aload_n 3 dL_law_1037 rfl rfl ?_
  refine aw_iload_n 0 dL_law_1038 rfl rfl ?_
  refine aw_iconst (3) dL_law_1039 (by decide) ?_
  refine aw_iadd dL_law_1040 ?_
  refine aw_toe 3 (by decide) ?_
  refine aw_sld 3 (rfl) (by decide) (by decide) dL_law_1041 ?_
  refine aw_eV [.int (xs 1), .int (xs 2), .int (xs 3)] [.int rr] lL_98 vX9_since mX9_since dL_law_1042 (hB h1 k1) ((k1 88 (by decide) (by decide)).trans hM.1) rfl rfl rfl (Nat.le_of_ble_eq_true rfl) (by decide) (by decide) rfl (fun h2 _k2 => ?_)
  refine aw_icmp_eq 1343 dL_law_1045 (by decide) (fun c1045 => ?_) (fun c1045 => absurd (rfl) c1045)
  exact law_end (by decide) (by decide)
set_option maxHeartbeats 4000000 in
theorem law_20 {l : Launch} {G : xG} {b : Nat} {xs : Nat → Int32} {h : List va_E} (hF : xF8 G h) (hM : xF9 G h) (hl : h.length = 125) : AW l G yL_law code 4 ret room_1 (xEl G b 6 xs) (fun below args s => lw_Z below args s) 125 28093 1050 [(3, .int 0), (2, .ref (G.1 + 88)), (1, .ref (G.1 + 0)), (0, .ref b)] [] h := by
  refine aw_aload_n 2 dL_law_1050 rfl rfl ?_
  refine aw_aload_n 3 dL_law_1051 rfl rfl ?_
  refine aw_iload_n 0 dL_law_1052 rfl rfl ?_
  refine aw_iconst (1) dL_law_1053 (by decide) ?_
  refine aw_iadd dL_law_1054 ?_
  refine aw_toe 1 (by decide) ?_
  refine aw_sld 1 (rfl) (by decide) (by decide) dL_law_1055 ?_
  refine aw_aload_n 3 dL_law_1056 rfl rfl ?_
  refine aw_iload_n 0 dL_law_1057 rfl rfl ?_
  refine aw_iconst (2) dL_law_1058 (by decide) ?_
  refine aw_iadd dL_law_1059 ?_
  refine aw_toe 2 (by decide) ?_
  refine aw_sld 2 (rfl) (by decide) (by decide) dL_law_1060 ?_
  refine aw_aload_n 3 dL_law_1061 rfl rfl ?_
  refine aw_iload_n 0 dL_law_1062 rfl rfl ?_
  refine aw_iconst (3) dL_law_1063 (by decide) ?_
  refine aw_iadd dL_law_1064 ?_
  refine aw_toe 3 (by decide) ?_
  refine aw_sld 3 (rfl) (by decide) (by decide) dL_law_1065 ?_
  refine aw_aload_n 3 dL_law_1066 rfl rfl ?_
  refine aw_iload_n 0 dL_law_1067 rfl rfl ?_
  refine aw_iconst (4) dL_law_1068 (by decide) ?_
  refine aw_iadd dL_law_1069 ?_
  refine aw_toe 4 (by decide) ?_
  refine aw_sld 4 (rfl) (by decide) (by decide) dL_law_1070 ?_
  obtain ⟨rr, hA, hB⟩ := O20 (l := l) (G := G) (s := xs 1) (x := xs 2) (y := xs 3) (v := xs 4) hF hM hl
  refine aw_eV [.int (xs 1), .int (xs 2), .int (xs 3), .int (xs 4)] [] lL_99 vX8_visitor mX8_visitor dL_law_1071 (hA) hF.1 rfl rfl rfl (Nat.le_of_ble_eq_true rfl) (by decide) (by decide) rfl (fun h1 k1 => ?_)
  refine aw_aload_n 1 dL_law_1074 rfl rfl ?_
  refine aw_aload_n 3 dL_law_1075 rfl rfl ?_
  refine aw_iload_n 0 dL_law_1076 rfl rfl ?_
  refine aw_iconst (1) dL_law_1077 (by decide) ?_
  refine aw_iadd dL_law_1078 ?_
  refine aw_toe 1 (by decide) ?_
  refine aw_sld 1 (rfl) (by decide) (by decide) dL_law_1079 ?_
  refine aw_aload_n 3 dL_law_1080 rfl rfl ?_
  refine aw_iload_n 0 dL_law_1081 rfl rfl ?_
  refine aw_iconst (2) dL_law_1082 (by decide) ?_
  refine aw_iadd dL_law_1083 ?_
  refine aw_toe 2 (by decide) ?_
  refine aw_sld 2 (rfl) (by decide) (by decide) dL_law_1084 ?_
  refine aw_aload_n 3 dL_law_1085 rfl rfl ?_
  refine aw_iload_n 0 dL_law_1086 rfl rfl ?_
  refine aw_iconst (3) dL_law_1087 (by decide) ?_
  refine aw_iadd dL_law_1088 ?_
  refine aw_toe 3 (by decide) ?_
  refine aw_sld 3 (rfl) (by decide) (by decide) dL_law_1089 ?_
  refine aw_aload_n 3 dL_law_1090 rfl rfl ?_
  refine aw_iload_n 0 dL_law_1091 rfl rfl ?_
  refine aw_iconst (4) dL_law_1092 (by decide) ?_
  refine aw_iadd dL_law_1093 ?_
  refine aw_toe 4 (by decide) ?_
  refine aw_sld 4 (rfl) (by decide) (by decide) dL_law_1094 ?_
  refine aw_eV [.int (xs 1), .int (xs 2), .int (xs 3), .int (xs 4)] [.int rr] lL_102 vX9_visitor mX9_visitor dL_law_1095 (hB h1 k1) ((k1 88 (by decide) (by decide)).trans hM.1) rfl rfl rfl (Nat.le_of_ble_eq_true rfl) (by decide) (by decide) rfl (fun h2 _k2 => ?_)
  refine aw_icmp_eq 1343 dL_law_1098 (by decide) (fun c1098 => ?_) (fun c1098 => absurd (rfl) c1098)
  exact law_end (by decide) (by decide)
set_option maxHeartbeats 4000000 in
theorem law_21 {l : Launch} {G : xG} {b : Nat} {xs : Nat → Int32} {h : List va_E} (hF : xF8 G h) (hM : xF9 G h) (hl : h.length = 125) : AW l G yL_law code 4 ret room_1 (xEl G b 6 xs) (fun below args s => lw_Z below args s) 125 28093 1103 [(3, .int 0), (2, .ref (G.1 + 88)), (1, .ref (G.1 + 0)), (0, .ref b)] [] h := by
  refine aw_aload_n 2 dL_law_1103 rfl rfl ?_
  refine aw_aload_n 3 dL_law_1104 rfl rfl ?_
  refine aw_iload_n 0 dL_law_1105 rfl rfl ?_
  refine aw_iconst (1) dL_law_1106 (by decide) ?_
  refine aw_iadd dL_law_1107 ?_
  refine aw_toe 1 (by decide) ?_
  refine aw_sld 1 (rfl) (by decide) (by decide) dL_law_1108 ?_
  obtain ⟨rr, hA, hB⟩ := O21 (l := l) (G := G) (w := xs 1) hF hM hl
  refine aw_eV [.int (xs 1)] [] lL_103 vX8_shelf mX8_shelf dL_law_1109 (hA) hF.1 rfl rfl rfl (Nat.le_of_ble_eq_true rfl) (by decide) (by decide) rfl (fun h1 k1 => ?_)
  refine aw_aload_n 1 dL_law_1112 rfl rfl ?_
  refine aw_aload_n 3 dL_law_1113 rfl rfl ?_
  refine aw_iload_n 0 dL_law_1114 rfl rfl ?_
  refine aw_iconst (1) dL_law_1115 (by decide) ?_
  refine aw_iadd dL_law_1116 ?_
  refine aw_toe 1 (by decide) ?_
  refine aw_sld 1 (rfl) (by decide) (by decide) dL_law_1117 ?_
  refine aw_eV [.int (xs 1)] [.int rr] lL_106 vX9_shelf mX9_shelf dL_law_1118 (hB h1 k1) ((k1 88 (by decide) (by decide)).trans hM.1) rfl rfl rfl (Nat.le_of_ble_eq_true rfl) (by decide) (by decide) rfl (fun h2 _k2 => ?_)
  refine aw_icmp_eq 1343 dL_law_1121 (by decide) (fun c1121 => ?_) (fun c1121 => absurd (rfl) c1121)
  exact law_end (by decide) (by decide)
set_option maxHeartbeats 4000000 in
theorem law_22 {l : Launch} {G : xG} {b : Nat} {xs : Nat → Int32} {h : List va_E} (hF : xF8 G h) (hM : xF9 G h) (hl : h.length = 125) : AW l G yL_law code 4 ret room_1 (xEl G b 6 xs) (fun below args s => lw_Z below args s) 125 28093 1126 [(3, .int 0), (2, .ref (G.1 + 88)), (1, .ref (G.1 + 0)), (0, .ref b)] [] h := by
  refine aw_aload_n 2 dL_law_1126 rfl rfl ?_
  refine aw_aload_n 3 dL_law_1127 rfl rfl ?_
  refine aw_iload_n 0 dL_law_1128 rfl rfl ?_
  refine aw_iconst (1) dL_law_1129 (by decide) ?_
  refine aw_iadd dL_law_1130 ?_
  refine aw_toe 1 (by decide) ?_
  refine aw_sld 1 (rfl) (by decide) (by decide) dL_law_1131 ?_
  refine aw_aload_n 3 dL_law_1132 rfl rfl ?_
  refine aw_iload_n 0 dL_law_1133 rfl rfl ?_
  refine aw_iconst (2) dL_law_1134 (by decide) ?_
  refine aw_iadd dL_law_1135 ?_
  refine aw_toe 2 (by decide) ?_
  refine aw_sld 2 (rfl) (by decide) (by decide) dL_law_1136 ?_
  obtain ⟨rr, hA, hB⟩ := O22 (l := l) (G := G) (w := xs 1) (k := xs 2) hF hM hl
  refine aw_eV [.int (xs 1), .int (xs 2)] [] lL_107 vX8_row mX8_row dL_law_1137 (hA) hF.1 rfl rfl rfl (Nat.le_of_ble_eq_true rfl) (by decide) (by decide) rfl (fun h1 k1 => ?_)
  refine aw_aload_n 1 dL_law_1140 rfl rfl ?_
  refine aw_aload_n 3 dL_law_1141 rfl rfl ?_
  refine aw_iload_n 0 dL_law_1142 rfl rfl ?_
  refine aw_iconst (1) dL_law_1143 (by decide) ?_
  refine aw_iadd dL_law_1144 ?_
  refine aw_toe 1 (by decide) ?_
  refine aw_sld 1 (rfl) (by decide) (by decide) dL_law_1145 ?_
  refine aw_aload_n 3 dL_law_1146 rfl rfl ?_
  refine aw_iload_n 0 dL_law_1147 rfl rfl ?_
  refine aw_iconst (2) dL_law_1148 (by decide) ?_
  refine aw_iadd dL_law_1149 ?_
  refine aw_toe 2 (by decide) ?_
  refine aw_sld 2 (rfl) (by decide) (by decide) dL_law_1150 ?_
  refine aw_eV [.int (xs 1), .int (xs 2)] [.int rr] lL_110 vX9_row mX9_row dL_law_1151 (hB h1 k1) ((k1 88 (by decide) (by decide)).trans hM.1) rfl rfl rfl (Nat.le_of_ble_eq_true rfl) (by decide) (by decide) rfl (fun h2 _k2 => ?_)
  refine aw_icmp_eq 1343 dL_law_1154 (by decide) (fun c1154 => ?_) (fun c1154 => absurd (rfl) c1154)
  exact law_end (by decide) (by decide)
set_option maxHeartbeats 4000000 in
theorem law_23 {l : Launch} {G : xG} {b : Nat} {xs : Nat → Int32} {h : List va_E} (hF : xF8 G h) (hM : xF9 G h) (hl : h.length = 125) : AW l G yL_law code 4 ret room_1 (xEl G b 6 xs) (fun below args s => lw_Z below args s) 125 28093 1159 [(3, .int 0), (2, .ref (G.1 + 88)), (1, .ref (G.1 + 0)), (0, .ref b)] [] h := by
  refine aw_aload_n 2 dL_law_1159 rfl rfl ?_
  refine aw_aload_n 3 dL_law_1160 rfl rfl ?_
  refine aw_iload_n 0 dL_law_1161 rfl rfl ?_
  refine aw_iconst (1) dL_law_1162 (by decide) ?_
  refine aw_iadd dL_law_1163 ?_
  refine aw_toe 1 (by decide) ?_
  refine aw_sld 1 (rfl) (by decide) (by decide) dL_law_1164 ?_
  obtain ⟨rr, hA, hB⟩ := O23 (l := l) (G := G) (w := xs 1) hF hM hl
  refine aw_eV [.int (xs 1)] [] lL_111 vX8_quarrel mX8_quarrel dL_law_1165 (hA) hF.1 rfl rfl rfl (Nat.le_of_ble_eq_true rfl) (by decide) (by decide) rfl (fun h1 k1 => ?_)
  refine aw_aload_n 1 dL_law_1168 rfl rfl ?_
  refine aw_aload_n 3 dL_law_1169 rfl rfl ?_
  refine aw_iload_n 0 dL_law_1170 rfl rfl ?_
  refine aw_iconst (1) dL_law_1171 (by decide) ?_
  refine aw_iadd dL_law_1172 ?_
  refine aw_toe 1 (by decide) ?_
  refine aw_sld 1 (rfl) (by decide) (by decide) dL_law_1173 ?_
  refine aw_eV [.int (xs 1)] [.int rr] lL_114 vX9_quarrel mX9_quarrel dL_law_1174 (hB h1 k1) ((k1 88 (by decide) (by decide)).trans hM.1) rfl rfl rfl (Nat.le_of_ble_eq_true rfl) (by decide) (by decide) rfl (fun h2 _k2 => ?_)
  refine aw_icmp_eq 1343 dL_law_1177 (by decide) (fun c1177 => ?_) (fun c1177 => absurd (rfl) c1177)
  exact law_end (by decide) (by decide)
set_option maxHeartbeats 4000000 in
theorem law_24 {l : Launch} {G : xG} {b : Nat} {xs : Nat → Int32} {h : List va_E} (hF : xF8 G h) (hM : xF9 G h) (hl : h.length = 125) : AW l G yL_law code 4 ret room_1 (xEl G b 6 xs) (fun below args s => lw_Z below args s) 125 28093 1182 [(3, .int 0), (2, .ref (G.1 + 88)), (1, .ref (G.1 + 0)), (0, .ref b)] [] h := by
  refine aw_aload_n 2 dL_law_1182 rfl rfl ?_
  refine aw_aload_n 3 dL_law_1183 rfl rfl ?_
  refine aw_iload_n 0 dL_law_1184 rfl rfl ?_
  refine aw_iconst (1) dL_law_1185 (by decide) ?_
  refine aw_iadd dL_law_1186 ?_
  refine aw_toe 1 (by decide) ?_
  refine aw_sld 1 (rfl) (by decide) (by decide) dL_law_1187 ?_
  refine aw_aload_n 3 dL_law_1188 rfl rfl ?_
  refine aw_iload_n 0 dL_law_1189 rfl rfl ?_
  refine aw_iconst (2) dL_law_1190 (by decide) ?_
  refine aw_iadd dL_law_1191 ?_
  refine aw_toe 2 (by decide) ?_
  refine aw_sld 2 (rfl) (by decide) (by decide) dL_law_1192 ?_
  obtain ⟨rr, hA, hB⟩ := O24 (l := l) (G := G) (p := xs 1) (v := xs 2) hF hM hl
  refine aw_eV [.int (xs 1), .int (xs 2)] [] lL_115 vX8_part mX8_part dL_law_1193 (hA) hF.1 rfl rfl rfl (Nat.le_of_ble_eq_true rfl) (by decide) (by decide) rfl (fun h1 k1 => ?_)
  refine aw_aload_n 1 dL_law_1196 rfl rfl ?_
  refine aw_aload_n 3 dL_law_1197 rfl rfl ?_
  refine aw_iload_n 0 dL_law_1198 rfl rfl ?_
  refine aw_iconst (1) dL_law_1199 (by decide) ?_
  refine aw_iadd dL_law_1200 ?_
  refine aw_toe 1 (by decide) ?_
  refine aw_sld 1 (rfl) (by decide) (by decide) dL_law_1201 ?_
  refine aw_aload_n 3 dL_law_1202 rfl rfl ?_
  refine aw_iload_n 0 dL_law_1203 rfl rfl ?_
  refine aw_iconst (2) dL_law_1204 (by decide) ?_
  refine aw_iadd dL_law_1205 ?_
  refine aw_toe 2 (by decide) ?_
  refine aw_sld 2 (rfl) (by decide) (by decide) dL_law_1206 ?_
  refine aw_eV [.int (xs 1), .int (xs 2)] [.int rr] lL_118 vX9_part mX9_part dL_law_1207 (hB h1 k1) ((k1 88 (by decide) (by decide)).trans hM.1) rfl rfl rfl (Nat.le_of_ble_eq_true rfl) (by decide) (by decide) rfl (fun h2 _k2 => ?_)
  refine aw_icmp_eq 1343 dL_law_1210 (by decide) (fun c1210 => ?_) (fun c1210 => absurd (rfl) c1210)
  exact law_end (by decide) (by decide)
set_option maxHeartbeats 4000000 in
theorem law_25 {l : Launch} {G : xG} {b : Nat} {xs : Nat → Int32} {h : List va_E} (hF : xF8 G h) (hM : xF9 G h) (hl : h.length = 125) : AW l G yL_law code 4 ret room_1 (xEl G b 6 xs) (fun below args s => lw_Z below args s) 125 28093 1215 [(3, .int 0), (2, .ref (G.1 + 88)), (1, .ref (G.1 + 0)), (0, .ref b)] [] h := by
  refine aw_aload_n 2 dL_law_1215 rfl rfl ?_
  refine aw_aload_n 3 dL_law_1216 rfl rfl ?_
  refine aw_iload_n 0 dL_law_1217 rfl rfl ?_
  refine aw_iconst (1) dL_law_1218 (by decide) ?_
  refine aw_iadd dL_law_1219 ?_
  refine aw_toe 1 (by decide) ?_
  refine aw_sld 1 (rfl) (by decide) (by decide) dL_law_1220 ?_
  refine aw_aload_n 3 dL_law_1221 rfl rfl ?_
  refine aw_iload_n 0 dL_law_1222 rfl rfl ?_
  refine aw_iconst (2) dL_law_1223 (by decide) ?_
  refine aw_iadd dL_law_1224 ?_
  refine aw_toe 2 (by decide) ?_
  refine aw_sld 2 (rfl) (by decide) (by decide) dL_law_1225 ?_
  refine aw_aload_n 3 dL_law_1226 rfl rfl ?_
  refine aw_iload_n 0 dL_law_1227 rfl rfl ?_
  refine aw_iconst (3) dL_law_1228 (by decide) ?_
  refine aw_iadd dL_law_1229 ?_
  refine aw_toe 3 (by decide) ?_
  refine aw_sld 3 (rfl) (by decide) (by decide) dL_law_1230 ?_
  refine aw_if_eq 1238 dL_law_1231 (by decide) (fun c1231 => ?_) (fun c1231 => ?_)
  · refine aw_iconst (0) dL_law_1238 (by decide) ?_
    obtain ⟨rr, hA, hB⟩ := O25_0 (l := l) (G := G) (a := xs 1) (b := xs 2) hF hM hl
    refine aw_eV [.int (xs 1), .int (xs 2), .int 0] [] lL_119 vX8_clash mX8_clash dL_law_1239 (hA) hF.1 rfl rfl rfl (Nat.le_of_ble_eq_true rfl) (by decide) (by decide) rfl (fun h1 k1 => ?_)
    refine aw_aload_n 1 dL_law_1242 rfl rfl ?_
    refine aw_aload_n 3 dL_law_1243 rfl rfl ?_
    refine aw_iload_n 0 dL_law_1244 rfl rfl ?_
    refine aw_iconst (1) dL_law_1245 (by decide) ?_
    refine aw_iadd dL_law_1246 ?_
    refine aw_toe 1 (by decide) ?_
    refine aw_sld 1 (rfl) (by decide) (by decide) dL_law_1247 ?_
    refine aw_aload_n 3 dL_law_1248 rfl rfl ?_
    refine aw_iload_n 0 dL_law_1249 rfl rfl ?_
    refine aw_iconst (2) dL_law_1250 (by decide) ?_
    refine aw_iadd dL_law_1251 ?_
    refine aw_toe 2 (by decide) ?_
    refine aw_sld 2 (rfl) (by decide) (by decide) dL_law_1252 ?_
    refine aw_aload_n 3 dL_law_1253 rfl rfl ?_
    refine aw_iload_n 0 dL_law_1254 rfl rfl ?_
    refine aw_iconst (3) dL_law_1255 (by decide) ?_
    refine aw_iadd dL_law_1256 ?_
    refine aw_toe 3 (by decide) ?_
    refine aw_sld 3 (rfl) (by decide) (by decide) dL_law_1257 ?_
    refine aw_if_eq 1265 dL_law_1258 (by decide) (fun c1258 => ?_) (fun c1258 => absurd (c1231) c1258)
    refine aw_iconst (0) dL_law_1265 (by decide) ?_
    refine aw_eV [.int (xs 1), .int (xs 2), .int 0] [.int rr] lL_123 vX9_clash mX9_clash dL_law_1266 (hB h1 k1) ((k1 88 (by decide) (by decide)).trans hM.1) rfl rfl rfl (Nat.le_of_ble_eq_true rfl) (by decide) (by decide) rfl (fun h2 _k2 => ?_)
    refine aw_icmp_eq 1343 dL_law_1269 (by decide) (fun c1269 => ?_) (fun c1269 => absurd (rfl) c1269)
    exact law_end (by decide) (by decide)
  · refine aw_iconst (1) dL_law_1234 (by decide) ?_
    refine aw_goto 1239 dL_law_1235 (by decide) ?_
    obtain ⟨rr, hA, hB⟩ := O25_1 (l := l) (G := G) (a := xs 1) (b := xs 2) hF hM hl
    refine aw_eV [.int (xs 1), .int (xs 2), .int 1] [] lL_119 vX8_clash mX8_clash dL_law_1239 (hA) hF.1 rfl rfl rfl (Nat.le_of_ble_eq_true rfl) (by decide) (by decide) rfl (fun h1 k1 => ?_)
    refine aw_aload_n 1 dL_law_1242 rfl rfl ?_
    refine aw_aload_n 3 dL_law_1243 rfl rfl ?_
    refine aw_iload_n 0 dL_law_1244 rfl rfl ?_
    refine aw_iconst (1) dL_law_1245 (by decide) ?_
    refine aw_iadd dL_law_1246 ?_
    refine aw_toe 1 (by decide) ?_
    refine aw_sld 1 (rfl) (by decide) (by decide) dL_law_1247 ?_
    refine aw_aload_n 3 dL_law_1248 rfl rfl ?_
    refine aw_iload_n 0 dL_law_1249 rfl rfl ?_
    refine aw_iconst (2) dL_law_1250 (by decide) ?_
    refine aw_iadd dL_law_1251 ?_
    refine aw_toe 2 (by decide) ?_
    refine aw_sld 2 (rfl) (by decide) (by decide) dL_law_1252 ?_
    refine aw_aload_n 3 dL_law_1253 rfl rfl ?_
    refine aw_iload_n 0 dL_law_1254 rfl rfl ?_
    refine aw_iconst (3) dL_law_1255 (by decide) ?_
    refine aw_iadd dL_law_1256 ?_
    refine aw_toe 3 (by decide) ?_
    refine aw_sld 3 (rfl) (by decide) (by decide) dL_law_1257 ?_
    refine aw_if_eq 1265 dL_law_1258 (by decide) (fun c1258 => absurd c1258 (c1231)) (fun c1258 => ?_)
    refine aw_iconst (1) dL_law_1261 (by decide) ?_
    refine aw_goto 1266 dL_law_1262 (by decide) ?_
    refine aw_eV [.int (xs 1), .int (xs 2), .int 1] [.int rr] lL_123 vX9_clash mX9_clash dL_law_1266 (hB h1 k1) ((k1 88 (by decide) (by decide)).trans hM.1) rfl rfl rfl (Nat.le_of_ble_eq_true rfl) (by decide) (by decide) rfl (fun h2 _k2 => ?_)
    refine aw_icmp_eq 1343 dL_law_1269 (by decide) (fun c1269 => ?_) (fun c1269 => absurd (rfl) c1269)
    exact law_end (by decide) (by decide)
set_option maxHeartbeats 4000000 in
theorem law_26 {l : Launch} {G : xG} {b : Nat} {xs : Nat → Int32} {h : List va_E} (hF : xF8 G h) (hM : xF9 G h) (hl : h.length = 125) : AW l G yL_law code 4 ret room_1 (xEl G b 6 xs) (fun below args s => lw_Z below args s) 125 28093 1274 [(3, .int 0), (2, .ref (G.1 + 88)), (1, .ref (G.1 + 0)), (0, .ref b)] [] h := by
  refine aw_aload_n 2 dL_law_1274 rfl rfl ?_
  refine aw_aload_n 3 dL_law_1275 rfl rfl ?_
  refine aw_iload_n 0 dL_law_1276 rfl rfl ?_
  refine aw_iconst (1) dL_law_1277 (by decide) ?_
  refine aw_iadd dL_law_1278 ?_
  refine aw_toe 1 (by decide) ?_
  refine aw_sld 1 (rfl) (by decide) (by decide) dL_law_1279 ?_
  obtain ⟨rr, hA, hB⟩ := O26 (l := l) (G := G) (b := xs 1) hF hM hl
  refine aw_eV [.int (xs 1)] [] lL_124 vX8_fake mX8_fake dL_law_1280 (hA) hF.1 rfl rfl rfl (Nat.le_of_ble_eq_true rfl) (by decide) (by decide) rfl (fun h1 k1 => ?_)
  refine aw_aload_n 1 dL_law_1283 rfl rfl ?_
  refine aw_aload_n 3 dL_law_1284 rfl rfl ?_
  refine aw_iload_n 0 dL_law_1285 rfl rfl ?_
  refine aw_iconst (1) dL_law_1286 (by decide) ?_
  refine aw_iadd dL_law_1287 ?_
  refine aw_toe 1 (by decide) ?_
  refine aw_sld 1 (rfl) (by decide) (by decide) dL_law_1288 ?_
  refine aw_eV [.int (xs 1)] [.int rr] lL_127 vX9_fake mX9_fake dL_law_1289 (hB h1 k1) ((k1 88 (by decide) (by decide)).trans hM.1) rfl rfl rfl (Nat.le_of_ble_eq_true rfl) (by decide) (by decide) rfl (fun h2 _k2 => ?_)
  refine aw_icmp_eq 1343 dL_law_1292 (by decide) (fun c1292 => ?_) (fun c1292 => absurd (rfl) c1292)
  exact law_end (by decide) (by decide)
set_option maxHeartbeats 4000000 in
theorem law_27 {l : Launch} {G : xG} {b : Nat} {xs : Nat → Int32} {h : List va_E} (hF : xF8 G h) (hM : xF9 G h) (hl : h.length = 125) : AW l G yL_law code 4 ret room_1 (xEl G b 6 xs) (fun below args s => lw_Z below args s) 125 28093 1297 [(3, .int 0), (2, .ref (G.1 + 88)), (1, .ref (G.1 + 0)), (0, .ref b)] [] h := by
  refine aw_aload_n 2 dL_law_1297 rfl rfl ?_
  refine aw_aload_n 3 dL_law_1298 rfl rfl ?_
  refine aw_iload_n 0 dL_law_1299 rfl rfl ?_
  refine aw_iconst (1) dL_law_1300 (by decide) ?_
  refine aw_iadd dL_law_1301 ?_
  refine aw_toe 1 (by decide) ?_
  refine aw_sld 1 (rfl) (by decide) (by decide) dL_law_1302 ?_
  obtain ⟨rr, hA, hB⟩ := O27 (l := l) (G := G) (b := xs 1) hF hM hl
  refine aw_eV [.int (xs 1)] [] lL_128 vX8_least mX8_least dL_law_1303 (hA) hF.1 rfl rfl rfl (Nat.le_of_ble_eq_true rfl) (by decide) (by decide) rfl (fun h1 k1 => ?_)
  refine aw_aload_n 1 dL_law_1306 rfl rfl ?_
  refine aw_aload_n 3 dL_law_1307 rfl rfl ?_
  refine aw_iload_n 0 dL_law_1308 rfl rfl ?_
  refine aw_iconst (1) dL_law_1309 (by decide) ?_
  refine aw_iadd dL_law_1310 ?_
  refine aw_toe 1 (by decide) ?_
  refine aw_sld 1 (rfl) (by decide) (by decide) dL_law_1311 ?_
  refine aw_eV [.int (xs 1)] [.int rr] lL_131 vX9_least mX9_least dL_law_1312 (hB h1 k1) ((k1 88 (by decide) (by decide)).trans hM.1) rfl rfl rfl (Nat.le_of_ble_eq_true rfl) (by decide) (by decide) rfl (fun h2 _k2 => ?_)
  refine aw_icmp_eq 1343 dL_law_1315 (by decide) (fun c1315 => ?_) (fun c1315 => absurd (rfl) c1315)
  exact law_end (by decide) (by decide)
set_option maxHeartbeats 4000000 in
theorem law_28 {l : Launch} {G : xG} {b : Nat} {xs : Nat → Int32} {h : List va_E} (hF : xF8 G h) (hM : xF9 G h) (hl : h.length = 125) : AW l G yL_law code 4 ret room_1 (xEl G b 6 xs) (fun below args s => lw_Z below args s) 125 28093 1320 [(3, .int 0), (2, .ref (G.1 + 88)), (1, .ref (G.1 + 0)), (0, .ref b)] [] h := by
  refine aw_aload_n 2 dL_law_1320 rfl rfl ?_
  refine aw_aload_n 3 dL_law_1321 rfl rfl ?_
  refine aw_iload_n 0 dL_law_1322 rfl rfl ?_
  refine aw_iconst (1) dL_law_1323 (by decide) ?_
  refine aw_iadd dL_law_1324 ?_
  refine aw_toe 1 (by decide) ?_
  refine aw_sld 1 (rfl) (by decide) (by decide) dL_law_1325 ?_
  obtain ⟨rr, hA, hB⟩ := O28 (l := l) (G := G) (w := xs 1) hF hM hl
  refine aw_eV [.int (xs 1)] [] lL_132 vX8_count mX8_count dL_law_1326 (hA) hF.1 rfl rfl rfl (Nat.le_of_ble_eq_true rfl) (by decide) (by decide) rfl (fun h1 k1 => ?_)
  refine aw_aload_n 1 dL_law_1329 rfl rfl ?_
  refine aw_aload_n 3 dL_law_1330 rfl rfl ?_
  refine aw_iload_n 0 dL_law_1331 rfl rfl ?_
  refine aw_iconst (1) dL_law_1332 (by decide) ?_
  refine aw_iadd dL_law_1333 ?_
  refine aw_toe 1 (by decide) ?_
  refine aw_sld 1 (rfl) (by decide) (by decide) dL_law_1334 ?_
  refine aw_eV [.int (xs 1)] [.int rr] lL_135 vX9_count mX9_count dL_law_1335 (hB h1 k1) ((k1 88 (by decide) (by decide)).trans hM.1) rfl rfl rfl (Nat.le_of_ble_eq_true rfl) (by decide) (by decide) rfl (fun h2 _k2 => ?_)
  refine aw_icmp_eq 1343 dL_law_1338 (by decide) (fun c1338 => ?_) (fun c1338 => absurd (rfl) c1338)
  exact law_end (by decide) (by decide)
theorem xF8_lo {G : xG} {h h1 : List va_E} (k : lo 88 h h1) (hF : xF8 G h) : xF8 G h1 := by
  unfold xF8 at *
  obtain ⟨m0, m1, m2, m3, m4, m5, m6, m7, m8, m9, m10, m11, m12, m61, m62, m63, m64, m65, m66, m67, m68, m69, m70, m71, m72, m73, m74, m75, m76, m77, m78, m79, m80, m81, m82, m83, m84, m85, m86, m87, mj⟩ := hF
  exact ⟨(k 0 (by decide)).trans m0, (k 1 (by decide)).trans m1, (k 2 (by decide)).trans m2, (k 3 (by decide)).trans m3, (k 4 (by decide)).trans m4, (k 5 (by decide)).trans m5, (k 6 (by decide)).trans m6, (k 7 (by decide)).trans m7, (k 8 (by decide)).trans m8, (k 9 (by decide)).trans m9, (k 10 (by decide)).trans m10, (k 11 (by decide)).trans m11, (k 12 (by decide)).trans m12, (k 61 (by decide)).trans m61, (k 62 (by decide)).trans m62, (k 63 (by decide)).trans m63, (k 64 (by decide)).trans m64, (k 65 (by decide)).trans m65, (k 66 (by decide)).trans m66, (k 67 (by decide)).trans m67, (k 68 (by decide)).trans m68, (k 69 (by decide)).trans m69, (k 70 (by decide)).trans m70, (k 71 (by decide)).trans m71, (k 72 (by decide)).trans m72, (k 73 (by decide)).trans m73, (k 74 (by decide)).trans m74, (k 75 (by decide)).trans m75, (k 76 (by decide)).trans m76, (k 77 (by decide)).trans m77, (k 78 (by decide)).trans m78, (k 79 (by decide)).trans m79, (k 80 (by decide)).trans m80, (k 81 (by decide)).trans m81, (k 82 (by decide)).trans m82, (k 83 (by decide)).trans m83, (k 84 (by decide)).trans m84, (k 85 (by decide)).trans m85, (k 86 (by decide)).trans m86, (k 87 (by decide)).trans m87, fun q hq => xjF_k (b := 61) (mj q hq) (fun j _ j2 => k j (by omega)) (by omega)⟩
