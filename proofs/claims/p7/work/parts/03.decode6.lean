theorem dX9_stands_52 : decode cX9_stands 52 = .ok (.ireturn, 1) := by decide +kernel
theorem dX9_shelves_0 : decode cX9_shelves 0 = .ok (.aload_n 0, 1) := by decide +kernel
theorem dX9_shelves_1 : decode cX9_shelves 1 = .ok (.iconst 0, 1) := by decide +kernel
theorem dX9_shelves_2 : decode cX9_shelves 2 = .ok (.putfield 233, 3) := by decide +kernel
theorem dX9_shelves_5 : decode cX9_shelves 5 = .ok (.iconst 0, 1) := by decide +kernel
theorem dX9_shelves_6 : decode cX9_shelves 6 = .ok (.istore_n 2, 1) := by decide +kernel
theorem dX9_shelves_7 : decode cX9_shelves 7 = .ok (.iload_n 2, 1) := by decide +kernel
theorem dX9_shelves_8 : decode cX9_shelves 8 = .ok (.bipush 12, 2) := by decide +kernel
theorem dX9_shelves_10 : decode cX9_shelves 10 = .ok (.if_icmp .ge 40, 3) := by decide +kernel
theorem dX9_shelves_13 : decode cX9_shelves 13 = .ok (.iload_n 1, 1) := by decide +kernel
theorem dX9_shelves_14 : decode cX9_shelves 14 = .ok (.iload_n 2, 1) := by decide +kernel
theorem dX9_shelves_15 : decode cX9_shelves 15 = .ok (.ishr, 1) := by decide +kernel
theorem dX9_shelves_16 : decode cX9_shelves 16 = .ok (.iconst 1, 1) := by decide +kernel
theorem dX9_shelves_17 : decode cX9_shelves 17 = .ok (.iand, 1) := by decide +kernel
theorem dX9_shelves_18 : decode cX9_shelves 18 = .ok (.ifCond .ne 6, 3) := by decide +kernel
theorem dX9_shelves_21 : decode cX9_shelves 21 = .ok (.goto 23, 3) := by decide +kernel
theorem dX9_shelves_24 : decode cX9_shelves 24 = .ok (.aload_n 0, 1) := by decide +kernel
theorem dX9_shelves_25 : decode cX9_shelves 25 = .ok (.getfield 110, 3) := by decide +kernel
theorem dX9_shelves_28 : decode cX9_shelves 28 = .ok (.aload_n 0, 1) := by decide +kernel
theorem dX9_shelves_29 : decode cX9_shelves 29 = .ok (.getfield 233, 3) := by decide +kernel
theorem dX9_shelves_32 : decode cX9_shelves 32 = .ok (.iload_n 2, 1) := by decide +kernel
theorem dX9_shelves_33 : decode cX9_shelves 33 = .ok (.iastore, 1) := by decide +kernel
theorem dX9_shelves_34 : decode cX9_shelves 34 = .ok (.aload_n 0, 1) := by decide +kernel
theorem dX9_shelves_35 : decode cX9_shelves 35 = .ok (.dup, 1) := by decide +kernel
theorem dX9_shelves_36 : decode cX9_shelves 36 = .ok (.getfield 233, 3) := by decide +kernel
theorem dX9_shelves_39 : decode cX9_shelves 39 = .ok (.iconst 1, 1) := by decide +kernel
theorem dX9_shelves_40 : decode cX9_shelves 40 = .ok (.iadd, 1) := by decide +kernel
theorem dX9_shelves_41 : decode cX9_shelves 41 = .ok (.putfield 233, 3) := by decide +kernel
theorem dX9_shelves_44 : decode cX9_shelves 44 = .ok (.iinc 2 1, 3) := by decide +kernel
theorem dX9_shelves_47 : decode cX9_shelves 47 = .ok (.goto (-40), 3) := by decide +kernel
theorem dX9_shelves_50 : decode cX9_shelves 50 = .ok (.iconst 1, 1) := by decide +kernel
theorem dX9_shelves_51 : decode cX9_shelves 51 = .ok (.aload_n 0, 1) := by decide +kernel
theorem dX9_shelves_52 : decode cX9_shelves 52 = .ok (.getfield 233, 3) := by decide +kernel
theorem dX9_shelves_55 : decode cX9_shelves 55 = .ok (.ishl, 1) := by decide +kernel
theorem dX9_shelves_56 : decode cX9_shelves 56 = .ok (.iconst 1, 1) := by decide +kernel
theorem dX9_shelves_57 : decode cX9_shelves 57 = .ok (.isub, 1) := by decide +kernel
theorem dX9_shelves_58 : decode cX9_shelves 58 = .ok (.istore_n 2, 1) := by decide +kernel
theorem dX9_shelves_59 : decode cX9_shelves 59 = .ok (.iload_n 2, 1) := by decide +kernel
theorem dX9_shelves_60 : decode cX9_shelves 60 = .ok (.istore_n 3, 1) := by decide +kernel
theorem dX9_shelves_61 : decode cX9_shelves 61 = .ok (.iload_n 3, 1) := by decide +kernel
theorem dX9_shelves_62 : decode cX9_shelves 62 = .ok (.ifCond .lt 119, 3) := by decide +kernel
theorem dX9_shelves_65 : decode cX9_shelves 65 = .ok (.iconst (-1), 1) := by decide +kernel
theorem dX9_shelves_66 : decode cX9_shelves 66 = .ok (.istore 4, 2) := by decide +kernel
theorem dX9_shelves_68 : decode cX9_shelves 68 = .ok (.iload 4, 2) := by decide +kernel
theorem dX9_shelves_70 : decode cX9_shelves 70 = .ok (.aload_n 0, 1) := by decide +kernel
theorem dX9_shelves_71 : decode cX9_shelves 71 = .ok (.getfield 233, 3) := by decide +kernel
theorem dX9_shelves_74 : decode cX9_shelves 74 = .ok (.if_icmp .ge 101, 3) := by decide +kernel
theorem dX9_shelves_77 : decode cX9_shelves 77 = .ok (.iload_n 3, 1) := by decide +kernel
theorem dX9_shelves_78 : decode cX9_shelves 78 = .ok (.iload_n 2, 1) := by decide +kernel
theorem dX9_shelves_79 : decode cX9_shelves 79 = .ok (.if_icmp .ne 7, 3) := by decide +kernel
theorem dX9_shelves_82 : decode cX9_shelves 82 = .ok (.iconst 0, 1) := by decide +kernel
theorem dX9_shelves_83 : decode cX9_shelves 83 = .ok (.goto 4, 3) := by decide +kernel
theorem dX9_shelves_86 : decode cX9_shelves 86 = .ok (.iconst (-1), 1) := by decide +kernel
theorem dX9_shelves_87 : decode cX9_shelves 87 = .ok (.istore 5, 2) := by decide +kernel
theorem dX9_shelves_89 : decode cX9_shelves 89 = .ok (.iconst 0, 1) := by decide +kernel
theorem dX9_shelves_90 : decode cX9_shelves 90 = .ok (.istore 6, 2) := by decide +kernel
theorem dX9_shelves_92 : decode cX9_shelves 92 = .ok (.iload 6, 2) := by decide +kernel
theorem dX9_shelves_94 : decode cX9_shelves 94 = .ok (.aload_n 0, 1) := by decide +kernel
theorem dX9_shelves_95 : decode cX9_shelves 95 = .ok (.getfield 233, 3) := by decide +kernel
theorem dX9_shelves_98 : decode cX9_shelves 98 = .ok (.if_icmp .ge 55, 3) := by decide +kernel
theorem dX9_shelves_101 : decode cX9_shelves 101 = .ok (.iload_n 3, 1) := by decide +kernel
theorem dX9_shelves_102 : decode cX9_shelves 102 = .ok (.iload 6, 2) := by decide +kernel
theorem dX9_shelves_104 : decode cX9_shelves 104 = .ok (.ishr, 1) := by decide +kernel
theorem dX9_shelves_105 : decode cX9_shelves 105 = .ok (.iconst 1, 1) := by decide +kernel
theorem dX9_shelves_106 : decode cX9_shelves 106 = .ok (.iand, 1) := by decide +kernel
theorem dX9_shelves_107 : decode cX9_shelves 107 = .ok (.ifCond .ne 40, 3) := by decide +kernel
theorem dX9_shelves_110 : decode cX9_shelves 110 = .ok (.iload 5, 2) := by decide +kernel
theorem dX9_shelves_112 : decode cX9_shelves 112 = .ok (.aload_n 0, 1) := by decide +kernel
theorem dX9_shelves_113 : decode cX9_shelves 113 = .ok (.iload_n 1, 1) := by decide +kernel
theorem dX9_shelves_114 : decode cX9_shelves 114 = .ok (.iload_n 3, 1) := by decide +kernel
theorem dX9_shelves_115 : decode cX9_shelves 115 = .ok (.iload 4, 2) := by decide +kernel
theorem dX9_shelves_117 : decode cX9_shelves 117 = .ok (.iload 6, 2) := by decide +kernel
theorem dX9_shelves_119 : decode cX9_shelves 119 = .ok (.invokevirtual 236, 3) := by decide +kernel
theorem dX9_shelves_122 : decode cX9_shelves 122 = .ok (.aload_n 0, 1) := by decide +kernel
theorem dX9_shelves_123 : decode cX9_shelves 123 = .ok (.getfield 113, 3) := by decide +kernel
theorem dX9_shelves_126 : decode cX9_shelves 126 = .ok (.bipush 9, 2) := by decide +kernel
theorem dX9_shelves_128 : decode cX9_shelves 128 = .ok (.iload_n 3, 1) := by decide +kernel
theorem dX9_shelves_129 : decode cX9_shelves 129 = .ok (.iconst 1, 1) := by decide +kernel
theorem dX9_shelves_130 : decode cX9_shelves 130 = .ok (.iload 6, 2) := by decide +kernel
theorem dX9_shelves_132 : decode cX9_shelves 132 = .ok (.ishl, 1) := by decide +kernel
theorem dX9_shelves_133 : decode cX9_shelves 133 = .ok (.ior, 1) := by decide +kernel
theorem dX9_shelves_134 : decode cX9_shelves 134 = .ok (.imul, 1) := by decide +kernel
theorem dX9_shelves_135 : decode cX9_shelves 135 = .ok (.iload 6, 2) := by decide +kernel
theorem dX9_shelves_137 : decode cX9_shelves 137 = .ok (.iadd, 1) := by decide +kernel
theorem dX9_shelves_138 : decode cX9_shelves 138 = .ok (.iconst 1, 1) := by decide +kernel
theorem dX9_shelves_139 : decode cX9_shelves 139 = .ok (.iadd, 1) := by decide +kernel
theorem dX9_shelves_140 : decode cX9_shelves 140 = .ok (.iaload, 1) := by decide +kernel
theorem dX9_shelves_141 : decode cX9_shelves 141 = .ok (.iadd, 1) := by decide +kernel
theorem dX9_shelves_142 : decode cX9_shelves 142 = .ok (.invokestatic 162, 3) := by decide +kernel
theorem dX9_shelves_145 : decode cX9_shelves 145 = .ok (.istore 5, 2) := by decide +kernel
theorem dX9_shelves_147 : decode cX9_shelves 147 = .ok (.iinc 6 1, 3) := by decide +kernel
theorem dX9_shelves_150 : decode cX9_shelves 150 = .ok (.goto (-58), 3) := by decide +kernel
theorem dX9_shelves_153 : decode cX9_shelves 153 = .ok (.aload_n 0, 1) := by decide +kernel
theorem dX9_shelves_154 : decode cX9_shelves 154 = .ok (.getfield 113, 3) := by decide +kernel
theorem dX9_shelves_157 : decode cX9_shelves 157 = .ok (.bipush 9, 2) := by decide +kernel
theorem dX9_shelves_159 : decode cX9_shelves 159 = .ok (.iload_n 3, 1) := by decide +kernel
theorem dX9_shelves_160 : decode cX9_shelves 160 = .ok (.imul, 1) := by decide +kernel
theorem dX9_shelves_161 : decode cX9_shelves 161 = .ok (.iload 4, 2) := by decide +kernel
theorem dX9_shelves_163 : decode cX9_shelves 163 = .ok (.iadd, 1) := by decide +kernel
theorem dX9_shelves_164 : decode cX9_shelves 164 = .ok (.iconst 1, 1) := by decide +kernel
theorem dX9_shelves_165 : decode cX9_shelves 165 = .ok (.iadd, 1) := by decide +kernel
theorem dX9_shelves_166 : decode cX9_shelves 166 = .ok (.iload 5, 2) := by decide +kernel
theorem dX9_shelves_168 : decode cX9_shelves 168 = .ok (.iastore, 1) := by decide +kernel
theorem dX9_shelves_169 : decode cX9_shelves 169 = .ok (.iinc 4 1, 3) := by decide +kernel
theorem dX9_shelves_172 : decode cX9_shelves 172 = .ok (.goto (-104), 3) := by decide +kernel
theorem dX9_shelves_175 : decode cX9_shelves 175 = .ok (.iinc 3 (-1), 3) := by decide +kernel
theorem dX9_shelves_178 : decode cX9_shelves 178 = .ok (.goto (-117), 3) := by decide +kernel
theorem dX9_shelves_181 : decode cX9_shelves 181 = .ok (.iconst 0, 1) := by decide +kernel
theorem dX9_shelves_182 : decode cX9_shelves 182 = .ok (.istore_n 3, 1) := by decide +kernel
theorem dX9_shelves_183 : decode cX9_shelves 183 = .ok (.iconst (-1), 1) := by decide +kernel
theorem dX9_shelves_184 : decode cX9_shelves 184 = .ok (.istore 4, 2) := by decide +kernel
theorem dX9_shelves_186 : decode cX9_shelves 186 = .ok (.iconst 0, 1) := by decide +kernel
theorem dX9_shelves_187 : decode cX9_shelves 187 = .ok (.istore 5, 2) := by decide +kernel
theorem dX9_shelves_189 : decode cX9_shelves 189 = .ok (.iload 5, 2) := by decide +kernel
theorem dX9_shelves_191 : decode cX9_shelves 191 = .ok (.aload_n 0, 1) := by decide +kernel
theorem dX9_shelves_192 : decode cX9_shelves 192 = .ok (.getfield 233, 3) := by decide +kernel
theorem dX9_shelves_195 : decode cX9_shelves 195 = .ok (.if_icmp .ge 100, 3) := by decide +kernel
theorem dX9_shelves_198 : decode cX9_shelves 198 = .ok (.iconst 0, 1) := by decide +kernel
theorem dX9_shelves_199 : decode cX9_shelves 199 = .ok (.istore 6, 2) := by decide +kernel
theorem dX9_shelves_201 : decode cX9_shelves 201 = .ok (.iload_n 3, 1) := by decide +kernel
theorem dX9_shelves_202 : decode cX9_shelves 202 = .ok (.iload 6, 2) := by decide +kernel
theorem dX9_shelves_204 : decode cX9_shelves 204 = .ok (.ishr, 1) := by decide +kernel
theorem dX9_shelves_205 : decode cX9_shelves 205 = .ok (.iconst 1, 1) := by decide +kernel
theorem dX9_shelves_206 : decode cX9_shelves 206 = .ok (.iand, 1) := by decide +kernel
theorem dX9_shelves_207 : decode cX9_shelves 207 = .ok (.iconst 1, 1) := by decide +kernel
theorem dX9_shelves_208 : decode cX9_shelves 208 = .ok (.if_icmp .eq 50, 3) := by decide +kernel
theorem dX9_shelves_211 : decode cX9_shelves 211 = .ok (.aload_n 0, 1) := by decide +kernel
theorem dX9_shelves_212 : decode cX9_shelves 212 = .ok (.iload_n 1, 1) := by decide +kernel
theorem dX9_shelves_213 : decode cX9_shelves 213 = .ok (.iload_n 3, 1) := by decide +kernel
theorem dX9_shelves_214 : decode cX9_shelves 214 = .ok (.iload 4, 2) := by decide +kernel
theorem dX9_shelves_216 : decode cX9_shelves 216 = .ok (.iload 6, 2) := by decide +kernel
theorem dX9_shelves_218 : decode cX9_shelves 218 = .ok (.invokevirtual 236, 3) := by decide +kernel
theorem dX9_shelves_221 : decode cX9_shelves 221 = .ok (.aload_n 0, 1) := by decide +kernel
theorem dX9_shelves_222 : decode cX9_shelves 222 = .ok (.getfield 113, 3) := by decide +kernel
theorem dX9_shelves_225 : decode cX9_shelves 225 = .ok (.bipush 9, 2) := by decide +kernel
theorem dX9_shelves_227 : decode cX9_shelves 227 = .ok (.iload_n 3, 1) := by decide +kernel
theorem dX9_shelves_228 : decode cX9_shelves 228 = .ok (.iconst 1, 1) := by decide +kernel
theorem dX9_shelves_229 : decode cX9_shelves 229 = .ok (.iload 6, 2) := by decide +kernel
theorem dX9_shelves_231 : decode cX9_shelves 231 = .ok (.ishl, 1) := by decide +kernel
theorem dX9_shelves_232 : decode cX9_shelves 232 = .ok (.ior, 1) := by decide +kernel
theorem dX9_shelves_233 : decode cX9_shelves 233 = .ok (.imul, 1) := by decide +kernel
theorem dX9_shelves_234 : decode cX9_shelves 234 = .ok (.iload 6, 2) := by decide +kernel
theorem dX9_shelves_236 : decode cX9_shelves 236 = .ok (.iadd, 1) := by decide +kernel
theorem dX9_shelves_237 : decode cX9_shelves 237 = .ok (.iconst 1, 1) := by decide +kernel
theorem dX9_shelves_238 : decode cX9_shelves 238 = .ok (.iadd, 1) := by decide +kernel
theorem dX9_shelves_239 : decode cX9_shelves 239 = .ok (.iaload, 1) := by decide +kernel
theorem dX9_shelves_240 : decode cX9_shelves 240 = .ok (.iadd, 1) := by decide +kernel
theorem dX9_shelves_241 : decode cX9_shelves 241 = .ok (.aload_n 0, 1) := by decide +kernel
theorem dX9_shelves_242 : decode cX9_shelves 242 = .ok (.getfield 113, 3) := by decide +kernel
theorem dX9_shelves_245 : decode cX9_shelves 245 = .ok (.bipush 9, 2) := by decide +kernel
theorem dX9_shelves_247 : decode cX9_shelves 247 = .ok (.iload_n 3, 1) := by decide +kernel
theorem dX9_shelves_248 : decode cX9_shelves 248 = .ok (.imul, 1) := by decide +kernel
theorem dX9_shelves_249 : decode cX9_shelves 249 = .ok (.iload 4, 2) := by decide +kernel
theorem dX9_shelves_251 : decode cX9_shelves 251 = .ok (.iadd, 1) := by decide +kernel
theorem dX9_shelves_252 : decode cX9_shelves 252 = .ok (.iconst 1, 1) := by decide +kernel
theorem dX9_shelves_253 : decode cX9_shelves 253 = .ok (.iadd, 1) := by decide +kernel
theorem dX9_shelves_254 : decode cX9_shelves 254 = .ok (.iaload, 1) := by decide +kernel
theorem dX9_shelves_255 : decode cX9_shelves 255 = .ok (.if_icmp .eq 9, 3) := by decide +kernel
theorem dX9_shelves_258 : decode cX9_shelves 258 = .ok (.iinc 6 1, 3) := by decide +kernel
theorem dX9_shelves_261 : decode cX9_shelves 261 = .ok (.goto (-60), 3) := by decide +kernel
theorem dX9_shelves_264 : decode cX9_shelves 264 = .ok (.aload_n 0, 1) := by decide +kernel
theorem dX9_shelves_265 : decode cX9_shelves 265 = .ok (.getfield 116, 3) := by decide +kernel
theorem dX9_shelves_268 : decode cX9_shelves 268 = .ok (.iload 5, 2) := by decide +kernel
theorem dX9_shelves_270 : decode cX9_shelves 270 = .ok (.aload_n 0, 1) := by decide +kernel
theorem dX9_shelves_271 : decode cX9_shelves 271 = .ok (.getfield 110, 3) := by decide +kernel
theorem dX9_shelves_274 : decode cX9_shelves 274 = .ok (.iload 6, 2) := by decide +kernel
theorem dX9_shelves_276 : decode cX9_shelves 276 = .ok (.iaload, 1) := by decide +kernel
theorem dX9_shelves_277 : decode cX9_shelves 277 = .ok (.iastore, 1) := by decide +kernel
theorem dX9_shelves_278 : decode cX9_shelves 278 = .ok (.iload_n 3, 1) := by decide +kernel
theorem dX9_shelves_279 : decode cX9_shelves 279 = .ok (.iconst 1, 1) := by decide +kernel
theorem dX9_shelves_280 : decode cX9_shelves 280 = .ok (.iload 6, 2) := by decide +kernel
theorem dX9_shelves_282 : decode cX9_shelves 282 = .ok (.ishl, 1) := by decide +kernel
theorem dX9_shelves_283 : decode cX9_shelves 283 = .ok (.ior, 1) := by decide +kernel
theorem dX9_shelves_284 : decode cX9_shelves 284 = .ok (.istore_n 3, 1) := by decide +kernel
theorem dX9_shelves_285 : decode cX9_shelves 285 = .ok (.iload 6, 2) := by decide +kernel
theorem dX9_shelves_287 : decode cX9_shelves 287 = .ok (.istore 4, 2) := by decide +kernel
theorem dX9_shelves_289 : decode cX9_shelves 289 = .ok (.iinc 5 1, 3) := by decide +kernel
theorem dX9_shelves_292 : decode cX9_shelves 292 = .ok (.goto (-103), 3) := by decide +kernel
theorem dX9_shelves_295 : decode cX9_shelves 295 = .ok (.aload_n 0, 1) := by decide +kernel
theorem dX9_shelves_296 : decode cX9_shelves 296 = .ok (.getfield 113, 3) := by decide +kernel
theorem dX9_shelves_299 : decode cX9_shelves 299 = .ok (.iconst 0, 1) := by decide +kernel
theorem dX9_shelves_300 : decode cX9_shelves 300 = .ok (.iaload, 1) := by decide +kernel
theorem dX9_shelves_301 : decode cX9_shelves 301 = .ok (.ireturn, 1) := by decide +kernel
theorem dX9_shelf_0 : decode cX9_shelf 0 = .ok (.aload_n 0, 1) := by decide +kernel
theorem dX9_shelf_1 : decode cX9_shelf 1 = .ok (.iload_n 1, 1) := by decide +kernel
theorem dX9_shelf_2 : decode cX9_shelf 2 = .ok (.invokevirtual 239, 3) := by decide +kernel
theorem dX9_shelf_5 : decode cX9_shelf 5 = .ok (.istore_n 2, 1) := by decide +kernel
theorem dX9_shelf_6 : decode cX9_shelf 6 = .ok (.iload_n 2, 1) := by decide +kernel
theorem dX9_shelf_7 : decode cX9_shelf 7 = .ok (.ifCond .eq 11, 3) := by decide +kernel
theorem dX9_shelf_10 : decode cX9_shelf 10 = .ok (.aload_n 0, 1) := by decide +kernel
theorem dX9_shelf_11 : decode cX9_shelf 11 = .ok (.iload_n 2, 1) := by decide +kernel
theorem dX9_shelf_12 : decode cX9_shelf 12 = .ok (.invokevirtual 130, 3) := by decide +kernel
theorem dX9_shelf_15 : decode cX9_shelf 15 = .ok (.goto 8, 3) := by decide +kernel
theorem dX9_shelf_18 : decode cX9_shelf 18 = .ok (.aload_n 0, 1) := by decide +kernel
theorem dX9_shelf_19 : decode cX9_shelf 19 = .ok (.iload_n 1, 1) := by decide +kernel
theorem dX9_shelf_20 : decode cX9_shelf 20 = .ok (.invokevirtual 242, 3) := by decide +kernel
theorem dX9_shelf_23 : decode cX9_shelf 23 = .ok (.ireturn, 1) := by decide +kernel
theorem dX9_row_0 : decode cX9_row 0 = .ok (.aload_n 0, 1) := by decide +kernel
theorem dX9_row_1 : decode cX9_row 1 = .ok (.iload_n 1, 1) := by decide +kernel
theorem dX9_row_2 : decode cX9_row 2 = .ok (.invokevirtual 239, 3) := by decide +kernel
theorem dX9_row_5 : decode cX9_row 5 = .ok (.istore_n 3, 1) := by decide +kernel
theorem dX9_row_6 : decode cX9_row 6 = .ok (.iload_n 3, 1) := by decide +kernel
theorem dX9_row_7 : decode cX9_row 7 = .ok (.ifCond .eq 9, 3) := by decide +kernel
theorem dX9_row_10 : decode cX9_row 10 = .ok (.aload_n 0, 1) := by decide +kernel
theorem dX9_row_11 : decode cX9_row 11 = .ok (.iload_n 3, 1) := by decide +kernel
theorem dX9_row_12 : decode cX9_row 12 = .ok (.invokevirtual 130, 3) := by decide +kernel
theorem dX9_row_15 : decode cX9_row 15 = .ok (.ireturn, 1) := by decide +kernel
theorem dX9_row_16 : decode cX9_row 16 = .ok (.aload_n 0, 1) := by decide +kernel
theorem dX9_row_17 : decode cX9_row 17 = .ok (.iload_n 1, 1) := by decide +kernel
theorem dX9_row_18 : decode cX9_row 18 = .ok (.invokevirtual 242, 3) := by decide +kernel
theorem dX9_row_21 : decode cX9_row 21 = .ok (.istore 4, 2) := by decide +kernel
theorem dX9_row_23 : decode cX9_row 23 = .ok (.iload_n 2, 1) := by decide +kernel
theorem dX9_row_24 : decode cX9_row 24 = .ok (.aload_n 0, 1) := by decide +kernel
theorem dX9_row_25 : decode cX9_row 25 = .ok (.getfield 233, 3) := by decide +kernel
theorem dX9_row_28 : decode cX9_row 28 = .ok (.invokestatic 126, 3) := by decide +kernel
theorem dX9_row_31 : decode cX9_row 31 = .ok (.ifCond .eq 12, 3) := by decide +kernel
theorem dX9_row_34 : decode cX9_row 34 = .ok (.aload_n 0, 1) := by decide +kernel
theorem dX9_row_35 : decode cX9_row 35 = .ok (.getfield 116, 3) := by decide +kernel
theorem dX9_row_38 : decode cX9_row 38 = .ok (.iload_n 2, 1) := by decide +kernel
theorem dX9_row_39 : decode cX9_row 39 = .ok (.iaload, 1) := by decide +kernel
theorem dX9_row_40 : decode cX9_row 40 = .ok (.goto 5, 3) := by decide +kernel
theorem dX9_row_43 : decode cX9_row 43 = .ok (.bipush (-9), 2) := by decide +kernel
theorem dX9_row_45 : decode cX9_row 45 = .ok (.ireturn, 1) := by decide +kernel
theorem dX9_quarrel_0 : decode cX9_quarrel 0 = .ok (.aload_n 0, 1) := by decide +kernel
theorem dX9_quarrel_1 : decode cX9_quarrel 1 = .ok (.iload_n 1, 1) := by decide +kernel
theorem dX9_quarrel_2 : decode cX9_quarrel 2 = .ok (.invokevirtual 239, 3) := by decide +kernel
theorem dX9_quarrel_5 : decode cX9_quarrel 5 = .ok (.istore_n 2, 1) := by decide +kernel
theorem dX9_quarrel_6 : decode cX9_quarrel 6 = .ok (.iload_n 2, 1) := by decide +kernel
theorem dX9_quarrel_7 : decode cX9_quarrel 7 = .ok (.ifCond .eq 9, 3) := by decide +kernel
theorem dX9_quarrel_10 : decode cX9_quarrel 10 = .ok (.aload_n 0, 1) := by decide +kernel
theorem dX9_quarrel_11 : decode cX9_quarrel 11 = .ok (.iload_n 2, 1) := by decide +kernel
theorem dX9_quarrel_12 : decode cX9_quarrel 12 = .ok (.invokevirtual 130, 3) := by decide +kernel
theorem dX9_quarrel_15 : decode cX9_quarrel 15 = .ok (.ireturn, 1) := by decide +kernel
theorem dX9_quarrel_16 : decode cX9_quarrel 16 = .ok (.iconst 0, 1) := by decide +kernel
theorem dX9_quarrel_17 : decode cX9_quarrel 17 = .ok (.istore_n 3, 1) := by decide +kernel
theorem dX9_quarrel_18 : decode cX9_quarrel 18 = .ok (.iconst 0, 1) := by decide +kernel
theorem dX9_quarrel_19 : decode cX9_quarrel 19 = .ok (.istore 4, 2) := by decide +kernel
theorem dX9_quarrel_21 : decode cX9_quarrel 21 = .ok (.iload 4, 2) := by decide +kernel
theorem dX9_quarrel_23 : decode cX9_quarrel 23 = .ok (.aload_n 0, 1) := by decide +kernel
theorem dX9_quarrel_24 : decode cX9_quarrel 24 = .ok (.getfield 227, 3) := by decide +kernel
theorem dX9_quarrel_27 : decode cX9_quarrel 27 = .ok (.if_icmp .ge 60, 3) := by decide +kernel
theorem dX9_quarrel_30 : decode cX9_quarrel 30 = .ok (.iload_n 1, 1) := by decide +kernel
theorem dX9_quarrel_31 : decode cX9_quarrel 31 = .ok (.aload_n 0, 1) := by decide +kernel
theorem dX9_quarrel_32 : decode cX9_quarrel 32 = .ok (.getfield 101, 3) := by decide +kernel
theorem dX9_quarrel_35 : decode cX9_quarrel 35 = .ok (.iload 4, 2) := by decide +kernel
theorem dX9_quarrel_37 : decode cX9_quarrel 37 = .ok (.iaload, 1) := by decide +kernel
theorem dX9_quarrel_38 : decode cX9_quarrel 38 = .ok (.ishr, 1) := by decide +kernel
theorem dX9_quarrel_39 : decode cX9_quarrel 39 = .ok (.iconst 1, 1) := by decide +kernel
theorem dX9_quarrel_40 : decode cX9_quarrel 40 = .ok (.iand, 1) := by decide +kernel
theorem dX9_quarrel_41 : decode cX9_quarrel 41 = .ok (.iconst 1, 1) := by decide +kernel
theorem dX9_quarrel_42 : decode cX9_quarrel 42 = .ok (.if_icmp .ne 39, 3) := by decide +kernel
theorem dX9_quarrel_45 : decode cX9_quarrel 45 = .ok (.aload_n 0, 1) := by decide +kernel
theorem dX9_quarrel_46 : decode cX9_quarrel 46 = .ok (.getfield 98, 3) := by decide +kernel
theorem dX9_quarrel_49 : decode cX9_quarrel 49 = .ok (.iload 4, 2) := by decide +kernel
theorem dX9_quarrel_51 : decode cX9_quarrel 51 = .ok (.iaload, 1) := by decide +kernel
theorem dX9_quarrel_52 : decode cX9_quarrel 52 = .ok (.iconst 1, 1) := by decide +kernel
theorem dX9_quarrel_53 : decode cX9_quarrel 53 = .ok (.if_icmp .gt 18, 3) := by decide +kernel
theorem dX9_quarrel_56 : decode cX9_quarrel 56 = .ok (.iload_n 1, 1) := by decide +kernel
theorem dX9_quarrel_57 : decode cX9_quarrel 57 = .ok (.aload_n 0, 1) := by decide +kernel
theorem dX9_quarrel_58 : decode cX9_quarrel 58 = .ok (.getfield 104, 3) := by decide +kernel
theorem dX9_quarrel_61 : decode cX9_quarrel 61 = .ok (.iload 4, 2) := by decide +kernel
theorem dX9_quarrel_63 : decode cX9_quarrel 63 = .ok (.iaload, 1) := by decide +kernel
theorem dX9_quarrel_64 : decode cX9_quarrel 64 = .ok (.ishr, 1) := by decide +kernel
theorem dX9_quarrel_65 : decode cX9_quarrel 65 = .ok (.iconst 1, 1) := by decide +kernel
theorem dX9_quarrel_66 : decode cX9_quarrel 66 = .ok (.iand, 1) := by decide +kernel
theorem dX9_quarrel_67 : decode cX9_quarrel 67 = .ok (.iconst 1, 1) := by decide +kernel
theorem dX9_quarrel_68 : decode cX9_quarrel 68 = .ok (.if_icmp .ne 13, 3) := by decide +kernel
theorem dX9_quarrel_71 : decode cX9_quarrel 71 = .ok (.iload_n 3, 1) := by decide +kernel
theorem dX9_quarrel_72 : decode cX9_quarrel 72 = .ok (.aload_n 0, 1) := by decide +kernel
theorem dX9_quarrel_73 : decode cX9_quarrel 73 = .ok (.getfield 107, 3) := by decide +kernel
theorem dX9_quarrel_76 : decode cX9_quarrel 76 = .ok (.iload 4, 2) := by decide +kernel
theorem dX9_quarrel_78 : decode cX9_quarrel 78 = .ok (.iaload, 1) := by decide +kernel
theorem dX9_quarrel_79 : decode cX9_quarrel 79 = .ok (.iadd, 1) := by decide +kernel
theorem dX9_quarrel_80 : decode cX9_quarrel 80 = .ok (.istore_n 3, 1) := by decide +kernel
theorem dX9_quarrel_81 : decode cX9_quarrel 81 = .ok (.iinc 4 1, 3) := by decide +kernel
theorem dX9_quarrel_84 : decode cX9_quarrel 84 = .ok (.goto (-63), 3) := by decide +kernel
theorem dX9_quarrel_87 : decode cX9_quarrel 87 = .ok (.iload_n 3, 1) := by decide +kernel
theorem dX9_quarrel_88 : decode cX9_quarrel 88 = .ok (.aload_n 0, 1) := by decide +kernel
theorem dX9_quarrel_89 : decode cX9_quarrel 89 = .ok (.iload_n 1, 1) := by decide +kernel
theorem dX9_quarrel_90 : decode cX9_quarrel 90 = .ok (.invokevirtual 242, 3) := by decide +kernel
theorem dX9_quarrel_93 : decode cX9_quarrel 93 = .ok (.isub, 1) := by decide +kernel
theorem dX9_quarrel_94 : decode cX9_quarrel 94 = .ok (.ireturn, 1) := by decide +kernel
theorem dX9_part_0 : decode cX9_part 0 = .ok (.iload_n 1, 1) := by decide +kernel
theorem dX9_part_1 : decode cX9_part 1 = .ok (.bipush 10, 2) := by decide +kernel
theorem dX9_part_3 : decode cX9_part 3 = .ok (.invokestatic 126, 3) := by decide +kernel
theorem dX9_part_6 : decode cX9_part 6 = .ok (.ifCond .eq 12, 3) := by decide +kernel
theorem dX9_part_9 : decode cX9_part 9 = .ok (.iload_n 2, 1) := by decide +kernel
theorem dX9_part_10 : decode cX9_part 10 = .ok (.iconst 0, 1) := by decide +kernel
theorem dX9_part_11 : decode cX9_part 11 = .ok (.iconst 5, 1) := by decide +kernel
theorem dX9_part_12 : decode cX9_part 12 = .ok (.invokestatic 137, 3) := by decide +kernel
theorem dX9_part_15 : decode cX9_part 15 = .ok (.goto 4, 3) := by decide +kernel
theorem dX9_part_18 : decode cX9_part 18 = .ok (.iconst (-1), 1) := by decide +kernel
theorem dX9_part_19 : decode cX9_part 19 = .ok (.istore_n 3, 1) := by decide +kernel
theorem dX9_part_20 : decode cX9_part 20 = .ok (.iload_n 3, 1) := by decide +kernel
theorem dX9_part_21 : decode cX9_part 21 = .ok (.ifCond .eq 9, 3) := by decide +kernel
theorem dX9_part_24 : decode cX9_part 24 = .ok (.aload_n 0, 1) := by decide +kernel
theorem dX9_part_25 : decode cX9_part 25 = .ok (.iload_n 3, 1) := by decide +kernel
theorem dX9_part_26 : decode cX9_part 26 = .ok (.invokevirtual 130, 3) := by decide +kernel
theorem dX9_part_29 : decode cX9_part 29 = .ok (.ireturn, 1) := by decide +kernel
theorem dX9_part_30 : decode cX9_part 30 = .ok (.aload_n 0, 1) := by decide +kernel
theorem dX9_part_31 : decode cX9_part 31 = .ok (.getfield 119, 3) := by decide +kernel
theorem dX9_part_34 : decode cX9_part 34 = .ok (.iload_n 1, 1) := by decide +kernel
theorem dX9_part_35 : decode cX9_part 35 = .ok (.iaload, 1) := by decide +kernel
theorem dX9_part_36 : decode cX9_part 36 = .ok (.istore 4, 2) := by decide +kernel
theorem dX9_part_38 : decode cX9_part 38 = .ok (.aload_n 0, 1) := by decide +kernel
theorem dX9_part_39 : decode cX9_part 39 = .ok (.getfield 119, 3) := by decide +kernel
theorem dX9_part_42 : decode cX9_part 42 = .ok (.iload_n 1, 1) := by decide +kernel
theorem dX9_part_43 : decode cX9_part 43 = .ok (.iload_n 2, 1) := by decide +kernel
theorem dX9_part_44 : decode cX9_part 44 = .ok (.iastore, 1) := by decide +kernel
theorem dX9_part_45 : decode cX9_part 45 = .ok (.iload 4, 2) := by decide +kernel
theorem dX9_part_47 : decode cX9_part 47 = .ok (.ireturn, 1) := by decide +kernel
theorem dX9_clash_0 : decode cX9_clash 0 = .ok (.iload_n 1, 1) := by decide +kernel
theorem dX9_clash_1 : decode cX9_clash 1 = .ok (.ifCond .lt 7, 3) := by decide +kernel
theorem dX9_clash_4 : decode cX9_clash 4 = .ok (.iload_n 2, 1) := by decide +kernel
theorem dX9_clash_5 : decode cX9_clash 5 = .ok (.ifCond .ge 10, 3) := by decide +kernel
theorem dX9_clash_8 : decode cX9_clash 8 = .ok (.aload_n 0, 1) := by decide +kernel
theorem dX9_clash_9 : decode cX9_clash 9 = .ok (.bipush (-4), 2) := by decide +kernel
theorem dX9_clash_11 : decode cX9_clash 11 = .ok (.invokevirtual 130, 3) := by decide +kernel
theorem dX9_clash_14 : decode cX9_clash 14 = .ok (.ireturn, 1) := by decide +kernel
theorem dX9_clash_15 : decode cX9_clash 15 = .ok (.iload_n 1, 1) := by decide +kernel
theorem dX9_clash_16 : decode cX9_clash 16 = .ok (.bipush 6, 2) := by decide +kernel
theorem dX9_clash_18 : decode cX9_clash 18 = .ok (.if_icmp .ge 9, 3) := by decide +kernel
theorem dX9_clash_21 : decode cX9_clash 21 = .ok (.iload_n 2, 1) := by decide +kernel
theorem dX9_clash_22 : decode cX9_clash 22 = .ok (.bipush 6, 2) := by decide +kernel
theorem dX9_clash_24 : decode cX9_clash 24 = .ok (.if_icmp .lt 10, 3) := by decide +kernel
theorem dX9_clash_27 : decode cX9_clash 27 = .ok (.aload_n 0, 1) := by decide +kernel
theorem dX9_clash_28 : decode cX9_clash 28 = .ok (.bipush (-6), 2) := by decide +kernel
theorem dX9_clash_30 : decode cX9_clash 30 = .ok (.invokevirtual 130, 3) := by decide +kernel
theorem dX9_clash_33 : decode cX9_clash 33 = .ok (.ireturn, 1) := by decide +kernel
theorem dX9_clash_34 : decode cX9_clash 34 = .ok (.iload_n 1, 1) := by decide +kernel
theorem dX9_clash_35 : decode cX9_clash 35 = .ok (.iload_n 2, 1) := by decide +kernel
theorem dX9_clash_36 : decode cX9_clash 36 = .ok (.if_icmp .ne 10, 3) := by decide +kernel
theorem dX9_clash_39 : decode cX9_clash 39 = .ok (.aload_n 0, 1) := by decide +kernel
theorem dX9_clash_40 : decode cX9_clash 40 = .ok (.bipush (-3), 2) := by decide +kernel
theorem dX9_clash_42 : decode cX9_clash 42 = .ok (.invokevirtual 130, 3) := by decide +kernel
theorem dX9_clash_45 : decode cX9_clash 45 = .ok (.ireturn, 1) := by decide +kernel
theorem dX9_clash_46 : decode cX9_clash 46 = .ok (.aload_n 0, 1) := by decide +kernel
theorem dX9_clash_47 : decode cX9_clash 47 = .ok (.getfield 122, 3) := by decide +kernel
theorem dX9_clash_50 : decode cX9_clash 50 = .ok (.bipush 6, 2) := by decide +kernel
theorem dX9_clash_52 : decode cX9_clash 52 = .ok (.iload_n 1, 1) := by decide +kernel
theorem dX9_clash_53 : decode cX9_clash 53 = .ok (.imul, 1) := by decide +kernel
theorem dX9_clash_54 : decode cX9_clash 54 = .ok (.iload_n 2, 1) := by decide +kernel
theorem dX9_clash_55 : decode cX9_clash 55 = .ok (.iadd, 1) := by decide +kernel
theorem dX9_clash_56 : decode cX9_clash 56 = .ok (.baload, 1) := by decide +kernel
theorem dX9_clash_57 : decode cX9_clash 57 = .ok (.iload_n 3, 1) := by decide +kernel
theorem dX9_clash_58 : decode cX9_clash 58 = .ok (.if_icmp .ne 5, 3) := by decide +kernel
theorem dX9_clash_61 : decode cX9_clash 61 = .ok (.iconst 0, 1) := by decide +kernel
theorem dX9_clash_62 : decode cX9_clash 62 = .ok (.ireturn, 1) := by decide +kernel
theorem dX9_clash_63 : decode cX9_clash 63 = .ok (.aload_n 0, 1) := by decide +kernel
theorem dX9_clash_64 : decode cX9_clash 64 = .ok (.getfield 122, 3) := by decide +kernel
theorem dX9_clash_67 : decode cX9_clash 67 = .ok (.bipush 6, 2) := by decide +kernel
theorem dX9_clash_69 : decode cX9_clash 69 = .ok (.iload_n 1, 1) := by decide +kernel
theorem dX9_clash_70 : decode cX9_clash 70 = .ok (.imul, 1) := by decide +kernel
theorem dX9_clash_71 : decode cX9_clash 71 = .ok (.iload_n 2, 1) := by decide +kernel
theorem dX9_clash_72 : decode cX9_clash 72 = .ok (.iadd, 1) := by decide +kernel
theorem dX9_clash_73 : decode cX9_clash 73 = .ok (.iload_n 3, 1) := by decide +kernel
theorem dX9_clash_74 : decode cX9_clash 74 = .ok (.bastore, 1) := by decide +kernel
theorem dX9_clash_75 : decode cX9_clash 75 = .ok (.aload_n 0, 1) := by decide +kernel
theorem dX9_clash_76 : decode cX9_clash 76 = .ok (.getfield 122, 3) := by decide +kernel
theorem dX9_clash_79 : decode cX9_clash 79 = .ok (.bipush 6, 2) := by decide +kernel
theorem dX9_clash_81 : decode cX9_clash 81 = .ok (.iload_n 2, 1) := by decide +kernel
theorem dX9_clash_82 : decode cX9_clash 82 = .ok (.imul, 1) := by decide +kernel
theorem dX9_clash_83 : decode cX9_clash 83 = .ok (.iload_n 1, 1) := by decide +kernel
theorem dX9_clash_84 : decode cX9_clash 84 = .ok (.iadd, 1) := by decide +kernel
theorem dX9_clash_85 : decode cX9_clash 85 = .ok (.iload_n 3, 1) := by decide +kernel
theorem dX9_clash_86 : decode cX9_clash 86 = .ok (.bastore, 1) := by decide +kernel
theorem dX9_clash_87 : decode cX9_clash 87 = .ok (.iconst 1, 1) := by decide +kernel
theorem dX9_clash_88 : decode cX9_clash 88 = .ok (.ireturn, 1) := by decide +kernel
theorem dX9_isFake_0 : decode cX9_isFake 0 = .ok (.iconst 0, 1) := by decide +kernel
theorem dX9_isFake_1 : decode cX9_isFake 1 = .ok (.istore_n 2, 1) := by decide +kernel
theorem dX9_isFake_2 : decode cX9_isFake 2 = .ok (.iconst 0, 1) := by decide +kernel
theorem dX9_isFake_3 : decode cX9_isFake 3 = .ok (.istore_n 3, 1) := by decide +kernel
theorem dX9_isFake_4 : decode cX9_isFake 4 = .ok (.iload_n 3, 1) := by decide +kernel
theorem dX9_isFake_5 : decode cX9_isFake 5 = .ok (.bipush 10, 2) := by decide +kernel
theorem dX9_isFake_7 : decode cX9_isFake 7 = .ok (.if_icmp .ge 78, 3) := by decide +kernel
theorem dX9_isFake_10 : decode cX9_isFake 10 = .ok (.iconst 0, 1) := by decide +kernel
theorem dX9_isFake_11 : decode cX9_isFake 11 = .ok (.istore 4, 2) := by decide +kernel
theorem dX9_isFake_13 : decode cX9_isFake 13 = .ok (.iload 4, 2) := by decide +kernel
theorem dX9_isFake_15 : decode cX9_isFake 15 = .ok (.iload_n 3, 1) := by decide +kernel
theorem dX9_isFake_16 : decode cX9_isFake 16 = .ok (.if_icmp .ge 63, 3) := by decide +kernel
theorem dX9_isFake_19 : decode cX9_isFake 19 = .ok (.iload_n 2, 1) := by decide +kernel
theorem dX9_isFake_20 : decode cX9_isFake 20 = .ok (.ifCond .ne 47, 3) := by decide +kernel
theorem dX9_isFake_23 : decode cX9_isFake 23 = .ok (.iload_n 1, 1) := by decide +kernel
theorem dX9_isFake_24 : decode cX9_isFake 24 = .ok (.iload_n 3, 1) := by decide +kernel
theorem dX9_isFake_25 : decode cX9_isFake 25 = .ok (.ishr, 1) := by decide +kernel
theorem dX9_isFake_26 : decode cX9_isFake 26 = .ok (.iconst 1, 1) := by decide +kernel
theorem dX9_isFake_27 : decode cX9_isFake 27 = .ok (.iand, 1) := by decide +kernel
theorem dX9_isFake_28 : decode cX9_isFake 28 = .ok (.iconst 1, 1) := by decide +kernel
theorem dX9_isFake_29 : decode cX9_isFake 29 = .ok (.if_icmp .ne 42, 3) := by decide +kernel
theorem dX9_isFake_32 : decode cX9_isFake 32 = .ok (.iload_n 1, 1) := by decide +kernel
theorem dX9_isFake_33 : decode cX9_isFake 33 = .ok (.iload 4, 2) := by decide +kernel
theorem dX9_isFake_35 : decode cX9_isFake 35 = .ok (.ishr, 1) := by decide +kernel
theorem dX9_isFake_36 : decode cX9_isFake 36 = .ok (.iconst 1, 1) := by decide +kernel
theorem dX9_isFake_37 : decode cX9_isFake 37 = .ok (.iand, 1) := by decide +kernel
theorem dX9_isFake_38 : decode cX9_isFake 38 = .ok (.iconst 1, 1) := by decide +kernel
theorem dX9_isFake_39 : decode cX9_isFake 39 = .ok (.if_icmp .ne 32, 3) := by decide +kernel
theorem dX9_isFake_42 : decode cX9_isFake 42 = .ok (.aload_n 0, 1) := by decide +kernel
theorem dX9_isFake_43 : decode cX9_isFake 43 = .ok (.getfield 122, 3) := by decide +kernel
theorem dX9_isFake_46 : decode cX9_isFake 46 = .ok (.bipush 6, 2) := by decide +kernel
theorem dX9_isFake_48 : decode cX9_isFake 48 = .ok (.aload_n 0, 1) := by decide +kernel
theorem dX9_isFake_49 : decode cX9_isFake 49 = .ok (.getfield 119, 3) := by decide +kernel
theorem dX9_isFake_52 : decode cX9_isFake 52 = .ok (.iload_n 3, 1) := by decide +kernel
theorem dX9_isFake_53 : decode cX9_isFake 53 = .ok (.iaload, 1) := by decide +kernel
theorem dX9_isFake_54 : decode cX9_isFake 54 = .ok (.imul, 1) := by decide +kernel
theorem dX9_isFake_55 : decode cX9_isFake 55 = .ok (.aload_n 0, 1) := by decide +kernel
theorem dX9_isFake_56 : decode cX9_isFake 56 = .ok (.getfield 119, 3) := by decide +kernel
theorem dX9_isFake_59 : decode cX9_isFake 59 = .ok (.iload 4, 2) := by decide +kernel
theorem dX9_isFake_61 : decode cX9_isFake 61 = .ok (.iaload, 1) := by decide +kernel
theorem dX9_isFake_62 : decode cX9_isFake 62 = .ok (.iadd, 1) := by decide +kernel
theorem dX9_isFake_63 : decode cX9_isFake 63 = .ok (.baload, 1) := by decide +kernel
theorem dX9_isFake_64 : decode cX9_isFake 64 = .ok (.ifCond .eq 7, 3) := by decide +kernel
theorem dX9_isFake_67 : decode cX9_isFake 67 = .ok (.iconst 1, 1) := by decide +kernel
theorem dX9_isFake_68 : decode cX9_isFake 68 = .ok (.goto 4, 3) := by decide +kernel
theorem dX9_isFake_71 : decode cX9_isFake 71 = .ok (.iconst 0, 1) := by decide +kernel
theorem dX9_isFake_72 : decode cX9_isFake 72 = .ok (.istore_n 2, 1) := by decide +kernel
theorem dX9_isFake_73 : decode cX9_isFake 73 = .ok (.iinc 4 1, 3) := by decide +kernel
theorem dX9_isFake_76 : decode cX9_isFake 76 = .ok (.goto (-63), 3) := by decide +kernel
theorem dX9_isFake_79 : decode cX9_isFake 79 = .ok (.iinc 3 1, 3) := by decide +kernel
theorem dX9_isFake_82 : decode cX9_isFake 82 = .ok (.goto (-78), 3) := by decide +kernel
theorem dX9_isFake_85 : decode cX9_isFake 85 = .ok (.iload_n 2, 1) := by decide +kernel
theorem dX9_isFake_86 : decode cX9_isFake 86 = .ok (.ireturn, 1) := by decide +kernel
theorem dX9_isBeast_0 : decode cX9_isBeast 0 = .ok (.iload_n 0, 1) := by decide +kernel
theorem dX9_isBeast_1 : decode cX9_isBeast 1 = .ok (.ifCond .lt 14, 3) := by decide +kernel
theorem dX9_isBeast_4 : decode cX9_isBeast 4 = .ok (.iload_n 0, 1) := by decide +kernel
theorem dX9_isBeast_5 : decode cX9_isBeast 5 = .ok (.sipush 1024, 3) := by decide +kernel
theorem dX9_isBeast_8 : decode cX9_isBeast 8 = .ok (.if_icmp .ge 7, 3) := by decide +kernel
theorem dX9_isBeast_11 : decode cX9_isBeast 11 = .ok (.iconst 1, 1) := by decide +kernel
theorem dX9_isBeast_12 : decode cX9_isBeast 12 = .ok (.goto 4, 3) := by decide +kernel
theorem dX9_isBeast_15 : decode cX9_isBeast 15 = .ok (.iconst 0, 1) := by decide +kernel
theorem dX9_isBeast_16 : decode cX9_isBeast 16 = .ok (.ireturn, 1) := by decide +kernel
theorem dX9_fake_0 : decode cX9_fake 0 = .ok (.iload_n 1, 1) := by decide +kernel
theorem dX9_fake_1 : decode cX9_fake 1 = .ok (.invokestatic 245, 3) := by decide +kernel
theorem dX9_fake_4 : decode cX9_fake 4 = .ok (.ifCond .eq 19, 3) := by decide +kernel
theorem dX9_fake_7 : decode cX9_fake 7 = .ok (.aload_n 0, 1) := by decide +kernel
theorem dX9_fake_8 : decode cX9_fake 8 = .ok (.iload_n 1, 1) := by decide +kernel
theorem dX9_fake_9 : decode cX9_fake 9 = .ok (.invokevirtual 249, 3) := by decide +kernel
theorem dX9_fake_12 : decode cX9_fake 12 = .ok (.ifCond .eq 7, 3) := by decide +kernel
theorem dX9_fake_15 : decode cX9_fake 15 = .ok (.iconst 1, 1) := by decide +kernel
theorem dX9_fake_16 : decode cX9_fake 16 = .ok (.goto 12, 3) := by decide +kernel
theorem dX9_fake_19 : decode cX9_fake 19 = .ok (.iconst 0, 1) := by decide +kernel
theorem dX9_fake_20 : decode cX9_fake 20 = .ok (.goto 8, 3) := by decide +kernel
theorem dX9_fake_23 : decode cX9_fake 23 = .ok (.aload_n 0, 1) := by decide +kernel
theorem dX9_fake_24 : decode cX9_fake 24 = .ok (.iconst (-1), 1) := by decide +kernel
theorem dX9_fake_25 : decode cX9_fake 25 = .ok (.invokevirtual 130, 3) := by decide +kernel
theorem dX9_fake_28 : decode cX9_fake 28 = .ok (.ireturn, 1) := by decide +kernel
theorem dX9_least_0 : decode cX9_least 0 = .ok (.iload_n 1, 1) := by decide +kernel
theorem dX9_least_1 : decode cX9_least 1 = .ok (.invokestatic 245, 3) := by decide +kernel
theorem dX9_least_4 : decode cX9_least 4 = .ok (.ifCond .ne 9, 3) := by decide +kernel
theorem dX9_least_7 : decode cX9_least 7 = .ok (.aload_n 0, 1) := by decide +kernel
theorem dX9_least_8 : decode cX9_least 8 = .ok (.iconst (-1), 1) := by decide +kernel
theorem dX9_least_9 : decode cX9_least 9 = .ok (.invokevirtual 130, 3) := by decide +kernel
theorem dX9_least_12 : decode cX9_least 12 = .ok (.ireturn, 1) := by decide +kernel
theorem dX9_least_13 : decode cX9_least 13 = .ok (.iload_n 1, 1) := by decide +kernel
theorem dX9_least_14 : decode cX9_least 14 = .ok (.istore_n 2, 1) := by decide +kernel
theorem dX9_least_15 : decode cX9_least 15 = .ok (.iconst 0, 1) := by decide +kernel
theorem dX9_least_16 : decode cX9_least 16 = .ok (.istore_n 3, 1) := by decide +kernel
theorem dX9_least_17 : decode cX9_least 17 = .ok (.iload_n 3, 1) := by decide +kernel
theorem dX9_least_18 : decode cX9_least 18 = .ok (.sipush 1024, 3) := by decide +kernel
theorem dX9_least_21 : decode cX9_least 21 = .ok (.if_icmp .ge 42, 3) := by decide +kernel
theorem dX9_least_24 : decode cX9_least 24 = .ok (.iload_n 3, 1) := by decide +kernel
theorem dX9_least_25 : decode cX9_least 25 = .ok (.iload_n 1, 1) := by decide +kernel
theorem dX9_least_26 : decode cX9_least 26 = .ok (.iconst (-1), 1) := by decide +kernel
theorem dX9_least_27 : decode cX9_least 27 = .ok (.ixor, 1) := by decide +kernel
theorem dX9_least_28 : decode cX9_least 28 = .ok (.iand, 1) := by decide +kernel
theorem dX9_least_29 : decode cX9_least 29 = .ok (.ifCond .ne 28, 3) := by decide +kernel
theorem dX9_least_32 : decode cX9_least 32 = .ok (.iload_n 3, 1) := by decide +kernel
theorem dX9_least_33 : decode cX9_least 33 = .ok (.invokestatic 159, 3) := by decide +kernel
theorem dX9_least_36 : decode cX9_least 36 = .ok (.iload_n 2, 1) := by decide +kernel
theorem dX9_least_37 : decode cX9_least 37 = .ok (.invokestatic 159, 3) := by decide +kernel
theorem dX9_least_40 : decode cX9_least 40 = .ok (.if_icmp .ge 17, 3) := by decide +kernel
theorem dX9_least_43 : decode cX9_least 43 = .ok (.aload_n 0, 1) := by decide +kernel
theorem dX9_least_44 : decode cX9_least 44 = .ok (.iload_n 1, 1) := by decide +kernel
theorem dX9_least_45 : decode cX9_least 45 = .ok (.iload_n 3, 1) := by decide +kernel
theorem dX9_least_46 : decode cX9_least 46 = .ok (.iconst (-1), 1) := by decide +kernel
theorem dX9_least_47 : decode cX9_least 47 = .ok (.ixor, 1) := by decide +kernel
theorem dX9_least_48 : decode cX9_least 48 = .ok (.iand, 1) := by decide +kernel
theorem dX9_least_49 : decode cX9_least 49 = .ok (.invokevirtual 249, 3) := by decide +kernel
theorem dX9_least_52 : decode cX9_least 52 = .ok (.ifCond .ne 5, 3) := by decide +kernel
theorem dX9_least_55 : decode cX9_least 55 = .ok (.iload_n 3, 1) := by decide +kernel
theorem dX9_least_56 : decode cX9_least 56 = .ok (.istore_n 2, 1) := by decide +kernel
theorem dX9_least_57 : decode cX9_least 57 = .ok (.iinc 3 1, 3) := by decide +kernel
theorem dX9_least_60 : decode cX9_least 60 = .ok (.goto (-43), 3) := by decide +kernel
theorem dX9_least_63 : decode cX9_least 63 = .ok (.aload_n 0, 1) := by decide +kernel
theorem dX9_least_64 : decode cX9_least 64 = .ok (.iload_n 1, 1) := by decide +kernel
theorem dX9_least_65 : decode cX9_least 65 = .ok (.invokevirtual 249, 3) := by decide +kernel
theorem dX9_least_68 : decode cX9_least 68 = .ok (.ifCond .eq 7, 3) := by decide +kernel
theorem dX9_least_71 : decode cX9_least 71 = .ok (.iload_n 2, 1) := by decide +kernel
theorem dX9_least_72 : decode cX9_least 72 = .ok (.goto 4, 3) := by decide +kernel
theorem dX9_least_75 : decode cX9_least 75 = .ok (.iconst 0, 1) := by decide +kernel
theorem dX9_least_76 : decode cX9_least 76 = .ok (.ireturn, 1) := by decide +kernel
theorem dX9_count_0 : decode cX9_count 0 = .ok (.iload_n 1, 1) := by decide +kernel
theorem dX9_count_1 : decode cX9_count 1 = .ok (.bipush 10, 2) := by decide +kernel
theorem dX9_count_3 : decode cX9_count 3 = .ok (.if_icmp .le 19, 3) := by decide +kernel
theorem dX9_count_6 : decode cX9_count 6 = .ok (.iload_n 1, 1) := by decide +kernel
theorem dX9_count_7 : decode cX9_count 7 = .ok (.bipush 17, 2) := by decide +kernel
theorem dX9_count_9 : decode cX9_count 9 = .ok (.if_icmp .ge 13, 3) := by decide +kernel
theorem dX9_count_12 : decode cX9_count 12 = .ok (.aload_n 0, 1) := by decide +kernel
theorem dX9_count_13 : decode cX9_count 13 = .ok (.getfield 7, 3) := by decide +kernel
theorem dX9_count_16 : decode cX9_count 16 = .ok (.iload_n 1, 1) := by decide +kernel
theorem dX9_count_17 : decode cX9_count 17 = .ok (.bipush 10, 2) := by decide +kernel
theorem dX9_count_19 : decode cX9_count 19 = .ok (.isub, 1) := by decide +kernel
theorem dX9_count_20 : decode cX9_count 20 = .ok (.iaload, 1) := by decide +kernel
theorem dX9_count_21 : decode cX9_count 21 = .ok (.ireturn, 1) := by decide +kernel
theorem dX9_count_22 : decode cX9_count 22 = .ok (.iload_n 1, 1) := by decide +kernel
theorem dX9_count_23 : decode cX9_count 23 = .ok (.iconst 4, 1) := by decide +kernel
theorem dX9_count_24 : decode cX9_count 24 = .ok (.invokestatic 126, 3) := by decide +kernel
theorem dX9_count_27 : decode cX9_count 27 = .ok (.ifCond .eq 10, 3) := by decide +kernel
theorem dX9_count_30 : decode cX9_count 30 = .ok (.aload_n 0, 1) := by decide +kernel
theorem dX9_count_31 : decode cX9_count 31 = .ok (.getfield 19, 3) := by decide +kernel
theorem dX9_count_34 : decode cX9_count 34 = .ok (.iload_n 1, 1) := by decide +kernel
theorem dX9_count_35 : decode cX9_count 35 = .ok (.iaload, 1) := by decide +kernel
theorem dX9_count_36 : decode cX9_count 36 = .ok (.ireturn, 1) := by decide +kernel
theorem dX9_count_37 : decode cX9_count 37 = .ok (.iconst 0, 1) := by decide +kernel
theorem dX9_count_38 : decode cX9_count 38 = .ok (.istore_n 2, 1) := by decide +kernel
theorem dX9_count_39 : decode cX9_count 39 = .ok (.iload_n 1, 1) := by decide +kernel
theorem dX9_count_40 : decode cX9_count 40 = .ok (.tableswitch 186 4 9 #[40, 45, 50, 55, 60, 114], 40) := by decide +kernel
theorem dX9_count_80 : decode cX9_count 80 = .ok (.aload_n 0, 1) := by decide +kernel
theorem dX9_count_81 : decode cX9_count 81 = .ok (.getfield 198, 3) := by decide +kernel
theorem dX9_count_84 : decode cX9_count 84 = .ok (.ireturn, 1) := by decide +kernel
theorem dX9_count_85 : decode cX9_count 85 = .ok (.aload_n 0, 1) := by decide +kernel
theorem dX9_count_86 : decode cX9_count 86 = .ok (.getfield 202, 3) := by decide +kernel
theorem dX9_count_89 : decode cX9_count 89 = .ok (.ireturn, 1) := by decide +kernel
theorem dX9_count_90 : decode cX9_count 90 = .ok (.aload_n 0, 1) := by decide +kernel
theorem dX9_count_91 : decode cX9_count 91 = .ok (.getfield 227, 3) := by decide +kernel
theorem dX9_count_94 : decode cX9_count 94 = .ok (.ireturn, 1) := by decide +kernel
theorem dX9_count_95 : decode cX9_count 95 = .ok (.aload_n 0, 1) := by decide +kernel
theorem dX9_count_96 : decode cX9_count 96 = .ok (.getfield 142, 3) := by decide +kernel
theorem dX9_count_99 : decode cX9_count 99 = .ok (.ireturn, 1) := by decide +kernel
theorem dX9_count_100 : decode cX9_count 100 = .ok (.iconst 0, 1) := by decide +kernel
theorem dX9_count_101 : decode cX9_count 101 = .ok (.istore_n 3, 1) := by decide +kernel
theorem dX9_count_102 : decode cX9_count 102 = .ok (.iload_n 3, 1) := by decide +kernel
theorem dX9_count_103 : decode cX9_count 103 = .ok (.bipush 6, 2) := by decide +kernel
theorem dX9_count_105 : decode cX9_count 105 = .ok (.if_icmp .ge 47, 3) := by decide +kernel
theorem dX9_count_108 : decode cX9_count 108 = .ok (.iconst 0, 1) := by decide +kernel
theorem dX9_count_109 : decode cX9_count 109 = .ok (.istore 4, 2) := by decide +kernel
theorem dX9_count_111 : decode cX9_count 111 = .ok (.iload 4, 2) := by decide +kernel
theorem dX9_count_113 : decode cX9_count 113 = .ok (.iload_n 3, 1) := by decide +kernel
theorem dX9_count_114 : decode cX9_count 114 = .ok (.if_icmp .ge 32, 3) := by decide +kernel
theorem dX9_count_117 : decode cX9_count 117 = .ok (.iload_n 2, 1) := by decide +kernel
theorem dX9_count_118 : decode cX9_count 118 = .ok (.aload_n 0, 1) := by decide +kernel
theorem dX9_count_119 : decode cX9_count 119 = .ok (.getfield 122, 3) := by decide +kernel
theorem dX9_count_122 : decode cX9_count 122 = .ok (.bipush 6, 2) := by decide +kernel
theorem dX9_count_124 : decode cX9_count 124 = .ok (.iload_n 3, 1) := by decide +kernel
theorem dX9_count_125 : decode cX9_count 125 = .ok (.imul, 1) := by decide +kernel
theorem dX9_count_126 : decode cX9_count 126 = .ok (.iload 4, 2) := by decide +kernel
theorem dX9_count_128 : decode cX9_count 128 = .ok (.iadd, 1) := by decide +kernel
theorem dX9_count_129 : decode cX9_count 129 = .ok (.baload, 1) := by decide +kernel
theorem dX9_count_130 : decode cX9_count 130 = .ok (.ifCond .eq 7, 3) := by decide +kernel
theorem dX9_count_133 : decode cX9_count 133 = .ok (.iconst 1, 1) := by decide +kernel
theorem dX9_count_134 : decode cX9_count 134 = .ok (.goto 4, 3) := by decide +kernel
theorem dX9_count_137 : decode cX9_count 137 = .ok (.iconst 0, 1) := by decide +kernel
theorem dX9_count_138 : decode cX9_count 138 = .ok (.iadd, 1) := by decide +kernel
theorem dX9_count_139 : decode cX9_count 139 = .ok (.istore_n 2, 1) := by decide +kernel
theorem dX9_count_140 : decode cX9_count 140 = .ok (.iinc 4 1, 3) := by decide +kernel
theorem dX9_count_143 : decode cX9_count 143 = .ok (.goto (-32), 3) := by decide +kernel
theorem dX9_count_146 : decode cX9_count 146 = .ok (.iinc 3 1, 3) := by decide +kernel
theorem dX9_count_149 : decode cX9_count 149 = .ok (.goto (-47), 3) := by decide +kernel
theorem dX9_count_152 : decode cX9_count 152 = .ok (.iload_n 2, 1) := by decide +kernel
theorem dX9_count_153 : decode cX9_count 153 = .ok (.ireturn, 1) := by decide +kernel
theorem dX9_count_154 : decode cX9_count 154 = .ok (.iconst 0, 1) := by decide +kernel
theorem dX9_count_155 : decode cX9_count 155 = .ok (.istore_n 3, 1) := by decide +kernel
theorem dX9_count_156 : decode cX9_count 156 = .ok (.iload_n 3, 1) := by decide +kernel
theorem dX9_count_157 : decode cX9_count 157 = .ok (.aload_n 0, 1) := by decide +kernel
theorem dX9_count_158 : decode cX9_count 158 = .ok (.getfield 198, 3) := by decide +kernel
theorem dX9_count_161 : decode cX9_count 161 = .ok (.if_icmp .ge 28, 3) := by decide +kernel
theorem dX9_count_164 : decode cX9_count 164 = .ok (.iload_n 2, 1) := by decide +kernel
theorem dX9_count_165 : decode cX9_count 165 = .ok (.aload_n 0, 1) := by decide +kernel
theorem dX9_count_166 : decode cX9_count 166 = .ok (.getfield 71, 3) := by decide +kernel
theorem dX9_count_169 : decode cX9_count 169 = .ok (.iload_n 3, 1) := by decide +kernel
theorem dX9_count_170 : decode cX9_count 170 = .ok (.iaload, 1) := by decide +kernel
theorem dX9_count_171 : decode cX9_count 171 = .ok (.ldc 201, 2) := by decide +kernel
theorem dX9_count_173 : decode cX9_count 173 = .ok (.if_icmp .ge 7, 3) := by decide +kernel
theorem dX9_count_176 : decode cX9_count 176 = .ok (.iconst 1, 1) := by decide +kernel
theorem dX9_count_177 : decode cX9_count 177 = .ok (.goto 4, 3) := by decide +kernel
theorem dX9_count_180 : decode cX9_count 180 = .ok (.iconst 0, 1) := by decide +kernel
theorem dX9_count_181 : decode cX9_count 181 = .ok (.iadd, 1) := by decide +kernel
theorem dX9_count_182 : decode cX9_count 182 = .ok (.istore_n 2, 1) := by decide +kernel
theorem dX9_count_183 : decode cX9_count 183 = .ok (.iinc 3 1, 3) := by decide +kernel
theorem dX9_count_186 : decode cX9_count 186 = .ok (.goto (-30), 3) := by decide +kernel
theorem dX9_count_189 : decode cX9_count 189 = .ok (.iconst 0, 1) := by decide +kernel
theorem dX9_count_190 : decode cX9_count 190 = .ok (.istore_n 3, 1) := by decide +kernel
theorem dX9_count_191 : decode cX9_count 191 = .ok (.iload_n 3, 1) := by decide +kernel
theorem dX9_count_192 : decode cX9_count 192 = .ok (.aload_n 0, 1) := by decide +kernel
theorem dX9_count_193 : decode cX9_count 193 = .ok (.getfield 202, 3) := by decide +kernel
theorem dX9_count_196 : decode cX9_count 196 = .ok (.if_icmp .ge 28, 3) := by decide +kernel
theorem dX9_count_199 : decode cX9_count 199 = .ok (.iload_n 2, 1) := by decide +kernel
theorem dX9_count_200 : decode cX9_count 200 = .ok (.aload_n 0, 1) := by decide +kernel
theorem dX9_count_201 : decode cX9_count 201 = .ok (.getfield 89, 3) := by decide +kernel
theorem dX9_count_204 : decode cX9_count 204 = .ok (.iload_n 3, 1) := by decide +kernel
theorem dX9_count_205 : decode cX9_count 205 = .ok (.iaload, 1) := by decide +kernel
theorem dX9_count_206 : decode cX9_count 206 = .ok (.ldc 201, 2) := by decide +kernel
theorem dX9_count_208 : decode cX9_count 208 = .ok (.if_icmp .ge 7, 3) := by decide +kernel
theorem dX9_count_211 : decode cX9_count 211 = .ok (.iconst 1, 1) := by decide +kernel
theorem dX9_count_212 : decode cX9_count 212 = .ok (.goto 4, 3) := by decide +kernel
theorem dX9_count_215 : decode cX9_count 215 = .ok (.iconst 0, 1) := by decide +kernel
theorem dX9_count_216 : decode cX9_count 216 = .ok (.iadd, 1) := by decide +kernel
theorem dX9_count_217 : decode cX9_count 217 = .ok (.istore_n 2, 1) := by decide +kernel
theorem dX9_count_218 : decode cX9_count 218 = .ok (.iinc 3 1, 3) := by decide +kernel
theorem dX9_count_221 : decode cX9_count 221 = .ok (.goto (-30), 3) := by decide +kernel
theorem dX9_count_224 : decode cX9_count 224 = .ok (.iload_n 2, 1) := by decide +kernel
theorem dX9_count_225 : decode cX9_count 225 = .ok (.ireturn, 1) := by decide +kernel
theorem dX9_count_226 : decode cX9_count 226 = .ok (.bipush (-9), 2) := by decide +kernel
theorem dX9_count_228 : decode cX9_count 228 = .ok (.ireturn, 1) := by decide +kernel
theorem dJ6_bitCount_0f7a4_0 : decode cJ6_bitCount_0f7a4 0 = .ok (.iload_n 0, 1) := by decide +kernel
theorem dJ6_bitCount_0f7a4_1 : decode cJ6_bitCount_0f7a4 1 = .ok (.iload_n 0, 1) := by decide +kernel
theorem dJ6_bitCount_0f7a4_2 : decode cJ6_bitCount_0f7a4 2 = .ok (.iconst 1, 1) := by decide +kernel
theorem dJ6_bitCount_0f7a4_3 : decode cJ6_bitCount_0f7a4 3 = .ok (.iushr, 1) := by decide +kernel
theorem dJ6_bitCount_0f7a4_4 : decode cJ6_bitCount_0f7a4 4 = .ok (.ldc_w 265, 3) := by decide +kernel
theorem dJ6_bitCount_0f7a4_7 : decode cJ6_bitCount_0f7a4 7 = .ok (.iand, 1) := by decide +kernel
theorem dJ6_bitCount_0f7a4_8 : decode cJ6_bitCount_0f7a4 8 = .ok (.isub, 1) := by decide +kernel
theorem dJ6_bitCount_0f7a4_9 : decode cJ6_bitCount_0f7a4 9 = .ok (.istore_n 0, 1) := by decide +kernel
theorem dJ6_bitCount_0f7a4_10 : decode cJ6_bitCount_0f7a4 10 = .ok (.iload_n 0, 1) := by decide +kernel
theorem dJ6_bitCount_0f7a4_11 : decode cJ6_bitCount_0f7a4 11 = .ok (.ldc_w 266, 3) := by decide +kernel
theorem dJ6_bitCount_0f7a4_14 : decode cJ6_bitCount_0f7a4 14 = .ok (.iand, 1) := by decide +kernel
theorem dJ6_bitCount_0f7a4_15 : decode cJ6_bitCount_0f7a4 15 = .ok (.iload_n 0, 1) := by decide +kernel
theorem dJ6_bitCount_0f7a4_16 : decode cJ6_bitCount_0f7a4 16 = .ok (.iconst 2, 1) := by decide +kernel
theorem dJ6_bitCount_0f7a4_17 : decode cJ6_bitCount_0f7a4 17 = .ok (.iushr, 1) := by decide +kernel
theorem dJ6_bitCount_0f7a4_18 : decode cJ6_bitCount_0f7a4 18 = .ok (.ldc_w 266, 3) := by decide +kernel
theorem dJ6_bitCount_0f7a4_21 : decode cJ6_bitCount_0f7a4 21 = .ok (.iand, 1) := by decide +kernel
theorem dJ6_bitCount_0f7a4_22 : decode cJ6_bitCount_0f7a4 22 = .ok (.iadd, 1) := by decide +kernel
theorem dJ6_bitCount_0f7a4_23 : decode cJ6_bitCount_0f7a4 23 = .ok (.istore_n 0, 1) := by decide +kernel
theorem dJ6_bitCount_0f7a4_24 : decode cJ6_bitCount_0f7a4 24 = .ok (.iload_n 0, 1) := by decide +kernel
theorem dJ6_bitCount_0f7a4_25 : decode cJ6_bitCount_0f7a4 25 = .ok (.iload_n 0, 1) := by decide +kernel
theorem dJ6_bitCount_0f7a4_26 : decode cJ6_bitCount_0f7a4 26 = .ok (.iconst 4, 1) := by decide +kernel
theorem dJ6_bitCount_0f7a4_27 : decode cJ6_bitCount_0f7a4 27 = .ok (.iushr, 1) := by decide +kernel
theorem dJ6_bitCount_0f7a4_28 : decode cJ6_bitCount_0f7a4 28 = .ok (.iadd, 1) := by decide +kernel
theorem dJ6_bitCount_0f7a4_29 : decode cJ6_bitCount_0f7a4 29 = .ok (.ldc_w 267, 3) := by decide +kernel
theorem dJ6_bitCount_0f7a4_32 : decode cJ6_bitCount_0f7a4 32 = .ok (.iand, 1) := by decide +kernel
theorem dJ6_bitCount_0f7a4_33 : decode cJ6_bitCount_0f7a4 33 = .ok (.istore_n 0, 1) := by decide +kernel
theorem dJ6_bitCount_0f7a4_34 : decode cJ6_bitCount_0f7a4 34 = .ok (.iload_n 0, 1) := by decide +kernel
theorem dJ6_bitCount_0f7a4_35 : decode cJ6_bitCount_0f7a4 35 = .ok (.iload_n 0, 1) := by decide +kernel
theorem dJ6_bitCount_0f7a4_36 : decode cJ6_bitCount_0f7a4 36 = .ok (.bipush 8, 2) := by decide +kernel
theorem dJ6_bitCount_0f7a4_38 : decode cJ6_bitCount_0f7a4 38 = .ok (.iushr, 1) := by decide +kernel
theorem dJ6_bitCount_0f7a4_39 : decode cJ6_bitCount_0f7a4 39 = .ok (.iadd, 1) := by decide +kernel
theorem dJ6_bitCount_0f7a4_40 : decode cJ6_bitCount_0f7a4 40 = .ok (.istore_n 0, 1) := by decide +kernel
theorem dJ6_bitCount_0f7a4_41 : decode cJ6_bitCount_0f7a4 41 = .ok (.iload_n 0, 1) := by decide +kernel
theorem dJ6_bitCount_0f7a4_42 : decode cJ6_bitCount_0f7a4 42 = .ok (.iload_n 0, 1) := by decide +kernel
theorem dJ6_bitCount_0f7a4_43 : decode cJ6_bitCount_0f7a4 43 = .ok (.bipush 16, 2) := by decide +kernel
theorem dJ6_bitCount_0f7a4_45 : decode cJ6_bitCount_0f7a4 45 = .ok (.iushr, 1) := by decide +kernel
theorem dJ6_bitCount_0f7a4_46 : decode cJ6_bitCount_0f7a4 46 = .ok (.iadd, 1) := by decide +kernel
theorem dJ6_bitCount_0f7a4_47 : decode cJ6_bitCount_0f7a4 47 = .ok (.istore_n 0, 1) := by decide +kernel
theorem dJ6_bitCount_0f7a4_48 : decode cJ6_bitCount_0f7a4 48 = .ok (.iload_n 0, 1) := by decide +kernel
theorem dJ6_bitCount_0f7a4_49 : decode cJ6_bitCount_0f7a4 49 = .ok (.bipush 63, 2) := by decide +kernel
theorem dJ6_bitCount_0f7a4_51 : decode cJ6_bitCount_0f7a4 51 = .ok (.iand, 1) := by decide +kernel
theorem dJ6_bitCount_0f7a4_52 : decode cJ6_bitCount_0f7a4 52 = .ok (.ireturn, 1) := by decide +kernel
theorem dJ9_abs_0f7a4_0 : decode cJ9_abs_0f7a4 0 = .ok (.iload_n 0, 1) := by decide +kernel
theorem dJ9_abs_0f7a4_1 : decode cJ9_abs_0f7a4 1 = .ok (.ifCond .ge 8, 3) := by decide +kernel
theorem dJ9_abs_0f7a4_4 : decode cJ9_abs_0f7a4 4 = .ok (.iload_n 0, 1) := by decide +kernel
theorem dJ9_abs_0f7a4_5 : decode cJ9_abs_0f7a4 5 = .ok (.ineg, 1) := by decide +kernel
theorem dJ9_abs_0f7a4_6 : decode cJ9_abs_0f7a4 6 = .ok (.goto 4, 3) := by decide +kernel
theorem dJ9_abs_0f7a4_9 : decode cJ9_abs_0f7a4 9 = .ok (.iload_n 0, 1) := by decide +kernel
theorem dJ9_abs_0f7a4_10 : decode cJ9_abs_0f7a4 10 = .ok (.ireturn, 1) := by decide +kernel
theorem dJ9_max_7cf53_0 : decode cJ9_max_7cf53 0 = .ok (.iload_n 0, 1) := by decide +kernel
theorem dJ9_max_7cf53_1 : decode cJ9_max_7cf53 1 = .ok (.iload_n 1, 1) := by decide +kernel
theorem dJ9_max_7cf53_2 : decode cJ9_max_7cf53 2 = .ok (.if_icmp .lt 7, 3) := by decide +kernel
theorem dJ9_max_7cf53_5 : decode cJ9_max_7cf53 5 = .ok (.iload_n 0, 1) := by decide +kernel
theorem dJ9_max_7cf53_6 : decode cJ9_max_7cf53 6 = .ok (.goto 4, 3) := by decide +kernel
theorem dJ9_max_7cf53_9 : decode cJ9_max_7cf53 9 = .ok (.iload_n 1, 1) := by decide +kernel
theorem dJ9_max_7cf53_10 : decode cJ9_max_7cf53 10 = .ok (.ireturn, 1) := by decide +kernel
theorem dJ9_min_7cf53_0 : decode cJ9_min_7cf53 0 = .ok (.iload_n 0, 1) := by decide +kernel
theorem dJ9_min_7cf53_1 : decode cJ9_min_7cf53 1 = .ok (.iload_n 1, 1) := by decide +kernel
theorem dJ9_min_7cf53_2 : decode cJ9_min_7cf53 2 = .ok (.if_icmp .gt 7, 3) := by decide +kernel
theorem dJ9_min_7cf53_5 : decode cJ9_min_7cf53 5 = .ok (.iload_n 0, 1) := by decide +kernel
theorem dJ9_min_7cf53_6 : decode cJ9_min_7cf53 6 = .ok (.goto 4, 3) := by decide +kernel
theorem dJ9_min_7cf53_9 : decode cJ9_min_7cf53 9 = .ok (.iload_n 1, 1) := by decide +kernel
theorem dJ9_min_7cf53_10 : decode cJ9_min_7cf53 10 = .ok (.ireturn, 1) := by decide +kernel
theorem dL_law_0 : decode cL_law 0 = .ok (.new 7, 3) := by decide +kernel
theorem dL_law_3 : decode cL_law 3 = .ok (.dup, 1) := by decide +kernel
theorem dL_law_4 : decode cL_law 4 = .ok (.invokespecial 9, 3) := by decide +kernel
theorem dL_law_7 : decode cL_law 7 = .ok (.astore_n 1, 1) := by decide +kernel
theorem dL_law_8 : decode cL_law 8 = .ok (.new 10, 3) := by decide +kernel
theorem dL_law_11 : decode cL_law 11 = .ok (.dup, 1) := by decide +kernel
theorem dL_law_12 : decode cL_law 12 = .ok (.invokespecial 12, 3) := by decide +kernel
theorem dL_law_15 : decode cL_law 15 = .ok (.astore_n 2, 1) := by decide +kernel
theorem dL_law_16 : decode cL_law 16 = .ok (.iconst 0, 1) := by decide +kernel
theorem dL_law_17 : decode cL_law 17 = .ok (.istore_n 3, 1) := by decide +kernel
theorem dL_law_18 : decode cL_law 18 = .ok (.iload_n 3, 1) := by decide +kernel
theorem dL_law_19 : decode cL_law 19 = .ok (.aload_n 0, 1) := by decide +kernel
theorem dL_law_20 : decode cL_law 20 = .ok (.arraylength, 1) := by decide +kernel
theorem dL_law_21 : decode cL_law 21 = .ok (.bipush 6, 2) := by decide +kernel
theorem dL_law_23 : decode cL_law 23 = .ok (.isub, 1) := by decide +kernel
theorem dL_law_24 : decode cL_law 24 = .ok (.if_icmp .gt 1325, 3) := by decide +kernel
theorem dL_law_27 : decode cL_law 27 = .ok (.aload_n 0, 1) := by decide +kernel
theorem dL_law_28 : decode cL_law 28 = .ok (.iload_n 3, 1) := by decide +kernel
theorem dL_law_29 : decode cL_law 29 = .ok (.iaload, 1) := by decide +kernel
theorem dL_law_30 : decode cL_law 30 = .ok (.bipush 31, 2) := by decide +kernel
theorem dL_law_32 : decode cL_law 32 = .ok (.iand, 1) := by decide +kernel
theorem dL_law_33 : decode cL_law 33 = .ok (.tableswitch 1310 0 28 #[131, 164, 187, 220, 283, 316, 369, 422, 455, 498, 531, 574, 627, 670, 723, 786, 845, 888, 921, 974, 1017, 1070, 1093, 1126, 1149, 1182, 1241, 1264, 1287], 131) := by decide +kernel
theorem dL_law_164 : decode cL_law 164 = .ok (.aload_n 1, 1) := by decide +kernel
theorem dL_law_165 : decode cL_law 165 = .ok (.aload_n 0, 1) := by decide +kernel
theorem dL_law_166 : decode cL_law 166 = .ok (.iload_n 3, 1) := by decide +kernel
theorem dL_law_167 : decode cL_law 167 = .ok (.iconst 1, 1) := by decide +kernel
theorem dL_law_168 : decode cL_law 168 = .ok (.iadd, 1) := by decide +kernel
theorem dL_law_169 : decode cL_law 169 = .ok (.iaload, 1) := by decide +kernel
theorem dL_law_170 : decode cL_law 170 = .ok (.aload_n 0, 1) := by decide +kernel
theorem dL_law_171 : decode cL_law 171 = .ok (.iload_n 3, 1) := by decide +kernel
theorem dL_law_172 : decode cL_law 172 = .ok (.iconst 2, 1) := by decide +kernel
theorem dL_law_173 : decode cL_law 173 = .ok (.iadd, 1) := by decide +kernel
theorem dL_law_174 : decode cL_law 174 = .ok (.iaload, 1) := by decide +kernel
theorem dL_law_175 : decode cL_law 175 = .ok (.invokevirtual 13, 3) := by decide +kernel
theorem dL_law_178 : decode cL_law 178 = .ok (.pop, 1) := by decide +kernel
theorem dL_law_179 : decode cL_law 179 = .ok (.aload_n 2, 1) := by decide +kernel
theorem dL_law_180 : decode cL_law 180 = .ok (.aload_n 0, 1) := by decide +kernel
theorem dL_law_181 : decode cL_law 181 = .ok (.iload_n 3, 1) := by decide +kernel
theorem dL_law_182 : decode cL_law 182 = .ok (.iconst 1, 1) := by decide +kernel
theorem dL_law_183 : decode cL_law 183 = .ok (.iadd, 1) := by decide +kernel
theorem dL_law_184 : decode cL_law 184 = .ok (.iaload, 1) := by decide +kernel
theorem dL_law_185 : decode cL_law 185 = .ok (.aload_n 0, 1) := by decide +kernel
theorem dL_law_186 : decode cL_law 186 = .ok (.iload_n 3, 1) := by decide +kernel
theorem dL_law_187 : decode cL_law 187 = .ok (.iconst 2, 1) := by decide +kernel
theorem dL_law_188 : decode cL_law 188 = .ok (.iadd, 1) := by decide +kernel
theorem dL_law_189 : decode cL_law 189 = .ok (.iaload, 1) := by decide +kernel
theorem dL_law_190 : decode cL_law 190 = .ok (.invokevirtual 17, 3) := by decide +kernel
theorem dL_law_193 : decode cL_law 193 = .ok (.pop, 1) := by decide +kernel
theorem dL_law_194 : decode cL_law 194 = .ok (.goto 1149, 3) := by decide +kernel
theorem dL_law_197 : decode cL_law 197 = .ok (.aload_n 1, 1) := by decide +kernel
theorem dL_law_198 : decode cL_law 198 = .ok (.aload_n 0, 1) := by decide +kernel
theorem dL_law_199 : decode cL_law 199 = .ok (.iload_n 3, 1) := by decide +kernel
theorem dL_law_200 : decode cL_law 200 = .ok (.iconst 1, 1) := by decide +kernel
theorem dL_law_201 : decode cL_law 201 = .ok (.iadd, 1) := by decide +kernel
theorem dL_law_202 : decode cL_law 202 = .ok (.iaload, 1) := by decide +kernel
theorem dL_law_203 : decode cL_law 203 = .ok (.invokevirtual 18, 3) := by decide +kernel
theorem dL_law_206 : decode cL_law 206 = .ok (.pop, 1) := by decide +kernel
theorem dL_law_207 : decode cL_law 207 = .ok (.aload_n 2, 1) := by decide +kernel
theorem dL_law_208 : decode cL_law 208 = .ok (.aload_n 0, 1) := by decide +kernel
theorem dL_law_209 : decode cL_law 209 = .ok (.iload_n 3, 1) := by decide +kernel
theorem dL_law_210 : decode cL_law 210 = .ok (.iconst 1, 1) := by decide +kernel
theorem dL_law_211 : decode cL_law 211 = .ok (.iadd, 1) := by decide +kernel
theorem dL_law_212 : decode cL_law 212 = .ok (.iaload, 1) := by decide +kernel
theorem dL_law_213 : decode cL_law 213 = .ok (.invokevirtual 22, 3) := by decide +kernel
theorem dL_law_216 : decode cL_law 216 = .ok (.pop, 1) := by decide +kernel
theorem dL_law_217 : decode cL_law 217 = .ok (.goto 1126, 3) := by decide +kernel
theorem dL_law_220 : decode cL_law 220 = .ok (.aload_n 1, 1) := by decide +kernel
theorem dL_law_221 : decode cL_law 221 = .ok (.aload_n 0, 1) := by decide +kernel
theorem dL_law_222 : decode cL_law 222 = .ok (.iload_n 3, 1) := by decide +kernel
theorem dL_law_223 : decode cL_law 223 = .ok (.iconst 1, 1) := by decide +kernel
theorem dL_law_224 : decode cL_law 224 = .ok (.iadd, 1) := by decide +kernel
theorem dL_law_225 : decode cL_law 225 = .ok (.iaload, 1) := by decide +kernel
theorem dL_law_226 : decode cL_law 226 = .ok (.aload_n 0, 1) := by decide +kernel
theorem dL_law_227 : decode cL_law 227 = .ok (.iload_n 3, 1) := by decide +kernel
theorem dL_law_228 : decode cL_law 228 = .ok (.iconst 2, 1) := by decide +kernel
theorem dL_law_229 : decode cL_law 229 = .ok (.iadd, 1) := by decide +kernel
theorem dL_law_230 : decode cL_law 230 = .ok (.iaload, 1) := by decide +kernel
theorem dL_law_231 : decode cL_law 231 = .ok (.invokevirtual 23, 3) := by decide +kernel
theorem dL_law_234 : decode cL_law 234 = .ok (.pop, 1) := by decide +kernel
theorem dL_law_235 : decode cL_law 235 = .ok (.aload_n 2, 1) := by decide +kernel
theorem dL_law_236 : decode cL_law 236 = .ok (.aload_n 0, 1) := by decide +kernel
theorem dL_law_237 : decode cL_law 237 = .ok (.iload_n 3, 1) := by decide +kernel
theorem dL_law_238 : decode cL_law 238 = .ok (.iconst 1, 1) := by decide +kernel
theorem dL_law_239 : decode cL_law 239 = .ok (.iadd, 1) := by decide +kernel
theorem dL_law_240 : decode cL_law 240 = .ok (.iaload, 1) := by decide +kernel
theorem dL_law_241 : decode cL_law 241 = .ok (.aload_n 0, 1) := by decide +kernel
theorem dL_law_242 : decode cL_law 242 = .ok (.iload_n 3, 1) := by decide +kernel
theorem dL_law_243 : decode cL_law 243 = .ok (.iconst 2, 1) := by decide +kernel
theorem dL_law_244 : decode cL_law 244 = .ok (.iadd, 1) := by decide +kernel
theorem dL_law_245 : decode cL_law 245 = .ok (.iaload, 1) := by decide +kernel
theorem dL_law_246 : decode cL_law 246 = .ok (.invokevirtual 26, 3) := by decide +kernel
theorem dL_law_249 : decode cL_law 249 = .ok (.pop, 1) := by decide +kernel
theorem dL_law_250 : decode cL_law 250 = .ok (.goto 1093, 3) := by decide +kernel
theorem dL_law_253 : decode cL_law 253 = .ok (.aload_n 1, 1) := by decide +kernel
theorem dL_law_254 : decode cL_law 254 = .ok (.aload_n 0, 1) := by decide +kernel
theorem dL_law_255 : decode cL_law 255 = .ok (.iload_n 3, 1) := by decide +kernel
theorem dL_law_256 : decode cL_law 256 = .ok (.iconst 1, 1) := by decide +kernel
theorem dL_law_257 : decode cL_law 257 = .ok (.iadd, 1) := by decide +kernel
theorem dL_law_258 : decode cL_law 258 = .ok (.iaload, 1) := by decide +kernel
theorem dL_law_259 : decode cL_law 259 = .ok (.aload_n 0, 1) := by decide +kernel
theorem dL_law_260 : decode cL_law 260 = .ok (.iload_n 3, 1) := by decide +kernel
theorem dL_law_261 : decode cL_law 261 = .ok (.iconst 2, 1) := by decide +kernel
theorem dL_law_262 : decode cL_law 262 = .ok (.iadd, 1) := by decide +kernel
theorem dL_law_263 : decode cL_law 263 = .ok (.iaload, 1) := by decide +kernel
theorem dL_law_264 : decode cL_law 264 = .ok (.aload_n 0, 1) := by decide +kernel
theorem dL_law_265 : decode cL_law 265 = .ok (.iload_n 3, 1) := by decide +kernel
theorem dL_law_266 : decode cL_law 266 = .ok (.iconst 3, 1) := by decide +kernel
theorem dL_law_267 : decode cL_law 267 = .ok (.iadd, 1) := by decide +kernel
theorem dL_law_268 : decode cL_law 268 = .ok (.iaload, 1) := by decide +kernel
theorem dL_law_269 : decode cL_law 269 = .ok (.aload_n 0, 1) := by decide +kernel
theorem dL_law_270 : decode cL_law 270 = .ok (.iload_n 3, 1) := by decide +kernel
theorem dL_law_271 : decode cL_law 271 = .ok (.iconst 4, 1) := by decide +kernel
theorem dL_law_272 : decode cL_law 272 = .ok (.iadd, 1) := by decide +kernel
theorem dL_law_273 : decode cL_law 273 = .ok (.iaload, 1) := by decide +kernel
theorem dL_law_274 : decode cL_law 274 = .ok (.aload_n 0, 1) := by decide +kernel
theorem dL_law_275 : decode cL_law 275 = .ok (.iload_n 3, 1) := by decide +kernel
theorem dL_law_276 : decode cL_law 276 = .ok (.iconst 5, 1) := by decide +kernel
theorem dL_law_277 : decode cL_law 277 = .ok (.iadd, 1) := by decide +kernel
theorem dL_law_278 : decode cL_law 278 = .ok (.iaload, 1) := by decide +kernel
theorem dL_law_279 : decode cL_law 279 = .ok (.invokevirtual 27, 3) := by decide +kernel
theorem dL_law_282 : decode cL_law 282 = .ok (.pop, 1) := by decide +kernel
theorem dL_law_283 : decode cL_law 283 = .ok (.aload_n 2, 1) := by decide +kernel
theorem dL_law_284 : decode cL_law 284 = .ok (.aload_n 0, 1) := by decide +kernel
theorem dL_law_285 : decode cL_law 285 = .ok (.iload_n 3, 1) := by decide +kernel
theorem dL_law_286 : decode cL_law 286 = .ok (.iconst 1, 1) := by decide +kernel
theorem dL_law_287 : decode cL_law 287 = .ok (.iadd, 1) := by decide +kernel
theorem dL_law_288 : decode cL_law 288 = .ok (.iaload, 1) := by decide +kernel
theorem dL_law_289 : decode cL_law 289 = .ok (.aload_n 0, 1) := by decide +kernel
theorem dL_law_290 : decode cL_law 290 = .ok (.iload_n 3, 1) := by decide +kernel
theorem dL_law_291 : decode cL_law 291 = .ok (.iconst 2, 1) := by decide +kernel
theorem dL_law_292 : decode cL_law 292 = .ok (.iadd, 1) := by decide +kernel
theorem dL_law_293 : decode cL_law 293 = .ok (.iaload, 1) := by decide +kernel
theorem dL_law_294 : decode cL_law 294 = .ok (.aload_n 0, 1) := by decide +kernel
theorem dL_law_295 : decode cL_law 295 = .ok (.iload_n 3, 1) := by decide +kernel
theorem dL_law_296 : decode cL_law 296 = .ok (.iconst 3, 1) := by decide +kernel
theorem dL_law_297 : decode cL_law 297 = .ok (.iadd, 1) := by decide +kernel
theorem dL_law_298 : decode cL_law 298 = .ok (.iaload, 1) := by decide +kernel
theorem dL_law_299 : decode cL_law 299 = .ok (.aload_n 0, 1) := by decide +kernel
theorem dL_law_300 : decode cL_law 300 = .ok (.iload_n 3, 1) := by decide +kernel
theorem dL_law_301 : decode cL_law 301 = .ok (.iconst 4, 1) := by decide +kernel
theorem dL_law_302 : decode cL_law 302 = .ok (.iadd, 1) := by decide +kernel
theorem dL_law_303 : decode cL_law 303 = .ok (.iaload, 1) := by decide +kernel
theorem dL_law_304 : decode cL_law 304 = .ok (.aload_n 0, 1) := by decide +kernel
theorem dL_law_305 : decode cL_law 305 = .ok (.iload_n 3, 1) := by decide +kernel
theorem dL_law_306 : decode cL_law 306 = .ok (.iconst 5, 1) := by decide +kernel
theorem dL_law_307 : decode cL_law 307 = .ok (.iadd, 1) := by decide +kernel
theorem dL_law_308 : decode cL_law 308 = .ok (.iaload, 1) := by decide +kernel
theorem dL_law_309 : decode cL_law 309 = .ok (.invokevirtual 31, 3) := by decide +kernel
theorem dL_law_312 : decode cL_law 312 = .ok (.pop, 1) := by decide +kernel
theorem dL_law_313 : decode cL_law 313 = .ok (.goto 1030, 3) := by decide +kernel
theorem dL_law_316 : decode cL_law 316 = .ok (.aload_n 1, 1) := by decide +kernel
theorem dL_law_317 : decode cL_law 317 = .ok (.aload_n 0, 1) := by decide +kernel
theorem dL_law_318 : decode cL_law 318 = .ok (.iload_n 3, 1) := by decide +kernel
theorem dL_law_319 : decode cL_law 319 = .ok (.iconst 1, 1) := by decide +kernel
theorem dL_law_320 : decode cL_law 320 = .ok (.iadd, 1) := by decide +kernel
theorem dL_law_321 : decode cL_law 321 = .ok (.iaload, 1) := by decide +kernel
theorem dL_law_322 : decode cL_law 322 = .ok (.aload_n 0, 1) := by decide +kernel
theorem dL_law_323 : decode cL_law 323 = .ok (.iload_n 3, 1) := by decide +kernel
theorem dL_law_324 : decode cL_law 324 = .ok (.iconst 2, 1) := by decide +kernel
theorem dL_law_325 : decode cL_law 325 = .ok (.iadd, 1) := by decide +kernel
theorem dL_law_326 : decode cL_law 326 = .ok (.iaload, 1) := by decide +kernel
theorem dL_law_327 : decode cL_law 327 = .ok (.invokevirtual 32, 3) := by decide +kernel
theorem dL_law_330 : decode cL_law 330 = .ok (.pop, 1) := by decide +kernel
theorem dL_law_331 : decode cL_law 331 = .ok (.aload_n 2, 1) := by decide +kernel
theorem dL_law_332 : decode cL_law 332 = .ok (.aload_n 0, 1) := by decide +kernel
theorem dL_law_333 : decode cL_law 333 = .ok (.iload_n 3, 1) := by decide +kernel
theorem dL_law_334 : decode cL_law 334 = .ok (.iconst 1, 1) := by decide +kernel
theorem dL_law_335 : decode cL_law 335 = .ok (.iadd, 1) := by decide +kernel
theorem dL_law_336 : decode cL_law 336 = .ok (.iaload, 1) := by decide +kernel
theorem dL_law_337 : decode cL_law 337 = .ok (.aload_n 0, 1) := by decide +kernel
theorem dL_law_338 : decode cL_law 338 = .ok (.iload_n 3, 1) := by decide +kernel
theorem dL_law_339 : decode cL_law 339 = .ok (.iconst 2, 1) := by decide +kernel
theorem dL_law_340 : decode cL_law 340 = .ok (.iadd, 1) := by decide +kernel
theorem dL_law_341 : decode cL_law 341 = .ok (.iaload, 1) := by decide +kernel
theorem dL_law_342 : decode cL_law 342 = .ok (.invokevirtual 35, 3) := by decide +kernel
theorem dL_law_345 : decode cL_law 345 = .ok (.pop, 1) := by decide +kernel
theorem dL_law_346 : decode cL_law 346 = .ok (.goto 997, 3) := by decide +kernel
theorem dL_law_349 : decode cL_law 349 = .ok (.aload_n 1, 1) := by decide +kernel
theorem dL_law_350 : decode cL_law 350 = .ok (.aload_n 0, 1) := by decide +kernel
theorem dL_law_351 : decode cL_law 351 = .ok (.iload_n 3, 1) := by decide +kernel
theorem dL_law_352 : decode cL_law 352 = .ok (.iconst 1, 1) := by decide +kernel
theorem dL_law_353 : decode cL_law 353 = .ok (.iadd, 1) := by decide +kernel
theorem dL_law_354 : decode cL_law 354 = .ok (.iaload, 1) := by decide +kernel
theorem dL_law_355 : decode cL_law 355 = .ok (.aload_n 0, 1) := by decide +kernel
theorem dL_law_356 : decode cL_law 356 = .ok (.iload_n 3, 1) := by decide +kernel
theorem dL_law_357 : decode cL_law 357 = .ok (.iconst 2, 1) := by decide +kernel
theorem dL_law_358 : decode cL_law 358 = .ok (.iadd, 1) := by decide +kernel
theorem dL_law_359 : decode cL_law 359 = .ok (.iaload, 1) := by decide +kernel
theorem dL_law_360 : decode cL_law 360 = .ok (.aload_n 0, 1) := by decide +kernel
theorem dL_law_361 : decode cL_law 361 = .ok (.iload_n 3, 1) := by decide +kernel
theorem dL_law_362 : decode cL_law 362 = .ok (.iconst 3, 1) := by decide +kernel
theorem dL_law_363 : decode cL_law 363 = .ok (.iadd, 1) := by decide +kernel
theorem dL_law_364 : decode cL_law 364 = .ok (.iaload, 1) := by decide +kernel
theorem dL_law_365 : decode cL_law 365 = .ok (.aload_n 0, 1) := by decide +kernel
theorem dL_law_366 : decode cL_law 366 = .ok (.iload_n 3, 1) := by decide +kernel
theorem dL_law_367 : decode cL_law 367 = .ok (.iconst 4, 1) := by decide +kernel
theorem dL_law_368 : decode cL_law 368 = .ok (.iadd, 1) := by decide +kernel
theorem dL_law_369 : decode cL_law 369 = .ok (.iaload, 1) := by decide +kernel
theorem dL_law_370 : decode cL_law 370 = .ok (.invokevirtual 36, 3) := by decide +kernel
theorem dL_law_373 : decode cL_law 373 = .ok (.aload_n 2, 1) := by decide +kernel
theorem dL_law_374 : decode cL_law 374 = .ok (.aload_n 0, 1) := by decide +kernel
theorem dL_law_375 : decode cL_law 375 = .ok (.iload_n 3, 1) := by decide +kernel
theorem dL_law_376 : decode cL_law 376 = .ok (.iconst 1, 1) := by decide +kernel
theorem dL_law_377 : decode cL_law 377 = .ok (.iadd, 1) := by decide +kernel
theorem dL_law_378 : decode cL_law 378 = .ok (.iaload, 1) := by decide +kernel
theorem dL_law_379 : decode cL_law 379 = .ok (.aload_n 0, 1) := by decide +kernel
theorem dL_law_380 : decode cL_law 380 = .ok (.iload_n 3, 1) := by decide +kernel
theorem dL_law_381 : decode cL_law 381 = .ok (.iconst 2, 1) := by decide +kernel
theorem dL_law_382 : decode cL_law 382 = .ok (.iadd, 1) := by decide +kernel
theorem dL_law_383 : decode cL_law 383 = .ok (.iaload, 1) := by decide +kernel
theorem dL_law_384 : decode cL_law 384 = .ok (.aload_n 0, 1) := by decide +kernel
theorem dL_law_385 : decode cL_law 385 = .ok (.iload_n 3, 1) := by decide +kernel
theorem dL_law_386 : decode cL_law 386 = .ok (.iconst 3, 1) := by decide +kernel
theorem dL_law_387 : decode cL_law 387 = .ok (.iadd, 1) := by decide +kernel
theorem dL_law_388 : decode cL_law 388 = .ok (.iaload, 1) := by decide +kernel
theorem dL_law_389 : decode cL_law 389 = .ok (.aload_n 0, 1) := by decide +kernel
theorem dL_law_390 : decode cL_law 390 = .ok (.iload_n 3, 1) := by decide +kernel
theorem dL_law_391 : decode cL_law 391 = .ok (.iconst 4, 1) := by decide +kernel
theorem dL_law_392 : decode cL_law 392 = .ok (.iadd, 1) := by decide +kernel
theorem dL_law_393 : decode cL_law 393 = .ok (.iaload, 1) := by decide +kernel
theorem dL_law_394 : decode cL_law 394 = .ok (.invokevirtual 40, 3) := by decide +kernel
theorem dL_law_397 : decode cL_law 397 = .ok (.if_icmp .eq 946, 3) := by decide +kernel
theorem dL_law_400 : decode cL_law 400 = .ok (.iconst 0, 1) := by decide +kernel
theorem dL_law_401 : decode cL_law 401 = .ok (.ireturn, 1) := by decide +kernel
theorem dL_law_402 : decode cL_law 402 = .ok (.aload_n 1, 1) := by decide +kernel
theorem dL_law_403 : decode cL_law 403 = .ok (.aload_n 0, 1) := by decide +kernel
theorem dL_law_404 : decode cL_law 404 = .ok (.iload_n 3, 1) := by decide +kernel
theorem dL_law_405 : decode cL_law 405 = .ok (.iconst 1, 1) := by decide +kernel
theorem dL_law_406 : decode cL_law 406 = .ok (.iadd, 1) := by decide +kernel
theorem dL_law_407 : decode cL_law 407 = .ok (.iaload, 1) := by decide +kernel
theorem dL_law_408 : decode cL_law 408 = .ok (.aload_n 0, 1) := by decide +kernel
theorem dL_law_409 : decode cL_law 409 = .ok (.iload_n 3, 1) := by decide +kernel
theorem dL_law_410 : decode cL_law 410 = .ok (.iconst 2, 1) := by decide +kernel
theorem dL_law_411 : decode cL_law 411 = .ok (.iadd, 1) := by decide +kernel
theorem dL_law_412 : decode cL_law 412 = .ok (.iaload, 1) := by decide +kernel
theorem dL_law_413 : decode cL_law 413 = .ok (.aload_n 0, 1) := by decide +kernel
theorem dL_law_414 : decode cL_law 414 = .ok (.iload_n 3, 1) := by decide +kernel
theorem dL_law_415 : decode cL_law 415 = .ok (.iconst 3, 1) := by decide +kernel
theorem dL_law_416 : decode cL_law 416 = .ok (.iadd, 1) := by decide +kernel
theorem dL_law_417 : decode cL_law 417 = .ok (.iaload, 1) := by decide +kernel
theorem dL_law_418 : decode cL_law 418 = .ok (.aload_n 0, 1) := by decide +kernel
theorem dL_law_419 : decode cL_law 419 = .ok (.iload_n 3, 1) := by decide +kernel
theorem dL_law_420 : decode cL_law 420 = .ok (.iconst 4, 1) := by decide +kernel
theorem dL_law_421 : decode cL_law 421 = .ok (.iadd, 1) := by decide +kernel
theorem dL_law_422 : decode cL_law 422 = .ok (.iaload, 1) := by decide +kernel
theorem dL_law_423 : decode cL_law 423 = .ok (.invokevirtual 41, 3) := by decide +kernel
theorem dL_law_426 : decode cL_law 426 = .ok (.pop, 1) := by decide +kernel
theorem dL_law_427 : decode cL_law 427 = .ok (.aload_n 2, 1) := by decide +kernel
theorem dL_law_428 : decode cL_law 428 = .ok (.aload_n 0, 1) := by decide +kernel
theorem dL_law_429 : decode cL_law 429 = .ok (.iload_n 3, 1) := by decide +kernel
theorem dL_law_430 : decode cL_law 430 = .ok (.iconst 1, 1) := by decide +kernel
theorem dL_law_431 : decode cL_law 431 = .ok (.iadd, 1) := by decide +kernel
theorem dL_law_432 : decode cL_law 432 = .ok (.iaload, 1) := by decide +kernel
theorem dL_law_433 : decode cL_law 433 = .ok (.aload_n 0, 1) := by decide +kernel
theorem dL_law_434 : decode cL_law 434 = .ok (.iload_n 3, 1) := by decide +kernel
theorem dL_law_435 : decode cL_law 435 = .ok (.iconst 2, 1) := by decide +kernel
theorem dL_law_436 : decode cL_law 436 = .ok (.iadd, 1) := by decide +kernel
theorem dL_law_437 : decode cL_law 437 = .ok (.iaload, 1) := by decide +kernel
theorem dL_law_438 : decode cL_law 438 = .ok (.aload_n 0, 1) := by decide +kernel
theorem dL_law_439 : decode cL_law 439 = .ok (.iload_n 3, 1) := by decide +kernel
theorem dL_law_440 : decode cL_law 440 = .ok (.iconst 3, 1) := by decide +kernel
theorem dL_law_441 : decode cL_law 441 = .ok (.iadd, 1) := by decide +kernel
theorem dL_law_442 : decode cL_law 442 = .ok (.iaload, 1) := by decide +kernel
theorem dL_law_443 : decode cL_law 443 = .ok (.aload_n 0, 1) := by decide +kernel
theorem dL_law_444 : decode cL_law 444 = .ok (.iload_n 3, 1) := by decide +kernel
theorem dL_law_445 : decode cL_law 445 = .ok (.iconst 4, 1) := by decide +kernel
theorem dL_law_446 : decode cL_law 446 = .ok (.iadd, 1) := by decide +kernel
theorem dL_law_447 : decode cL_law 447 = .ok (.iaload, 1) := by decide +kernel
theorem dL_law_448 : decode cL_law 448 = .ok (.invokevirtual 44, 3) := by decide +kernel
theorem dL_law_451 : decode cL_law 451 = .ok (.pop, 1) := by decide +kernel
theorem dL_law_452 : decode cL_law 452 = .ok (.goto 891, 3) := by decide +kernel
theorem dL_law_455 : decode cL_law 455 = .ok (.aload_n 1, 1) := by decide +kernel
theorem dL_law_456 : decode cL_law 456 = .ok (.aload_n 0, 1) := by decide +kernel
theorem dL_law_457 : decode cL_law 457 = .ok (.iload_n 3, 1) := by decide +kernel
theorem dL_law_458 : decode cL_law 458 = .ok (.iconst 1, 1) := by decide +kernel
theorem dL_law_459 : decode cL_law 459 = .ok (.iadd, 1) := by decide +kernel
theorem dL_law_460 : decode cL_law 460 = .ok (.iaload, 1) := by decide +kernel
theorem dL_law_461 : decode cL_law 461 = .ok (.aload_n 0, 1) := by decide +kernel
theorem dL_law_462 : decode cL_law 462 = .ok (.iload_n 3, 1) := by decide +kernel
theorem dL_law_463 : decode cL_law 463 = .ok (.iconst 2, 1) := by decide +kernel
theorem dL_law_464 : decode cL_law 464 = .ok (.iadd, 1) := by decide +kernel
theorem dL_law_465 : decode cL_law 465 = .ok (.iaload, 1) := by decide +kernel
theorem dL_law_466 : decode cL_law 466 = .ok (.invokevirtual 45, 3) := by decide +kernel
theorem dL_law_469 : decode cL_law 469 = .ok (.pop, 1) := by decide +kernel
theorem dL_law_470 : decode cL_law 470 = .ok (.aload_n 2, 1) := by decide +kernel
theorem dL_law_471 : decode cL_law 471 = .ok (.aload_n 0, 1) := by decide +kernel
theorem dL_law_472 : decode cL_law 472 = .ok (.iload_n 3, 1) := by decide +kernel
theorem dL_law_473 : decode cL_law 473 = .ok (.iconst 1, 1) := by decide +kernel
theorem dL_law_474 : decode cL_law 474 = .ok (.iadd, 1) := by decide +kernel
theorem dL_law_475 : decode cL_law 475 = .ok (.iaload, 1) := by decide +kernel
theorem dL_law_476 : decode cL_law 476 = .ok (.aload_n 0, 1) := by decide +kernel
theorem dL_law_477 : decode cL_law 477 = .ok (.iload_n 3, 1) := by decide +kernel
theorem dL_law_478 : decode cL_law 478 = .ok (.iconst 2, 1) := by decide +kernel
theorem dL_law_479 : decode cL_law 479 = .ok (.iadd, 1) := by decide +kernel
theorem dL_law_480 : decode cL_law 480 = .ok (.iaload, 1) := by decide +kernel
theorem dL_law_481 : decode cL_law 481 = .ok (.invokevirtual 48, 3) := by decide +kernel
theorem dL_law_484 : decode cL_law 484 = .ok (.pop, 1) := by decide +kernel
theorem dL_law_485 : decode cL_law 485 = .ok (.goto 858, 3) := by decide +kernel
theorem dL_law_488 : decode cL_law 488 = .ok (.aload_n 1, 1) := by decide +kernel
theorem dL_law_489 : decode cL_law 489 = .ok (.aload_n 0, 1) := by decide +kernel
theorem dL_law_490 : decode cL_law 490 = .ok (.iload_n 3, 1) := by decide +kernel
theorem dL_law_491 : decode cL_law 491 = .ok (.iconst 1, 1) := by decide +kernel
theorem dL_law_492 : decode cL_law 492 = .ok (.iadd, 1) := by decide +kernel
theorem dL_law_493 : decode cL_law 493 = .ok (.iaload, 1) := by decide +kernel
theorem dL_law_494 : decode cL_law 494 = .ok (.aload_n 0, 1) := by decide +kernel
theorem dL_law_495 : decode cL_law 495 = .ok (.iload_n 3, 1) := by decide +kernel
theorem dL_law_496 : decode cL_law 496 = .ok (.iconst 2, 1) := by decide +kernel
theorem dL_law_497 : decode cL_law 497 = .ok (.iadd, 1) := by decide +kernel
theorem dL_law_498 : decode cL_law 498 = .ok (.iaload, 1) := by decide +kernel
theorem dL_law_499 : decode cL_law 499 = .ok (.aload_n 0, 1) := by decide +kernel
theorem dL_law_500 : decode cL_law 500 = .ok (.iload_n 3, 1) := by decide +kernel
theorem dL_law_501 : decode cL_law 501 = .ok (.iconst 3, 1) := by decide +kernel
theorem dL_law_502 : decode cL_law 502 = .ok (.iadd, 1) := by decide +kernel
theorem dL_law_503 : decode cL_law 503 = .ok (.iaload, 1) := by decide +kernel
theorem dL_law_504 : decode cL_law 504 = .ok (.invokevirtual 49, 3) := by decide +kernel
theorem dL_law_507 : decode cL_law 507 = .ok (.pop, 1) := by decide +kernel
theorem dL_law_508 : decode cL_law 508 = .ok (.aload_n 2, 1) := by decide +kernel
theorem dL_law_509 : decode cL_law 509 = .ok (.aload_n 0, 1) := by decide +kernel
theorem dL_law_510 : decode cL_law 510 = .ok (.iload_n 3, 1) := by decide +kernel
theorem dL_law_511 : decode cL_law 511 = .ok (.iconst 1, 1) := by decide +kernel
theorem dL_law_512 : decode cL_law 512 = .ok (.iadd, 1) := by decide +kernel
theorem dL_law_513 : decode cL_law 513 = .ok (.iaload, 1) := by decide +kernel
theorem dL_law_514 : decode cL_law 514 = .ok (.aload_n 0, 1) := by decide +kernel
theorem dL_law_515 : decode cL_law 515 = .ok (.iload_n 3, 1) := by decide +kernel
theorem dL_law_516 : decode cL_law 516 = .ok (.iconst 2, 1) := by decide +kernel
theorem dL_law_517 : decode cL_law 517 = .ok (.iadd, 1) := by decide +kernel
theorem dL_law_518 : decode cL_law 518 = .ok (.iaload, 1) := by decide +kernel
theorem dL_law_519 : decode cL_law 519 = .ok (.aload_n 0, 1) := by decide +kernel
theorem dL_law_520 : decode cL_law 520 = .ok (.iload_n 3, 1) := by decide +kernel
theorem dL_law_521 : decode cL_law 521 = .ok (.iconst 3, 1) := by decide +kernel
theorem dL_law_522 : decode cL_law 522 = .ok (.iadd, 1) := by decide +kernel
theorem dL_law_523 : decode cL_law 523 = .ok (.iaload, 1) := by decide +kernel
theorem dL_law_524 : decode cL_law 524 = .ok (.invokevirtual 53, 3) := by decide +kernel
theorem dL_law_527 : decode cL_law 527 = .ok (.pop, 1) := by decide +kernel
