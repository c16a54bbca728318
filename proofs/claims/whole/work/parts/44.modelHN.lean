abbrev b_Model_loaded : ByteArray := prog_9_method_43_code
def y_Model_loaded : MethodName := ⟨"BootMakerModel", "loaded", "()I"⟩
def ws_Model_loaded : List Cond := Cond.code y_Model_loaded b_Model_loaded 18 (some .int) :: Wall
set_option maxRecDepth 100000 in
theorem cw_Model_loaded : Cond.code y_Model_loaded b_Model_loaded 18 (some .int) ∈ Wall := inW 1030 rfl rfl
theorem d_Model_loaded_0 : decode b_Model_loaded 0 = .ok (.sipush 512, 3) := by decide +kernel
theorem d_Model_loaded_3 : decode b_Model_loaded 3 = .ok (.aload_n 0, 1) := by decide +kernel
theorem d_Model_loaded_4 : decode b_Model_loaded 4 = .ok (.getfield 52, 3) := by decide +kernel
theorem d_Model_loaded_7 : decode b_Model_loaded 7 = .ok (.imul, 1) := by decide +kernel
theorem d_Model_loaded_8 : decode b_Model_loaded 8 = .ok (.istore_n 1, 1) := by decide +kernel
theorem d_Model_loaded_9 : decode b_Model_loaded 9 = .ok (.aload_n 0, 1) := by decide +kernel
theorem d_Model_loaded_10 : decode b_Model_loaded 10 = .ok (.iload_n 1, 1) := by decide +kernel
theorem d_Model_loaded_11 : decode b_Model_loaded 11 = .ok (.sipush 510, 3) := by decide +kernel
theorem d_Model_loaded_14 : decode b_Model_loaded 14 = .ok (.iadd, 1) := by decide +kernel
theorem d_Model_loaded_15 : decode b_Model_loaded 15 = .ok (.invokevirtual 64, 3) := by decide +kernel
theorem d_Model_loaded_18 : decode b_Model_loaded 18 = .ok (.bipush 85, 2) := by decide +kernel
theorem d_Model_loaded_20 : decode b_Model_loaded 20 = .ok (.if_icmp .ne 92, 3) := by decide +kernel
theorem d_Model_loaded_23 : decode b_Model_loaded 23 = .ok (.aload_n 0, 1) := by decide +kernel
theorem d_Model_loaded_24 : decode b_Model_loaded 24 = .ok (.iload_n 1, 1) := by decide +kernel
theorem d_Model_loaded_25 : decode b_Model_loaded 25 = .ok (.sipush 511, 3) := by decide +kernel
theorem d_Model_loaded_28 : decode b_Model_loaded 28 = .ok (.iadd, 1) := by decide +kernel
theorem d_Model_loaded_29 : decode b_Model_loaded 29 = .ok (.invokevirtual 64, 3) := by decide +kernel
theorem d_Model_loaded_32 : decode b_Model_loaded 32 = .ok (.sipush 170, 3) := by decide +kernel
theorem d_Model_loaded_35 : decode b_Model_loaded 35 = .ok (.if_icmp .ne 77, 3) := by decide +kernel
theorem d_Model_loaded_38 : decode b_Model_loaded 38 = .ok (.aload_n 0, 1) := by decide +kernel
theorem d_Model_loaded_39 : decode b_Model_loaded 39 = .ok (.iload_n 1, 1) := by decide +kernel
theorem d_Model_loaded_40 : decode b_Model_loaded 40 = .ok (.bipush 11, 2) := by decide +kernel
theorem d_Model_loaded_42 : decode b_Model_loaded 42 = .ok (.iadd, 1) := by decide +kernel
theorem d_Model_loaded_43 : decode b_Model_loaded 43 = .ok (.iconst 2, 1) := by decide +kernel
theorem d_Model_loaded_44 : decode b_Model_loaded 44 = .ok (.invokevirtual 162, 3) := by decide +kernel
theorem d_Model_loaded_47 : decode b_Model_loaded 47 = .ok (.ldc2_w 77, 3) := by decide +kernel
theorem d_Model_loaded_50 : decode b_Model_loaded 50 = .ok (.lcmp, 1) := by decide +kernel
theorem d_Model_loaded_51 : decode b_Model_loaded 51 = .ok (.ifCond .ne 61, 3) := by decide +kernel
theorem d_Model_loaded_54 : decode b_Model_loaded 54 = .ok (.aload_n 0, 1) := by decide +kernel
theorem d_Model_loaded_55 : decode b_Model_loaded 55 = .ok (.iload_n 1, 1) := by decide +kernel
theorem d_Model_loaded_56 : decode b_Model_loaded 56 = .ok (.bipush 13, 2) := by decide +kernel
theorem d_Model_loaded_58 : decode b_Model_loaded 58 = .ok (.iadd, 1) := by decide +kernel
theorem d_Model_loaded_59 : decode b_Model_loaded 59 = .ok (.invokevirtual 64, 3) := by decide +kernel
theorem d_Model_loaded_62 : decode b_Model_loaded 62 = .ok (.iconst 1, 1) := by decide +kernel
theorem d_Model_loaded_63 : decode b_Model_loaded 63 = .ok (.if_icmp .ne 49, 3) := by decide +kernel
theorem d_Model_loaded_66 : decode b_Model_loaded 66 = .ok (.aload_n 0, 1) := by decide +kernel
theorem d_Model_loaded_67 : decode b_Model_loaded 67 = .ok (.iload_n 1, 1) := by decide +kernel
theorem d_Model_loaded_68 : decode b_Model_loaded 68 = .ok (.bipush 14, 2) := by decide +kernel
theorem d_Model_loaded_70 : decode b_Model_loaded 70 = .ok (.iadd, 1) := by decide +kernel
theorem d_Model_loaded_71 : decode b_Model_loaded 71 = .ok (.iconst 2, 1) := by decide +kernel
theorem d_Model_loaded_72 : decode b_Model_loaded 72 = .ok (.invokevirtual 162, 3) := by decide +kernel
theorem d_Model_loaded_75 : decode b_Model_loaded 75 = .ok (.lconst 1, 1) := by decide +kernel
theorem d_Model_loaded_76 : decode b_Model_loaded 76 = .ok (.lcmp, 1) := by decide +kernel
theorem d_Model_loaded_77 : decode b_Model_loaded 77 = .ok (.ifCond .ne 35, 3) := by decide +kernel
theorem d_Model_loaded_80 : decode b_Model_loaded 80 = .ok (.aload_n 0, 1) := by decide +kernel
theorem d_Model_loaded_81 : decode b_Model_loaded 81 = .ok (.iload_n 1, 1) := by decide +kernel
theorem d_Model_loaded_82 : decode b_Model_loaded 82 = .ok (.bipush 16, 2) := by decide +kernel
theorem d_Model_loaded_84 : decode b_Model_loaded 84 = .ok (.iadd, 1) := by decide +kernel
theorem d_Model_loaded_85 : decode b_Model_loaded 85 = .ok (.invokevirtual 64, 3) := by decide +kernel
theorem d_Model_loaded_88 : decode b_Model_loaded 88 = .ok (.iconst 2, 1) := by decide +kernel
theorem d_Model_loaded_89 : decode b_Model_loaded 89 = .ok (.if_icmp .ne 23, 3) := by decide +kernel
theorem d_Model_loaded_92 : decode b_Model_loaded 92 = .ok (.aload_n 0, 1) := by decide +kernel
theorem d_Model_loaded_93 : decode b_Model_loaded 93 = .ok (.iload_n 1, 1) := by decide +kernel
theorem d_Model_loaded_94 : decode b_Model_loaded 94 = .ok (.bipush 17, 2) := by decide +kernel
theorem d_Model_loaded_96 : decode b_Model_loaded 96 = .ok (.iadd, 1) := by decide +kernel
theorem d_Model_loaded_97 : decode b_Model_loaded 97 = .ok (.iconst 2, 1) := by decide +kernel
theorem d_Model_loaded_98 : decode b_Model_loaded 98 = .ok (.invokevirtual 162, 3) := by decide +kernel
theorem d_Model_loaded_101 : decode b_Model_loaded 101 = .ok (.ldc2_w 193, 3) := by decide +kernel
theorem d_Model_loaded_104 : decode b_Model_loaded 104 = .ok (.lcmp, 1) := by decide +kernel
theorem d_Model_loaded_105 : decode b_Model_loaded 105 = .ok (.ifCond .ne 7, 3) := by decide +kernel
theorem d_Model_loaded_108 : decode b_Model_loaded 108 = .ok (.iconst 1, 1) := by decide +kernel
theorem d_Model_loaded_109 : decode b_Model_loaded 109 = .ok (.goto 4, 3) := by decide +kernel
theorem d_Model_loaded_112 : decode b_Model_loaded 112 = .ok (.iconst 0, 1) := by decide +kernel
theorem d_Model_loaded_113 : decode b_Model_loaded 113 = .ok (.istore_n 2, 1) := by decide +kernel
theorem d_Model_loaded_114 : decode b_Model_loaded 114 = .ok (.aload_n 0, 1) := by decide +kernel
theorem d_Model_loaded_115 : decode b_Model_loaded 115 = .ok (.iload_n 1, 1) := by decide +kernel
theorem d_Model_loaded_116 : decode b_Model_loaded 116 = .ok (.bipush 19, 2) := by decide +kernel
theorem d_Model_loaded_118 : decode b_Model_loaded 118 = .ok (.iadd, 1) := by decide +kernel
theorem d_Model_loaded_119 : decode b_Model_loaded 119 = .ok (.iconst 2, 1) := by decide +kernel
theorem d_Model_loaded_120 : decode b_Model_loaded 120 = .ok (.invokevirtual 162, 3) := by decide +kernel
theorem d_Model_loaded_123 : decode b_Model_loaded 123 = .ok (.l2i, 1) := by decide +kernel
theorem d_Model_loaded_124 : decode b_Model_loaded 124 = .ok (.istore_n 3, 1) := by decide +kernel
theorem d_Model_loaded_125 : decode b_Model_loaded 125 = .ok (.aload_n 0, 1) := by decide +kernel
theorem d_Model_loaded_126 : decode b_Model_loaded 126 = .ok (.iload_n 1, 1) := by decide +kernel
theorem d_Model_loaded_127 : decode b_Model_loaded 127 = .ok (.bipush 22, 2) := by decide +kernel
theorem d_Model_loaded_129 : decode b_Model_loaded 129 = .ok (.iadd, 1) := by decide +kernel
theorem d_Model_loaded_130 : decode b_Model_loaded 130 = .ok (.iconst 2, 1) := by decide +kernel
theorem d_Model_loaded_131 : decode b_Model_loaded 131 = .ok (.invokevirtual 162, 3) := by decide +kernel
theorem d_Model_loaded_134 : decode b_Model_loaded 134 = .ok (.l2i, 1) := by decide +kernel
theorem d_Model_loaded_135 : decode b_Model_loaded 135 = .ok (.istore 4, 2) := by decide +kernel
theorem d_Model_loaded_137 : decode b_Model_loaded 137 = .ok (.iload_n 3, 1) := by decide +kernel
theorem d_Model_loaded_138 : decode b_Model_loaded 138 = .ok (.iconst 3, 1) := by decide +kernel
theorem d_Model_loaded_139 : decode b_Model_loaded 139 = .ok (.isub, 1) := by decide +kernel
theorem d_Model_loaded_140 : decode b_Model_loaded 140 = .ok (.iconst 2, 1) := by decide +kernel
theorem d_Model_loaded_141 : decode b_Model_loaded 141 = .ok (.iload 4, 2) := by decide +kernel
theorem d_Model_loaded_143 : decode b_Model_loaded 143 = .ok (.imul, 1) := by decide +kernel
theorem d_Model_loaded_144 : decode b_Model_loaded 144 = .ok (.isub, 1) := by decide +kernel
theorem d_Model_loaded_145 : decode b_Model_loaded 145 = .ok (.istore 5, 2) := by decide +kernel
theorem d_Model_loaded_147 : decode b_Model_loaded 147 = .ok (.iload_n 2, 1) := by decide +kernel
theorem d_Model_loaded_148 : decode b_Model_loaded 148 = .ok (.ifCond .eq 46, 3) := by decide +kernel
theorem d_Model_loaded_151 : decode b_Model_loaded 151 = .ok (.iload 4, 2) := by decide +kernel
theorem d_Model_loaded_153 : decode b_Model_loaded 153 = .ok (.ifCond .eq 41, 3) := by decide +kernel
theorem d_Model_loaded_156 : decode b_Model_loaded 156 = .ok (.iload 5, 2) := by decide +kernel
theorem d_Model_loaded_158 : decode b_Model_loaded 158 = .ok (.iconst 1, 1) := by decide +kernel
theorem d_Model_loaded_159 : decode b_Model_loaded 159 = .ok (.if_icmp .lt 35, 3) := by decide +kernel
theorem d_Model_loaded_162 : decode b_Model_loaded 162 = .ok (.iload 5, 2) := by decide +kernel
theorem d_Model_loaded_164 : decode b_Model_loaded 164 = .ok (.iconst 2, 1) := by decide +kernel
theorem d_Model_loaded_165 : decode b_Model_loaded 165 = .ok (.iadd, 1) := by decide +kernel
theorem d_Model_loaded_166 : decode b_Model_loaded 166 = .ok (.iconst 3, 1) := by decide +kernel
theorem d_Model_loaded_167 : decode b_Model_loaded 167 = .ok (.imul, 1) := by decide +kernel
theorem d_Model_loaded_168 : decode b_Model_loaded 168 = .ok (.iconst 1, 1) := by decide +kernel
theorem d_Model_loaded_169 : decode b_Model_loaded 169 = .ok (.iadd, 1) := by decide +kernel
theorem d_Model_loaded_170 : decode b_Model_loaded 170 = .ok (.iconst 2, 1) := by decide +kernel
theorem d_Model_loaded_171 : decode b_Model_loaded 171 = .ok (.idiv, 1) := by decide +kernel
theorem d_Model_loaded_172 : decode b_Model_loaded 172 = .ok (.sipush 512, 3) := by decide +kernel
theorem d_Model_loaded_175 : decode b_Model_loaded 175 = .ok (.iload 4, 2) := by decide +kernel
theorem d_Model_loaded_177 : decode b_Model_loaded 177 = .ok (.imul, 1) := by decide +kernel
theorem d_Model_loaded_178 : decode b_Model_loaded 178 = .ok (.if_icmp .gt 16, 3) := by decide +kernel
theorem d_Model_loaded_181 : decode b_Model_loaded 181 = .ok (.aload_n 0, 1) := by decide +kernel
theorem d_Model_loaded_182 : decode b_Model_loaded 182 = .ok (.getfield 52, 3) := by decide +kernel
theorem d_Model_loaded_185 : decode b_Model_loaded 185 = .ok (.iload_n 3, 1) := by decide +kernel
theorem d_Model_loaded_186 : decode b_Model_loaded 186 = .ok (.iadd, 1) := by decide +kernel
theorem d_Model_loaded_187 : decode b_Model_loaded 187 = .ok (.aload_n 0, 1) := by decide +kernel
theorem d_Model_loaded_188 : decode b_Model_loaded 188 = .ok (.getfield 48, 3) := by decide +kernel
theorem d_Model_loaded_191 : decode b_Model_loaded 191 = .ok (.if_icmp .le 5, 3) := by decide +kernel
theorem d_Model_loaded_194 : decode b_Model_loaded 194 = .ok (.iconst 5, 1) := by decide +kernel
theorem d_Model_loaded_195 : decode b_Model_loaded 195 = .ok (.ireturn, 1) := by decide +kernel
theorem d_Model_loaded_196 : decode b_Model_loaded 196 = .ok (.aload_n 0, 1) := by decide +kernel
theorem d_Model_loaded_197 : decode b_Model_loaded 197 = .ok (.aload_n 0, 1) := by decide +kernel
theorem d_Model_loaded_198 : decode b_Model_loaded 198 = .ok (.getfield 52, 3) := by decide +kernel
theorem d_Model_loaded_201 : decode b_Model_loaded 201 = .ok (.iconst 1, 1) := by decide +kernel
theorem d_Model_loaded_202 : decode b_Model_loaded 202 = .ok (.iadd, 1) := by decide +kernel
theorem d_Model_loaded_203 : decode b_Model_loaded 203 = .ok (.iconst 2, 1) := by decide +kernel
theorem d_Model_loaded_204 : decode b_Model_loaded 204 = .ok (.iload 4, 2) := by decide +kernel
theorem d_Model_loaded_206 : decode b_Model_loaded 206 = .ok (.imul, 1) := by decide +kernel
theorem d_Model_loaded_207 : decode b_Model_loaded 207 = .ok (.iadd, 1) := by decide +kernel
theorem d_Model_loaded_208 : decode b_Model_loaded 208 = .ok (.invokevirtual 237, 3) := by decide +kernel
theorem d_Model_loaded_211 : decode b_Model_loaded 211 = .ok (.istore 6, 2) := by decide +kernel
theorem d_Model_loaded_213 : decode b_Model_loaded 213 = .ok (.iload 6, 2) := by decide +kernel
theorem d_Model_loaded_215 : decode b_Model_loaded 215 = .ok (.ifCond .ge 6, 3) := by decide +kernel
theorem d_Model_loaded_218 : decode b_Model_loaded 218 = .ok (.bipush 6, 2) := by decide +kernel
theorem d_Model_loaded_220 : decode b_Model_loaded 220 = .ok (.ireturn, 1) := by decide +kernel
theorem d_Model_loaded_221 : decode b_Model_loaded 221 = .ok (.aload_n 0, 1) := by decide +kernel
theorem d_Model_loaded_222 : decode b_Model_loaded 222 = .ok (.iload 6, 2) := by decide +kernel
theorem d_Model_loaded_224 : decode b_Model_loaded 224 = .ok (.bipush 28, 2) := by decide +kernel
theorem d_Model_loaded_226 : decode b_Model_loaded 226 = .ok (.iadd, 1) := by decide +kernel
theorem d_Model_loaded_227 : decode b_Model_loaded 227 = .ok (.iconst 4, 1) := by decide +kernel
theorem d_Model_loaded_228 : decode b_Model_loaded 228 = .ok (.invokevirtual 162, 3) := by decide +kernel
theorem d_Model_loaded_231 : decode b_Model_loaded 231 = .ok (.lstore 7, 2) := by decide +kernel
theorem d_Model_loaded_233 : decode b_Model_loaded 233 = .ok (.lload 7, 2) := by decide +kernel
theorem d_Model_loaded_235 : decode b_Model_loaded 235 = .ok (.ldc2_w 240, 3) := by decide +kernel
theorem d_Model_loaded_238 : decode b_Model_loaded 238 = .ok (.ladd, 1) := by decide +kernel
theorem d_Model_loaded_239 : decode b_Model_loaded 239 = .ok (.ldc2_w 77, 3) := by decide +kernel
theorem d_Model_loaded_242 : decode b_Model_loaded 242 = .ok (.ldiv, 1) := by decide +kernel
theorem d_Model_loaded_243 : decode b_Model_loaded 243 = .ok (.lstore 9, 2) := by decide +kernel
theorem d_Model_loaded_245 : decode b_Model_loaded 245 = .ok (.lload 9, 2) := by decide +kernel
theorem d_Model_loaded_247 : decode b_Model_loaded 247 = .ok (.iload 5, 2) := by decide +kernel
theorem d_Model_loaded_249 : decode b_Model_loaded 249 = .ok (.i2l, 1) := by decide +kernel
theorem d_Model_loaded_250 : decode b_Model_loaded 250 = .ok (.lcmp, 1) := by decide +kernel
theorem d_Model_loaded_251 : decode b_Model_loaded 251 = .ok (.ifCond .le 6, 3) := by decide +kernel
theorem d_Model_loaded_254 : decode b_Model_loaded 254 = .ok (.bipush 7, 2) := by decide +kernel
theorem d_Model_loaded_256 : decode b_Model_loaded 256 = .ok (.ireturn, 1) := by decide +kernel
theorem d_Model_loaded_257 : decode b_Model_loaded 257 = .ok (.aload_n 0, 1) := by decide +kernel
theorem d_Model_loaded_258 : decode b_Model_loaded 258 = .ok (.iload 6, 2) := by decide +kernel
theorem d_Model_loaded_260 : decode b_Model_loaded 260 = .ok (.bipush 26, 2) := by decide +kernel
theorem d_Model_loaded_262 : decode b_Model_loaded 262 = .ok (.iadd, 1) := by decide +kernel
theorem d_Model_loaded_263 : decode b_Model_loaded 263 = .ok (.iconst 2, 1) := by decide +kernel
theorem d_Model_loaded_264 : decode b_Model_loaded 264 = .ok (.invokevirtual 162, 3) := by decide +kernel
theorem d_Model_loaded_267 : decode b_Model_loaded 267 = .ok (.l2i, 1) := by decide +kernel
theorem d_Model_loaded_268 : decode b_Model_loaded 268 = .ok (.istore 11, 2) := by decide +kernel
theorem d_Model_loaded_270 : decode b_Model_loaded 270 = .ok (.iload 11, 2) := by decide +kernel
theorem d_Model_loaded_272 : decode b_Model_loaded 272 = .ok (.istore 12, 2) := by decide +kernel
theorem d_Model_loaded_274 : decode b_Model_loaded 274 = .ok (.iconst 0, 1) := by decide +kernel
theorem d_Model_loaded_275 : decode b_Model_loaded 275 = .ok (.istore 13, 2) := by decide +kernel
theorem d_Model_loaded_277 : decode b_Model_loaded 277 = .ok (.iload 13, 2) := by decide +kernel
theorem d_Model_loaded_279 : decode b_Model_loaded 279 = .ok (.i2l, 1) := by decide +kernel
theorem d_Model_loaded_280 : decode b_Model_loaded 280 = .ok (.lload 9, 2) := by decide +kernel
theorem d_Model_loaded_282 : decode b_Model_loaded 282 = .ok (.lcmp, 1) := by decide +kernel
theorem d_Model_loaded_283 : decode b_Model_loaded 283 = .ok (.ifCond .ge 65, 3) := by decide +kernel
theorem d_Model_loaded_286 : decode b_Model_loaded 286 = .ok (.iload 12, 2) := by decide +kernel
theorem d_Model_loaded_288 : decode b_Model_loaded 288 = .ok (.iconst 2, 1) := by decide +kernel
theorem d_Model_loaded_289 : decode b_Model_loaded 289 = .ok (.iload 5, 2) := by decide +kernel
theorem d_Model_loaded_291 : decode b_Model_loaded 291 = .ok (.iconst 1, 1) := by decide +kernel
theorem d_Model_loaded_292 : decode b_Model_loaded 292 = .ok (.iadd, 1) := by decide +kernel
theorem d_Model_loaded_293 : decode b_Model_loaded 293 = .ok (.invokestatic 73, 3) := by decide +kernel
theorem d_Model_loaded_296 : decode b_Model_loaded 296 = .ok (.ifCond .ne 6, 3) := by decide +kernel
theorem d_Model_loaded_299 : decode b_Model_loaded 299 = .ok (.bipush 7, 2) := by decide +kernel
theorem d_Model_loaded_301 : decode b_Model_loaded 301 = .ok (.ireturn, 1) := by decide +kernel
theorem d_Model_loaded_302 : decode b_Model_loaded 302 = .ok (.aload_n 0, 1) := by decide +kernel
theorem d_Model_loaded_303 : decode b_Model_loaded 303 = .ok (.aload_n 0, 1) := by decide +kernel
theorem d_Model_loaded_304 : decode b_Model_loaded 304 = .ok (.getfield 52, 3) := by decide +kernel
theorem d_Model_loaded_307 : decode b_Model_loaded 307 = .ok (.iconst 1, 1) := by decide +kernel
theorem d_Model_loaded_308 : decode b_Model_loaded 308 = .ok (.iadd, 1) := by decide +kernel
theorem d_Model_loaded_309 : decode b_Model_loaded 309 = .ok (.iload 12, 2) := by decide +kernel
theorem d_Model_loaded_311 : decode b_Model_loaded 311 = .ok (.invokevirtual 242, 3) := by decide +kernel
theorem d_Model_loaded_314 : decode b_Model_loaded 314 = .ok (.istore 14, 2) := by decide +kernel
theorem d_Model_loaded_316 : decode b_Model_loaded 316 = .ok (.iload 13, 2) := by decide +kernel
theorem d_Model_loaded_318 : decode b_Model_loaded 318 = .ok (.i2l, 1) := by decide +kernel
theorem d_Model_loaded_319 : decode b_Model_loaded 319 = .ok (.lload 9, 2) := by decide +kernel
theorem d_Model_loaded_321 : decode b_Model_loaded 321 = .ok (.lconst 1, 1) := by decide +kernel
theorem d_Model_loaded_322 : decode b_Model_loaded 322 = .ok (.lsub, 1) := by decide +kernel
theorem d_Model_loaded_323 : decode b_Model_loaded 323 = .ok (.lcmp, 1) := by decide +kernel
theorem d_Model_loaded_324 : decode b_Model_loaded 324 = .ok (.ifCond .ne 14, 3) := by decide +kernel
theorem d_Model_loaded_327 : decode b_Model_loaded 327 = .ok (.iload 14, 2) := by decide +kernel
theorem d_Model_loaded_329 : decode b_Model_loaded 329 = .ok (.sipush 4088, 3) := by decide +kernel
theorem d_Model_loaded_332 : decode b_Model_loaded 332 = .ok (.if_icmp .ge 6, 3) := by decide +kernel
theorem d_Model_loaded_335 : decode b_Model_loaded 335 = .ok (.bipush 7, 2) := by decide +kernel
theorem d_Model_loaded_337 : decode b_Model_loaded 337 = .ok (.ireturn, 1) := by decide +kernel
theorem d_Model_loaded_338 : decode b_Model_loaded 338 = .ok (.iload 14, 2) := by decide +kernel
theorem d_Model_loaded_340 : decode b_Model_loaded 340 = .ok (.istore 12, 2) := by decide +kernel
theorem d_Model_loaded_342 : decode b_Model_loaded 342 = .ok (.iinc 13 1, 3) := by decide +kernel
theorem d_Model_loaded_345 : decode b_Model_loaded 345 = .ok (.goto (-68), 3) := by decide +kernel
theorem d_Model_loaded_348 : decode b_Model_loaded 348 = .ok (.lload 7, 2) := by decide +kernel
theorem d_Model_loaded_350 : decode b_Model_loaded 350 = .ok (.ldc2_w 230, 3) := by decide +kernel
theorem d_Model_loaded_353 : decode b_Model_loaded 353 = .ok (.lcmp, 1) := by decide +kernel
theorem d_Model_loaded_354 : decode b_Model_loaded 354 = .ok (.ifCond .ge 6, 3) := by decide +kernel
theorem d_Model_loaded_357 : decode b_Model_loaded 357 = .ok (.bipush 8, 2) := by decide +kernel
theorem d_Model_loaded_359 : decode b_Model_loaded 359 = .ok (.ireturn, 1) := by decide +kernel
theorem d_Model_loaded_360 : decode b_Model_loaded 360 = .ok (.sipush 512, 3) := by decide +kernel
theorem d_Model_loaded_363 : decode b_Model_loaded 363 = .ok (.aload_n 0, 1) := by decide +kernel
theorem d_Model_loaded_364 : decode b_Model_loaded 364 = .ok (.getfield 52, 3) := by decide +kernel
theorem d_Model_loaded_367 : decode b_Model_loaded 367 = .ok (.iconst 3, 1) := by decide +kernel
theorem d_Model_loaded_368 : decode b_Model_loaded 368 = .ok (.iadd, 1) := by decide +kernel
theorem d_Model_loaded_369 : decode b_Model_loaded 369 = .ok (.iconst 2, 1) := by decide +kernel
theorem d_Model_loaded_370 : decode b_Model_loaded 370 = .ok (.iload 4, 2) := by decide +kernel
theorem d_Model_loaded_372 : decode b_Model_loaded 372 = .ok (.imul, 1) := by decide +kernel
theorem d_Model_loaded_373 : decode b_Model_loaded 373 = .ok (.iadd, 1) := by decide +kernel
theorem d_Model_loaded_374 : decode b_Model_loaded 374 = .ok (.iload 11, 2) := by decide +kernel
theorem d_Model_loaded_376 : decode b_Model_loaded 376 = .ok (.iadd, 1) := by decide +kernel
theorem d_Model_loaded_377 : decode b_Model_loaded 377 = .ok (.iconst 2, 1) := by decide +kernel
theorem d_Model_loaded_378 : decode b_Model_loaded 378 = .ok (.isub, 1) := by decide +kernel
theorem d_Model_loaded_379 : decode b_Model_loaded 379 = .ok (.imul, 1) := by decide +kernel
theorem d_Model_loaded_380 : decode b_Model_loaded 380 = .ok (.istore 13, 2) := by decide +kernel
theorem d_Model_loaded_382 : decode b_Model_loaded 382 = .ok (.aload_n 0, 1) := by decide +kernel
theorem d_Model_loaded_383 : decode b_Model_loaded 383 = .ok (.iload 13, 2) := by decide +kernel
theorem d_Model_loaded_385 : decode b_Model_loaded 385 = .ok (.iconst 4, 1) := by decide +kernel
theorem d_Model_loaded_386 : decode b_Model_loaded 386 = .ok (.iadd, 1) := by decide +kernel
theorem d_Model_loaded_387 : decode b_Model_loaded 387 = .ok (.iconst 4, 1) := by decide +kernel
theorem d_Model_loaded_388 : decode b_Model_loaded 388 = .ok (.invokevirtual 162, 3) := by decide +kernel
theorem d_Model_loaded_391 : decode b_Model_loaded 391 = .ok (.lstore 14, 2) := by decide +kernel
theorem d_Model_loaded_393 : decode b_Model_loaded 393 = .ok (.aload_n 0, 1) := by decide +kernel
theorem d_Model_loaded_394 : decode b_Model_loaded 394 = .ok (.iload 13, 2) := by decide +kernel
theorem d_Model_loaded_396 : decode b_Model_loaded 396 = .ok (.invokevirtual 64, 3) := by decide +kernel
theorem d_Model_loaded_399 : decode b_Model_loaded 399 = .ok (.bipush 75, 2) := by decide +kernel
theorem d_Model_loaded_401 : decode b_Model_loaded 401 = .ok (.if_icmp .ne 46, 3) := by decide +kernel
theorem d_Model_loaded_404 : decode b_Model_loaded 404 = .ok (.aload_n 0, 1) := by decide +kernel
theorem d_Model_loaded_405 : decode b_Model_loaded 405 = .ok (.iload 13, 2) := by decide +kernel
theorem d_Model_loaded_407 : decode b_Model_loaded 407 = .ok (.iconst 1, 1) := by decide +kernel
theorem d_Model_loaded_408 : decode b_Model_loaded 408 = .ok (.iadd, 1) := by decide +kernel
theorem d_Model_loaded_409 : decode b_Model_loaded 409 = .ok (.invokevirtual 64, 3) := by decide +kernel
theorem d_Model_loaded_412 : decode b_Model_loaded 412 = .ok (.bipush 82, 2) := by decide +kernel
theorem d_Model_loaded_414 : decode b_Model_loaded 414 = .ok (.if_icmp .ne 33, 3) := by decide +kernel
theorem d_Model_loaded_417 : decode b_Model_loaded 417 = .ok (.aload_n 0, 1) := by decide +kernel
theorem d_Model_loaded_418 : decode b_Model_loaded 418 = .ok (.iload 13, 2) := by decide +kernel
theorem d_Model_loaded_420 : decode b_Model_loaded 420 = .ok (.iconst 2, 1) := by decide +kernel
theorem d_Model_loaded_421 : decode b_Model_loaded 421 = .ok (.iadd, 1) := by decide +kernel
theorem d_Model_loaded_422 : decode b_Model_loaded 422 = .ok (.invokevirtual 64, 3) := by decide +kernel
theorem d_Model_loaded_425 : decode b_Model_loaded 425 = .ok (.bipush 78, 2) := by decide +kernel
theorem d_Model_loaded_427 : decode b_Model_loaded 427 = .ok (.if_icmp .ne 20, 3) := by decide +kernel
theorem d_Model_loaded_430 : decode b_Model_loaded 430 = .ok (.aload_n 0, 1) := by decide +kernel
theorem d_Model_loaded_431 : decode b_Model_loaded 431 = .ok (.iload 13, 2) := by decide +kernel
theorem d_Model_loaded_433 : decode b_Model_loaded 433 = .ok (.iconst 3, 1) := by decide +kernel
theorem d_Model_loaded_434 : decode b_Model_loaded 434 = .ok (.iadd, 1) := by decide +kernel
theorem d_Model_loaded_435 : decode b_Model_loaded 435 = .ok (.invokevirtual 64, 3) := by decide +kernel
theorem d_Model_loaded_438 : decode b_Model_loaded 438 = .ok (.bipush 76, 2) := by decide +kernel
theorem d_Model_loaded_440 : decode b_Model_loaded 440 = .ok (.if_icmp .ne 7, 3) := by decide +kernel
theorem d_Model_loaded_443 : decode b_Model_loaded 443 = .ok (.iconst 1, 1) := by decide +kernel
theorem d_Model_loaded_444 : decode b_Model_loaded 444 = .ok (.goto 4, 3) := by decide +kernel
theorem d_Model_loaded_447 : decode b_Model_loaded 447 = .ok (.iconst 0, 1) := by decide +kernel
theorem d_Model_loaded_448 : decode b_Model_loaded 448 = .ok (.istore 16, 2) := by decide +kernel
theorem d_Model_loaded_450 : decode b_Model_loaded 450 = .ok (.iload 16, 2) := by decide +kernel
theorem d_Model_loaded_452 : decode b_Model_loaded 452 = .ok (.ifCond .eq 15, 3) := by decide +kernel
theorem d_Model_loaded_455 : decode b_Model_loaded 455 = .ok (.lload 14, 2) := by decide +kernel
theorem d_Model_loaded_457 : decode b_Model_loaded 457 = .ok (.lload 7, 2) := by decide +kernel
theorem d_Model_loaded_459 : decode b_Model_loaded 459 = .ok (.ladd, 1) := by decide +kernel
theorem d_Model_loaded_460 : decode b_Model_loaded 460 = .ok (.ldc2_w 245, 3) := by decide +kernel
theorem d_Model_loaded_463 : decode b_Model_loaded 463 = .ok (.lcmp, 1) := by decide +kernel
theorem d_Model_loaded_464 : decode b_Model_loaded 464 = .ok (.ifCond .le 6, 3) := by decide +kernel
theorem d_Model_loaded_467 : decode b_Model_loaded 467 = .ok (.bipush 8, 2) := by decide +kernel
theorem d_Model_loaded_469 : decode b_Model_loaded 469 = .ok (.ireturn, 1) := by decide +kernel
theorem d_Model_loaded_470 : decode b_Model_loaded 470 = .ok (.iload 11, 2) := by decide +kernel
theorem d_Model_loaded_472 : decode b_Model_loaded 472 = .ok (.istore 12, 2) := by decide +kernel
theorem d_Model_loaded_474 : decode b_Model_loaded 474 = .ok (.iconst 0, 1) := by decide +kernel
theorem d_Model_loaded_475 : decode b_Model_loaded 475 = .ok (.istore 17, 2) := by decide +kernel
theorem d_Model_loaded_477 : decode b_Model_loaded 477 = .ok (.iload 17, 2) := by decide +kernel
theorem d_Model_loaded_479 : decode b_Model_loaded 479 = .ok (.i2l, 1) := by decide +kernel
theorem d_Model_loaded_480 : decode b_Model_loaded 480 = .ok (.lload 7, 2) := by decide +kernel
theorem d_Model_loaded_482 : decode b_Model_loaded 482 = .ok (.lcmp, 1) := by decide +kernel
theorem d_Model_loaded_483 : decode b_Model_loaded 483 = .ok (.ifCond .ge 80, 3) := by decide +kernel
theorem d_Model_loaded_486 : decode b_Model_loaded 486 = .ok (.iload 17, 2) := by decide +kernel
theorem d_Model_loaded_488 : decode b_Model_loaded 488 = .ok (.ifCond .le 26, 3) := by decide +kernel
theorem d_Model_loaded_491 : decode b_Model_loaded 491 = .ok (.iload 17, 2) := by decide +kernel
theorem d_Model_loaded_493 : decode b_Model_loaded 493 = .ok (.sipush 512, 3) := by decide +kernel
theorem d_Model_loaded_496 : decode b_Model_loaded 496 = .ok (.irem, 1) := by decide +kernel
theorem d_Model_loaded_497 : decode b_Model_loaded 497 = .ok (.ifCond .ne 17, 3) := by decide +kernel
theorem d_Model_loaded_500 : decode b_Model_loaded 500 = .ok (.aload_n 0, 1) := by decide +kernel
theorem d_Model_loaded_501 : decode b_Model_loaded 501 = .ok (.aload_n 0, 1) := by decide +kernel
theorem d_Model_loaded_502 : decode b_Model_loaded 502 = .ok (.getfield 52, 3) := by decide +kernel
theorem d_Model_loaded_505 : decode b_Model_loaded 505 = .ok (.iconst 1, 1) := by decide +kernel
theorem d_Model_loaded_506 : decode b_Model_loaded 506 = .ok (.iadd, 1) := by decide +kernel
theorem d_Model_loaded_507 : decode b_Model_loaded 507 = .ok (.iload 12, 2) := by decide +kernel
theorem d_Model_loaded_509 : decode b_Model_loaded 509 = .ok (.invokevirtual 242, 3) := by decide +kernel
theorem d_Model_loaded_512 : decode b_Model_loaded 512 = .ok (.istore 12, 2) := by decide +kernel
theorem d_Model_loaded_514 : decode b_Model_loaded 514 = .ok (.aload_n 0, 1) := by decide +kernel
theorem d_Model_loaded_515 : decode b_Model_loaded 515 = .ok (.getfield 45, 3) := by decide +kernel
theorem d_Model_loaded_518 : decode b_Model_loaded 518 = .ok (.lload 14, 2) := by decide +kernel
theorem d_Model_loaded_520 : decode b_Model_loaded 520 = .ok (.l2i, 1) := by decide +kernel
theorem d_Model_loaded_521 : decode b_Model_loaded 521 = .ok (.iload 17, 2) := by decide +kernel
theorem d_Model_loaded_523 : decode b_Model_loaded 523 = .ok (.iadd, 1) := by decide +kernel
theorem d_Model_loaded_524 : decode b_Model_loaded 524 = .ok (.aload_n 0, 1) := by decide +kernel
theorem d_Model_loaded_525 : decode b_Model_loaded 525 = .ok (.getfield 8, 3) := by decide +kernel
theorem d_Model_loaded_528 : decode b_Model_loaded 528 = .ok (.sipush 512, 3) := by decide +kernel
theorem d_Model_loaded_531 : decode b_Model_loaded 531 = .ok (.aload_n 0, 1) := by decide +kernel
theorem d_Model_loaded_532 : decode b_Model_loaded 532 = .ok (.getfield 52, 3) := by decide +kernel
theorem d_Model_loaded_535 : decode b_Model_loaded 535 = .ok (.iconst 3, 1) := by decide +kernel
theorem d_Model_loaded_536 : decode b_Model_loaded 536 = .ok (.iadd, 1) := by decide +kernel
theorem d_Model_loaded_537 : decode b_Model_loaded 537 = .ok (.iconst 2, 1) := by decide +kernel
theorem d_Model_loaded_538 : decode b_Model_loaded 538 = .ok (.iload 4, 2) := by decide +kernel
theorem d_Model_loaded_540 : decode b_Model_loaded 540 = .ok (.imul, 1) := by decide +kernel
theorem d_Model_loaded_541 : decode b_Model_loaded 541 = .ok (.iadd, 1) := by decide +kernel
theorem d_Model_loaded_542 : decode b_Model_loaded 542 = .ok (.iload 12, 2) := by decide +kernel
theorem d_Model_loaded_544 : decode b_Model_loaded 544 = .ok (.iadd, 1) := by decide +kernel
theorem d_Model_loaded_545 : decode b_Model_loaded 545 = .ok (.iconst 2, 1) := by decide +kernel
theorem d_Model_loaded_546 : decode b_Model_loaded 546 = .ok (.isub, 1) := by decide +kernel
theorem d_Model_loaded_547 : decode b_Model_loaded 547 = .ok (.imul, 1) := by decide +kernel
theorem d_Model_loaded_548 : decode b_Model_loaded 548 = .ok (.iload 17, 2) := by decide +kernel
theorem d_Model_loaded_550 : decode b_Model_loaded 550 = .ok (.sipush 512, 3) := by decide +kernel
theorem d_Model_loaded_553 : decode b_Model_loaded 553 = .ok (.irem, 1) := by decide +kernel
theorem d_Model_loaded_554 : decode b_Model_loaded 554 = .ok (.iadd, 1) := by decide +kernel
theorem d_Model_loaded_555 : decode b_Model_loaded 555 = .ok (.baload, 1) := by decide +kernel
theorem d_Model_loaded_556 : decode b_Model_loaded 556 = .ok (.bastore, 1) := by decide +kernel
theorem d_Model_loaded_557 : decode b_Model_loaded 557 = .ok (.iinc 17 1, 3) := by decide +kernel
theorem d_Model_loaded_560 : decode b_Model_loaded 560 = .ok (.goto (-83), 3) := by decide +kernel
theorem d_Model_loaded_563 : decode b_Model_loaded 563 = .ok (.aload_n 0, 1) := by decide +kernel
theorem d_Model_loaded_564 : decode b_Model_loaded 564 = .ok (.lload 14, 2) := by decide +kernel
theorem d_Model_loaded_566 : decode b_Model_loaded 566 = .ok (.l2i, 1) := by decide +kernel
theorem d_Model_loaded_567 : decode b_Model_loaded 567 = .ok (.putfield 55, 3) := by decide +kernel
theorem d_Model_loaded_570 : decode b_Model_loaded 570 = .ok (.aload_n 0, 1) := by decide +kernel
theorem d_Model_loaded_571 : decode b_Model_loaded 571 = .ok (.lload 7, 2) := by decide +kernel
theorem d_Model_loaded_573 : decode b_Model_loaded 573 = .ok (.l2i, 1) := by decide +kernel
theorem d_Model_loaded_574 : decode b_Model_loaded 574 = .ok (.putfield 58, 3) := by decide +kernel
theorem d_Model_loaded_577 : decode b_Model_loaded 577 = .ok (.iconst 0, 1) := by decide +kernel
theorem d_Model_loaded_578 : decode b_Model_loaded 578 = .ok (.ireturn, 1) := by decide +kernel
set_option maxRecDepth 100000 in
theorem kc_Model_240 : Cond.constantLong R_Model 240 511 ∈ Wall := inW 1035 rfl rfl
set_option maxRecDepth 100000 in
theorem kc_Model_245 : Cond.constantLong R_Model 245 65536 ∈ Wall := inW 1040 rfl rfl
set_option maxRecDepth 100000 in
theorem fg_Model_55 : FlG Wall classes R_Model 55 7 20 := ⟨_, _, _, rfl, by decide, in_Model, inW 802 rfl rfl⟩
set_option maxRecDepth 100000 in
theorem fp_Model_55 : FlP Wall classes R_Model 55 7 20 .int := ⟨_, _, _, t_Model, rfl, by decide, in_Model, inW 802 rfl rfl, t_Model_ok, n_Model, rfl, by decide +kernel⟩
set_option maxRecDepth 100000 in
theorem fg_Model_58 : FlG Wall classes R_Model 58 7 21 := ⟨_, _, _, rfl, by decide, in_Model, inW 803 rfl rfl⟩
set_option maxRecDepth 100000 in
theorem fp_Model_58 : FlP Wall classes R_Model 58 7 21 .int := ⟨_, _, _, t_Model, rfl, by decide, in_Model, inW 803 rfl rfl, t_Model_ok, n_Model, rfl, by decide +kernel⟩
set_option maxRecDepth 100000 in
theorem fc_Model_237 : FcV Wall classes R_Model 237 7 y_Model_kernelEntry b_Model_kernelEntry 6 (some .int) ws_Model_kernelEntry 1 := ⟨⟨rfl, cw_Model_kernelEntry, inW 1031 rfl rfl, in_i_Model, by decide +kernel⟩, inW 1033 rfl rfl, inP 52 rfl rfl, _, _, rfl⟩
set_option maxRecDepth 100000 in
theorem fg_Model_45 : FlG Wall classes R_Model 45 7 23 := ⟨_, _, _, rfl, by decide, in_Model, inW 805 rfl rfl⟩
set_option maxRecDepth 100000 in
theorem fc_Model_242 : FcV Wall classes R_Model 242 7 y_Model_entryAt b_Model_entryAt 5 (some .int) ws_Model_entryAt 2 := ⟨⟨rfl, cw_Model_entryAt, inW 1036 rfl rfl, in_i_Model, by decide +kernel⟩, inW 1038 rfl rfl, inP 53 rfl rfl, _, _, rfl⟩
