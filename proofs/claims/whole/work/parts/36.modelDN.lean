abbrev b_Model_tables : ByteArray := prog_9_method_33_code
def y_Model_tables : MethodName := ⟨"BootMakerModel", "tables", "()V"⟩
def ws_Model_tables : List Cond := Cond.code y_Model_tables b_Model_tables 6 (none) :: Wall
set_option maxRecDepth 100000 in
theorem cw_Model_tables : Cond.code y_Model_tables b_Model_tables 6 (none) ∈ Wall := inW 994 rfl rfl
theorem d_Model_tables_0 : decode b_Model_tables 0 = .ok (.iconst 0, 1) := by decide +kernel
theorem d_Model_tables_1 : decode b_Model_tables 1 = .ok (.istore_n 1, 1) := by decide +kernel
theorem d_Model_tables_2 : decode b_Model_tables 2 = .ok (.iload_n 1, 1) := by decide +kernel
theorem d_Model_tables_3 : decode b_Model_tables 3 = .ok (.iconst 2, 1) := by decide +kernel
theorem d_Model_tables_4 : decode b_Model_tables 4 = .ok (.if_icmp .ge 531, 3) := by decide +kernel
theorem d_Model_tables_7 : decode b_Model_tables 7 = .ok (.sipush 512, 3) := by decide +kernel
theorem d_Model_tables_10 : decode b_Model_tables 10 = .ok (.iload_n 1, 1) := by decide +kernel
theorem d_Model_tables_11 : decode b_Model_tables 11 = .ok (.ifCond .ne 7, 3) := by decide +kernel
theorem d_Model_tables_14 : decode b_Model_tables 14 = .ok (.iconst 2, 1) := by decide +kernel
theorem d_Model_tables_15 : decode b_Model_tables 15 = .ok (.goto 10, 3) := by decide +kernel
theorem d_Model_tables_18 : decode b_Model_tables 18 = .ok (.aload_n 0, 1) := by decide +kernel
theorem d_Model_tables_19 : decode b_Model_tables 19 = .ok (.getfield 48, 3) := by decide +kernel
theorem d_Model_tables_22 : decode b_Model_tables 22 = .ok (.bipush 33, 2) := by decide +kernel
theorem d_Model_tables_24 : decode b_Model_tables 24 = .ok (.isub, 1) := by decide +kernel
theorem d_Model_tables_25 : decode b_Model_tables 25 = .ok (.imul, 1) := by decide +kernel
theorem d_Model_tables_26 : decode b_Model_tables 26 = .ok (.istore_n 2, 1) := by decide +kernel
theorem d_Model_tables_27 : decode b_Model_tables 27 = .ok (.iconst 0, 1) := by decide +kernel
theorem d_Model_tables_28 : decode b_Model_tables 28 = .ok (.istore_n 3, 1) := by decide +kernel
theorem d_Model_tables_29 : decode b_Model_tables 29 = .ok (.iload_n 3, 1) := by decide +kernel
theorem d_Model_tables_30 : decode b_Model_tables 30 = .ok (.aload_n 0, 1) := by decide +kernel
theorem d_Model_tables_31 : decode b_Model_tables 31 = .ok (.getfield 82, 3) := by decide +kernel
theorem d_Model_tables_34 : decode b_Model_tables 34 = .ok (.if_icmp .ge 225, 3) := by decide +kernel
theorem d_Model_tables_37 : decode b_Model_tables 37 = .ok (.iload_n 2, 1) := by decide +kernel
theorem d_Model_tables_38 : decode b_Model_tables 38 = .ok (.sipush 128, 3) := by decide +kernel
theorem d_Model_tables_41 : decode b_Model_tables 41 = .ok (.iload_n 3, 1) := by decide +kernel
theorem d_Model_tables_42 : decode b_Model_tables 42 = .ok (.imul, 1) := by decide +kernel
theorem d_Model_tables_43 : decode b_Model_tables 43 = .ok (.iadd, 1) := by decide +kernel
theorem d_Model_tables_44 : decode b_Model_tables 44 = .ok (.istore 4, 2) := by decide +kernel
theorem d_Model_tables_46 : decode b_Model_tables 46 = .ok (.iconst 0, 1) := by decide +kernel
theorem d_Model_tables_47 : decode b_Model_tables 47 = .ok (.istore 5, 2) := by decide +kernel
theorem d_Model_tables_49 : decode b_Model_tables 49 = .ok (.iload 5, 2) := by decide +kernel
theorem d_Model_tables_51 : decode b_Model_tables 51 = .ok (.bipush 16, 2) := by decide +kernel
theorem d_Model_tables_53 : decode b_Model_tables 53 = .ok (.if_icmp .ge 54, 3) := by decide +kernel
theorem d_Model_tables_56 : decode b_Model_tables 56 = .ok (.aload_n 0, 1) := by decide +kernel
theorem d_Model_tables_57 : decode b_Model_tables 57 = .ok (.getfield 8, 3) := by decide +kernel
theorem d_Model_tables_60 : decode b_Model_tables 60 = .ok (.iload 4, 2) := by decide +kernel
theorem d_Model_tables_62 : decode b_Model_tables 62 = .ok (.iload 5, 2) := by decide +kernel
theorem d_Model_tables_64 : decode b_Model_tables 64 = .ok (.iadd, 1) := by decide +kernel
theorem d_Model_tables_65 : decode b_Model_tables 65 = .ok (.aload_n 0, 1) := by decide +kernel
theorem d_Model_tables_66 : decode b_Model_tables 66 = .ok (.getfield 14, 3) := by decide +kernel
theorem d_Model_tables_69 : decode b_Model_tables 69 = .ok (.iload_n 3, 1) := by decide +kernel
theorem d_Model_tables_70 : decode b_Model_tables 70 = .ok (.iaload, 1) := by decide +kernel
theorem d_Model_tables_71 : decode b_Model_tables 71 = .ok (.iload 5, 2) := by decide +kernel
theorem d_Model_tables_73 : decode b_Model_tables 73 = .ok (.invokestatic 181, 3) := by decide +kernel
theorem d_Model_tables_76 : decode b_Model_tables 76 = .ok (.i2b, 1) := by decide +kernel
theorem d_Model_tables_77 : decode b_Model_tables 77 = .ok (.bastore, 1) := by decide +kernel
theorem d_Model_tables_78 : decode b_Model_tables 78 = .ok (.aload_n 0, 1) := by decide +kernel
theorem d_Model_tables_79 : decode b_Model_tables 79 = .ok (.getfield 8, 3) := by decide +kernel
theorem d_Model_tables_82 : decode b_Model_tables 82 = .ok (.iload 4, 2) := by decide +kernel
theorem d_Model_tables_84 : decode b_Model_tables 84 = .ok (.bipush 16, 2) := by decide +kernel
theorem d_Model_tables_86 : decode b_Model_tables 86 = .ok (.iadd, 1) := by decide +kernel
theorem d_Model_tables_87 : decode b_Model_tables 87 = .ok (.iload 5, 2) := by decide +kernel
theorem d_Model_tables_89 : decode b_Model_tables 89 = .ok (.iadd, 1) := by decide +kernel
theorem d_Model_tables_90 : decode b_Model_tables 90 = .ok (.bipush 32, 2) := by decide +kernel
theorem d_Model_tables_92 : decode b_Model_tables 92 = .ok (.iload_n 3, 1) := by decide +kernel
theorem d_Model_tables_93 : decode b_Model_tables 93 = .ok (.iconst 1, 1) := by decide +kernel
theorem d_Model_tables_94 : decode b_Model_tables 94 = .ok (.iadd, 1) := by decide +kernel
theorem d_Model_tables_95 : decode b_Model_tables 95 = .ok (.imul, 1) := by decide +kernel
theorem d_Model_tables_96 : decode b_Model_tables 96 = .ok (.iload 5, 2) := by decide +kernel
theorem d_Model_tables_98 : decode b_Model_tables 98 = .ok (.iadd, 1) := by decide +kernel
theorem d_Model_tables_99 : decode b_Model_tables 99 = .ok (.i2b, 1) := by decide +kernel
theorem d_Model_tables_100 : decode b_Model_tables 100 = .ok (.bastore, 1) := by decide +kernel
theorem d_Model_tables_101 : decode b_Model_tables 101 = .ok (.iinc 5 1, 3) := by decide +kernel
theorem d_Model_tables_104 : decode b_Model_tables 104 = .ok (.goto (-55), 3) := by decide +kernel
theorem d_Model_tables_107 : decode b_Model_tables 107 = .ok (.aload_n 0, 1) := by decide +kernel
theorem d_Model_tables_108 : decode b_Model_tables 108 = .ok (.iload 4, 2) := by decide +kernel
theorem d_Model_tables_110 : decode b_Model_tables 110 = .ok (.bipush 32, 2) := by decide +kernel
theorem d_Model_tables_112 : decode b_Model_tables 112 = .ok (.iadd, 1) := by decide +kernel
theorem d_Model_tables_113 : decode b_Model_tables 113 = .ok (.bipush 8, 2) := by decide +kernel
theorem d_Model_tables_115 : decode b_Model_tables 115 = .ok (.aload_n 0, 1) := by decide +kernel
theorem d_Model_tables_116 : decode b_Model_tables 116 = .ok (.getfield 18, 3) := by decide +kernel
theorem d_Model_tables_119 : decode b_Model_tables 119 = .ok (.iload_n 3, 1) := by decide +kernel
theorem d_Model_tables_120 : decode b_Model_tables 120 = .ok (.iaload, 1) := by decide +kernel
theorem d_Model_tables_121 : decode b_Model_tables 121 = .ok (.i2l, 1) := by decide +kernel
theorem d_Model_tables_122 : decode b_Model_tables 122 = .ok (.invokevirtual 158, 3) := by decide +kernel
theorem d_Model_tables_125 : decode b_Model_tables 125 = .ok (.aload_n 0, 1) := by decide +kernel
theorem d_Model_tables_126 : decode b_Model_tables 126 = .ok (.iload 4, 2) := by decide +kernel
theorem d_Model_tables_128 : decode b_Model_tables 128 = .ok (.bipush 40, 2) := by decide +kernel
theorem d_Model_tables_130 : decode b_Model_tables 130 = .ok (.iadd, 1) := by decide +kernel
theorem d_Model_tables_131 : decode b_Model_tables 131 = .ok (.bipush 8, 2) := by decide +kernel
theorem d_Model_tables_133 : decode b_Model_tables 133 = .ok (.aload_n 0, 1) := by decide +kernel
theorem d_Model_tables_134 : decode b_Model_tables 134 = .ok (.getfield 18, 3) := by decide +kernel
theorem d_Model_tables_137 : decode b_Model_tables 137 = .ok (.iload_n 3, 1) := by decide +kernel
theorem d_Model_tables_138 : decode b_Model_tables 138 = .ok (.iaload, 1) := by decide +kernel
theorem d_Model_tables_139 : decode b_Model_tables 139 = .ok (.aload_n 0, 1) := by decide +kernel
theorem d_Model_tables_140 : decode b_Model_tables 140 = .ok (.getfield 21, 3) := by decide +kernel
theorem d_Model_tables_143 : decode b_Model_tables 143 = .ok (.iload_n 3, 1) := by decide +kernel
theorem d_Model_tables_144 : decode b_Model_tables 144 = .ok (.iaload, 1) := by decide +kernel
theorem d_Model_tables_145 : decode b_Model_tables 145 = .ok (.iadd, 1) := by decide +kernel
theorem d_Model_tables_146 : decode b_Model_tables 146 = .ok (.iconst 1, 1) := by decide +kernel
theorem d_Model_tables_147 : decode b_Model_tables 147 = .ok (.isub, 1) := by decide +kernel
theorem d_Model_tables_148 : decode b_Model_tables 148 = .ok (.i2l, 1) := by decide +kernel
theorem d_Model_tables_149 : decode b_Model_tables 149 = .ok (.invokevirtual 158, 3) := by decide +kernel
theorem d_Model_tables_152 : decode b_Model_tables 152 = .ok (.aload_n 0, 1) := by decide +kernel
theorem d_Model_tables_153 : decode b_Model_tables 153 = .ok (.iload 4, 2) := by decide +kernel
theorem d_Model_tables_155 : decode b_Model_tables 155 = .ok (.bipush 56, 2) := by decide +kernel
theorem d_Model_tables_157 : decode b_Model_tables 157 = .ok (.iadd, 1) := by decide +kernel
theorem d_Model_tables_158 : decode b_Model_tables 158 = .ok (.aload_n 0, 1) := by decide +kernel
theorem d_Model_tables_159 : decode b_Model_tables 159 = .ok (.getfield 14, 3) := by decide +kernel
theorem d_Model_tables_162 : decode b_Model_tables 162 = .ok (.iload_n 3, 1) := by decide +kernel
theorem d_Model_tables_163 : decode b_Model_tables 163 = .ok (.iaload, 1) := by decide +kernel
theorem d_Model_tables_164 : decode b_Model_tables 164 = .ok (.ifCond .ne 8, 3) := by decide +kernel
theorem d_Model_tables_167 : decode b_Model_tables 167 = .ok (.bipush 98, 2) := by decide +kernel
theorem d_Model_tables_169 : decode b_Model_tables 169 = .ok (.goto 5, 3) := by decide +kernel
theorem d_Model_tables_172 : decode b_Model_tables 172 = .ok (.bipush 100, 2) := by decide +kernel
theorem d_Model_tables_174 : decode b_Model_tables 174 = .ok (.iconst 0, 1) := by decide +kernel
theorem d_Model_tables_175 : decode b_Model_tables 175 = .ok (.aload_n 0, 1) := by decide +kernel
theorem d_Model_tables_176 : decode b_Model_tables 176 = .ok (.getfield 14, 3) := by decide +kernel
theorem d_Model_tables_179 : decode b_Model_tables 179 = .ok (.iload_n 3, 1) := by decide +kernel
theorem d_Model_tables_180 : decode b_Model_tables 180 = .ok (.iaload, 1) := by decide +kernel
theorem d_Model_tables_181 : decode b_Model_tables 181 = .ok (.ifCond .ne 8, 3) := by decide +kernel
theorem d_Model_tables_184 : decode b_Model_tables 184 = .ok (.bipush 111, 2) := by decide +kernel
theorem d_Model_tables_186 : decode b_Model_tables 186 = .ok (.goto 5, 3) := by decide +kernel
theorem d_Model_tables_189 : decode b_Model_tables 189 = .ok (.bipush 97, 2) := by decide +kernel
theorem d_Model_tables_191 : decode b_Model_tables 191 = .ok (.iconst 0, 1) := by decide +kernel
theorem d_Model_tables_192 : decode b_Model_tables 192 = .ok (.invokevirtual 169, 3) := by decide +kernel
theorem d_Model_tables_195 : decode b_Model_tables 195 = .ok (.aload_n 0, 1) := by decide +kernel
theorem d_Model_tables_196 : decode b_Model_tables 196 = .ok (.iload 4, 2) := by decide +kernel
theorem d_Model_tables_198 : decode b_Model_tables 198 = .ok (.bipush 60, 2) := by decide +kernel
theorem d_Model_tables_200 : decode b_Model_tables 200 = .ok (.iadd, 1) := by decide +kernel
theorem d_Model_tables_201 : decode b_Model_tables 201 = .ok (.aload_n 0, 1) := by decide +kernel
theorem d_Model_tables_202 : decode b_Model_tables 202 = .ok (.getfield 14, 3) := by decide +kernel
theorem d_Model_tables_205 : decode b_Model_tables 205 = .ok (.iload_n 3, 1) := by decide +kernel
theorem d_Model_tables_206 : decode b_Model_tables 206 = .ok (.iaload, 1) := by decide +kernel
theorem d_Model_tables_207 : decode b_Model_tables 207 = .ok (.ifCond .ne 8, 3) := by decide +kernel
theorem d_Model_tables_210 : decode b_Model_tables 210 = .ok (.bipush 111, 2) := by decide +kernel
theorem d_Model_tables_212 : decode b_Model_tables 212 = .ok (.goto 5, 3) := by decide +kernel
theorem d_Model_tables_215 : decode b_Model_tables 215 = .ok (.bipush 116, 2) := by decide +kernel
theorem d_Model_tables_217 : decode b_Model_tables 217 = .ok (.iconst 0, 1) := by decide +kernel
theorem d_Model_tables_218 : decode b_Model_tables 218 = .ok (.aload_n 0, 1) := by decide +kernel
theorem d_Model_tables_219 : decode b_Model_tables 219 = .ok (.getfield 14, 3) := by decide +kernel
theorem d_Model_tables_222 : decode b_Model_tables 222 = .ok (.iload_n 3, 1) := by decide +kernel
theorem d_Model_tables_223 : decode b_Model_tables 223 = .ok (.iaload, 1) := by decide +kernel
theorem d_Model_tables_224 : decode b_Model_tables 224 = .ok (.ifCond .ne 8, 3) := by decide +kernel
theorem d_Model_tables_227 : decode b_Model_tables 227 = .ok (.bipush 116, 2) := by decide +kernel
theorem d_Model_tables_229 : decode b_Model_tables 229 = .ok (.goto 5, 3) := by decide +kernel
theorem d_Model_tables_232 : decode b_Model_tables 232 = .ok (.bipush 97, 2) := by decide +kernel
theorem d_Model_tables_234 : decode b_Model_tables 234 = .ok (.iconst 0, 1) := by decide +kernel
theorem d_Model_tables_235 : decode b_Model_tables 235 = .ok (.invokevirtual 169, 3) := by decide +kernel
theorem d_Model_tables_238 : decode b_Model_tables 238 = .ok (.aload_n 0, 1) := by decide +kernel
theorem d_Model_tables_239 : decode b_Model_tables 239 = .ok (.getfield 8, 3) := by decide +kernel
theorem d_Model_tables_242 : decode b_Model_tables 242 = .ok (.iload 4, 2) := by decide +kernel
theorem d_Model_tables_244 : decode b_Model_tables 244 = .ok (.bipush 64, 2) := by decide +kernel
theorem d_Model_tables_246 : decode b_Model_tables 246 = .ok (.iadd, 1) := by decide +kernel
theorem d_Model_tables_247 : decode b_Model_tables 247 = .ok (.bipush 48, 2) := by decide +kernel
theorem d_Model_tables_249 : decode b_Model_tables 249 = .ok (.iload_n 3, 1) := by decide +kernel
theorem d_Model_tables_250 : decode b_Model_tables 250 = .ok (.iadd, 1) := by decide +kernel
theorem d_Model_tables_251 : decode b_Model_tables 251 = .ok (.i2b, 1) := by decide +kernel
theorem d_Model_tables_252 : decode b_Model_tables 252 = .ok (.bastore, 1) := by decide +kernel
theorem d_Model_tables_253 : decode b_Model_tables 253 = .ok (.iinc 3 1, 3) := by decide +kernel
theorem d_Model_tables_256 : decode b_Model_tables 256 = .ok (.goto (-227), 3) := by decide +kernel
theorem d_Model_tables_259 : decode b_Model_tables 259 = .ok (.iload_n 1, 1) := by decide +kernel
theorem d_Model_tables_260 : decode b_Model_tables 260 = .ok (.ifCond .ne 7, 3) := by decide +kernel
theorem d_Model_tables_263 : decode b_Model_tables 263 = .ok (.iconst 1, 1) := by decide +kernel
theorem d_Model_tables_264 : decode b_Model_tables 264 = .ok (.goto 9, 3) := by decide +kernel
theorem d_Model_tables_267 : decode b_Model_tables 267 = .ok (.aload_n 0, 1) := by decide +kernel
theorem d_Model_tables_268 : decode b_Model_tables 268 = .ok (.getfield 48, 3) := by decide +kernel
theorem d_Model_tables_271 : decode b_Model_tables 271 = .ok (.iconst 1, 1) := by decide +kernel
theorem d_Model_tables_272 : decode b_Model_tables 272 = .ok (.isub, 1) := by decide +kernel
theorem d_Model_tables_273 : decode b_Model_tables 273 = .ok (.istore_n 3, 1) := by decide +kernel
theorem d_Model_tables_274 : decode b_Model_tables 274 = .ok (.sipush 512, 3) := by decide +kernel
theorem d_Model_tables_277 : decode b_Model_tables 277 = .ok (.iload_n 3, 1) := by decide +kernel
theorem d_Model_tables_278 : decode b_Model_tables 278 = .ok (.imul, 1) := by decide +kernel
theorem d_Model_tables_279 : decode b_Model_tables 279 = .ok (.istore 4, 2) := by decide +kernel
theorem d_Model_tables_281 : decode b_Model_tables 281 = .ok (.aload_n 0, 1) := by decide +kernel
theorem d_Model_tables_282 : decode b_Model_tables 282 = .ok (.iload 4, 2) := by decide +kernel
theorem d_Model_tables_284 : decode b_Model_tables 284 = .ok (.bipush 69, 2) := by decide +kernel
theorem d_Model_tables_286 : decode b_Model_tables 286 = .ok (.bipush 70, 2) := by decide +kernel
theorem d_Model_tables_288 : decode b_Model_tables 288 = .ok (.bipush 73, 2) := by decide +kernel
theorem d_Model_tables_290 : decode b_Model_tables 290 = .ok (.bipush 32, 2) := by decide +kernel
theorem d_Model_tables_292 : decode b_Model_tables 292 = .ok (.invokevirtual 169, 3) := by decide +kernel
theorem d_Model_tables_295 : decode b_Model_tables 295 = .ok (.aload_n 0, 1) := by decide +kernel
theorem d_Model_tables_296 : decode b_Model_tables 296 = .ok (.iload 4, 2) := by decide +kernel
theorem d_Model_tables_298 : decode b_Model_tables 298 = .ok (.iconst 4, 1) := by decide +kernel
theorem d_Model_tables_299 : decode b_Model_tables 299 = .ok (.iadd, 1) := by decide +kernel
theorem d_Model_tables_300 : decode b_Model_tables 300 = .ok (.bipush 80, 2) := by decide +kernel
theorem d_Model_tables_302 : decode b_Model_tables 302 = .ok (.bipush 65, 2) := by decide +kernel
theorem d_Model_tables_304 : decode b_Model_tables 304 = .ok (.bipush 82, 2) := by decide +kernel
theorem d_Model_tables_306 : decode b_Model_tables 306 = .ok (.bipush 84, 2) := by decide +kernel
theorem d_Model_tables_308 : decode b_Model_tables 308 = .ok (.invokevirtual 169, 3) := by decide +kernel
theorem d_Model_tables_311 : decode b_Model_tables 311 = .ok (.aload_n 0, 1) := by decide +kernel
theorem d_Model_tables_312 : decode b_Model_tables 312 = .ok (.getfield 8, 3) := by decide +kernel
theorem d_Model_tables_315 : decode b_Model_tables 315 = .ok (.iload 4, 2) := by decide +kernel
theorem d_Model_tables_317 : decode b_Model_tables 317 = .ok (.bipush 10, 2) := by decide +kernel
theorem d_Model_tables_319 : decode b_Model_tables 319 = .ok (.iadd, 1) := by decide +kernel
theorem d_Model_tables_320 : decode b_Model_tables 320 = .ok (.iconst 1, 1) := by decide +kernel
theorem d_Model_tables_321 : decode b_Model_tables 321 = .ok (.bastore, 1) := by decide +kernel
theorem d_Model_tables_322 : decode b_Model_tables 322 = .ok (.aload_n 0, 1) := by decide +kernel
theorem d_Model_tables_323 : decode b_Model_tables 323 = .ok (.iload 4, 2) := by decide +kernel
theorem d_Model_tables_325 : decode b_Model_tables 325 = .ok (.bipush 12, 2) := by decide +kernel
theorem d_Model_tables_327 : decode b_Model_tables 327 = .ok (.iadd, 1) := by decide +kernel
theorem d_Model_tables_328 : decode b_Model_tables 328 = .ok (.iconst 4, 1) := by decide +kernel
theorem d_Model_tables_329 : decode b_Model_tables 329 = .ok (.ldc2_w 184, 3) := by decide +kernel
theorem d_Model_tables_332 : decode b_Model_tables 332 = .ok (.invokevirtual 158, 3) := by decide +kernel
theorem d_Model_tables_335 : decode b_Model_tables 335 = .ok (.aload_n 0, 1) := by decide +kernel
theorem d_Model_tables_336 : decode b_Model_tables 336 = .ok (.iload 4, 2) := by decide +kernel
theorem d_Model_tables_338 : decode b_Model_tables 338 = .ok (.bipush 24, 2) := by decide +kernel
theorem d_Model_tables_340 : decode b_Model_tables 340 = .ok (.iadd, 1) := by decide +kernel
theorem d_Model_tables_341 : decode b_Model_tables 341 = .ok (.bipush 8, 2) := by decide +kernel
theorem d_Model_tables_343 : decode b_Model_tables 343 = .ok (.iload_n 3, 1) := by decide +kernel
theorem d_Model_tables_344 : decode b_Model_tables 344 = .ok (.i2l, 1) := by decide +kernel
theorem d_Model_tables_345 : decode b_Model_tables 345 = .ok (.invokevirtual 158, 3) := by decide +kernel
theorem d_Model_tables_348 : decode b_Model_tables 348 = .ok (.aload_n 0, 1) := by decide +kernel
theorem d_Model_tables_349 : decode b_Model_tables 349 = .ok (.iload 4, 2) := by decide +kernel
theorem d_Model_tables_351 : decode b_Model_tables 351 = .ok (.bipush 32, 2) := by decide +kernel
theorem d_Model_tables_353 : decode b_Model_tables 353 = .ok (.iadd, 1) := by decide +kernel
theorem d_Model_tables_354 : decode b_Model_tables 354 = .ok (.bipush 8, 2) := by decide +kernel
theorem d_Model_tables_356 : decode b_Model_tables 356 = .ok (.aload_n 0, 1) := by decide +kernel
theorem d_Model_tables_357 : decode b_Model_tables 357 = .ok (.getfield 48, 3) := by decide +kernel
theorem d_Model_tables_360 : decode b_Model_tables 360 = .ok (.iload_n 3, 1) := by decide +kernel
theorem d_Model_tables_361 : decode b_Model_tables 361 = .ok (.isub, 1) := by decide +kernel
theorem d_Model_tables_362 : decode b_Model_tables 362 = .ok (.i2l, 1) := by decide +kernel
theorem d_Model_tables_363 : decode b_Model_tables 363 = .ok (.invokevirtual 158, 3) := by decide +kernel
theorem d_Model_tables_366 : decode b_Model_tables 366 = .ok (.aload_n 0, 1) := by decide +kernel
theorem d_Model_tables_367 : decode b_Model_tables 367 = .ok (.iload 4, 2) := by decide +kernel
theorem d_Model_tables_369 : decode b_Model_tables 369 = .ok (.bipush 40, 2) := by decide +kernel
theorem d_Model_tables_371 : decode b_Model_tables 371 = .ok (.iadd, 1) := by decide +kernel
theorem d_Model_tables_372 : decode b_Model_tables 372 = .ok (.bipush 8, 2) := by decide +kernel
theorem d_Model_tables_374 : decode b_Model_tables 374 = .ok (.ldc2_w 186, 3) := by decide +kernel
theorem d_Model_tables_377 : decode b_Model_tables 377 = .ok (.invokevirtual 158, 3) := by decide +kernel
theorem d_Model_tables_380 : decode b_Model_tables 380 = .ok (.aload_n 0, 1) := by decide +kernel
theorem d_Model_tables_381 : decode b_Model_tables 381 = .ok (.iload 4, 2) := by decide +kernel
theorem d_Model_tables_383 : decode b_Model_tables 383 = .ok (.bipush 48, 2) := by decide +kernel
theorem d_Model_tables_385 : decode b_Model_tables 385 = .ok (.iadd, 1) := by decide +kernel
theorem d_Model_tables_386 : decode b_Model_tables 386 = .ok (.bipush 8, 2) := by decide +kernel
theorem d_Model_tables_388 : decode b_Model_tables 388 = .ok (.aload_n 0, 1) := by decide +kernel
theorem d_Model_tables_389 : decode b_Model_tables 389 = .ok (.getfield 48, 3) := by decide +kernel
theorem d_Model_tables_392 : decode b_Model_tables 392 = .ok (.bipush 34, 2) := by decide +kernel
theorem d_Model_tables_394 : decode b_Model_tables 394 = .ok (.isub, 1) := by decide +kernel
theorem d_Model_tables_395 : decode b_Model_tables 395 = .ok (.i2l, 1) := by decide +kernel
theorem d_Model_tables_396 : decode b_Model_tables 396 = .ok (.invokevirtual 158, 3) := by decide +kernel
theorem d_Model_tables_399 : decode b_Model_tables 399 = .ok (.iconst 0, 1) := by decide +kernel
theorem d_Model_tables_400 : decode b_Model_tables 400 = .ok (.istore 5, 2) := by decide +kernel
theorem d_Model_tables_402 : decode b_Model_tables 402 = .ok (.iload 5, 2) := by decide +kernel
theorem d_Model_tables_404 : decode b_Model_tables 404 = .ok (.bipush 16, 2) := by decide +kernel
theorem d_Model_tables_406 : decode b_Model_tables 406 = .ok (.if_icmp .ge 30, 3) := by decide +kernel
theorem d_Model_tables_409 : decode b_Model_tables 409 = .ok (.aload_n 0, 1) := by decide +kernel
theorem d_Model_tables_410 : decode b_Model_tables 410 = .ok (.getfield 8, 3) := by decide +kernel
theorem d_Model_tables_413 : decode b_Model_tables 413 = .ok (.iload 4, 2) := by decide +kernel
theorem d_Model_tables_415 : decode b_Model_tables 415 = .ok (.bipush 56, 2) := by decide +kernel
theorem d_Model_tables_417 : decode b_Model_tables 417 = .ok (.iadd, 1) := by decide +kernel
theorem d_Model_tables_418 : decode b_Model_tables 418 = .ok (.iload 5, 2) := by decide +kernel
theorem d_Model_tables_420 : decode b_Model_tables 420 = .ok (.iadd, 1) := by decide +kernel
theorem d_Model_tables_421 : decode b_Model_tables 421 = .ok (.bipush 17, 2) := by decide +kernel
theorem d_Model_tables_423 : decode b_Model_tables 423 = .ok (.iload 5, 2) := by decide +kernel
theorem d_Model_tables_425 : decode b_Model_tables 425 = .ok (.imul, 1) := by decide +kernel
theorem d_Model_tables_426 : decode b_Model_tables 426 = .ok (.iconst 1, 1) := by decide +kernel
theorem d_Model_tables_427 : decode b_Model_tables 427 = .ok (.iadd, 1) := by decide +kernel
theorem d_Model_tables_428 : decode b_Model_tables 428 = .ok (.i2b, 1) := by decide +kernel
theorem d_Model_tables_429 : decode b_Model_tables 429 = .ok (.bastore, 1) := by decide +kernel
theorem d_Model_tables_430 : decode b_Model_tables 430 = .ok (.iinc 5 1, 3) := by decide +kernel
theorem d_Model_tables_433 : decode b_Model_tables 433 = .ok (.goto (-31), 3) := by decide +kernel
theorem d_Model_tables_436 : decode b_Model_tables 436 = .ok (.aload_n 0, 1) := by decide +kernel
theorem d_Model_tables_437 : decode b_Model_tables 437 = .ok (.iload 4, 2) := by decide +kernel
theorem d_Model_tables_439 : decode b_Model_tables 439 = .ok (.bipush 72, 2) := by decide +kernel
theorem d_Model_tables_441 : decode b_Model_tables 441 = .ok (.iadd, 1) := by decide +kernel
theorem d_Model_tables_442 : decode b_Model_tables 442 = .ok (.bipush 8, 2) := by decide +kernel
theorem d_Model_tables_444 : decode b_Model_tables 444 = .ok (.iload_n 1, 1) := by decide +kernel
theorem d_Model_tables_445 : decode b_Model_tables 445 = .ok (.ifCond .ne 9, 3) := by decide +kernel
theorem d_Model_tables_448 : decode b_Model_tables 448 = .ok (.ldc2_w 188, 3) := by decide +kernel
theorem d_Model_tables_451 : decode b_Model_tables 451 = .ok (.goto 11, 3) := by decide +kernel
theorem d_Model_tables_454 : decode b_Model_tables 454 = .ok (.aload_n 0, 1) := by decide +kernel
theorem d_Model_tables_455 : decode b_Model_tables 455 = .ok (.getfield 48, 3) := by decide +kernel
theorem d_Model_tables_458 : decode b_Model_tables 458 = .ok (.bipush 33, 2) := by decide +kernel
theorem d_Model_tables_460 : decode b_Model_tables 460 = .ok (.isub, 1) := by decide +kernel
theorem d_Model_tables_461 : decode b_Model_tables 461 = .ok (.i2l, 1) := by decide +kernel
theorem d_Model_tables_462 : decode b_Model_tables 462 = .ok (.invokevirtual 158, 3) := by decide +kernel
theorem d_Model_tables_465 : decode b_Model_tables 465 = .ok (.aload_n 0, 1) := by decide +kernel
theorem d_Model_tables_466 : decode b_Model_tables 466 = .ok (.iload 4, 2) := by decide +kernel
theorem d_Model_tables_468 : decode b_Model_tables 468 = .ok (.bipush 80, 2) := by decide +kernel
theorem d_Model_tables_470 : decode b_Model_tables 470 = .ok (.iadd, 1) := by decide +kernel
theorem d_Model_tables_471 : decode b_Model_tables 471 = .ok (.iconst 4, 1) := by decide +kernel
theorem d_Model_tables_472 : decode b_Model_tables 472 = .ok (.ldc2_w 190, 3) := by decide +kernel
theorem d_Model_tables_475 : decode b_Model_tables 475 = .ok (.invokevirtual 158, 3) := by decide +kernel
theorem d_Model_tables_478 : decode b_Model_tables 478 = .ok (.aload_n 0, 1) := by decide +kernel
theorem d_Model_tables_479 : decode b_Model_tables 479 = .ok (.iload 4, 2) := by decide +kernel
theorem d_Model_tables_481 : decode b_Model_tables 481 = .ok (.bipush 84, 2) := by decide +kernel
theorem d_Model_tables_483 : decode b_Model_tables 483 = .ok (.iadd, 1) := by decide +kernel
theorem d_Model_tables_484 : decode b_Model_tables 484 = .ok (.iconst 4, 1) := by decide +kernel
theorem d_Model_tables_485 : decode b_Model_tables 485 = .ok (.ldc2_w 190, 3) := by decide +kernel
theorem d_Model_tables_488 : decode b_Model_tables 488 = .ok (.invokevirtual 158, 3) := by decide +kernel
theorem d_Model_tables_491 : decode b_Model_tables 491 = .ok (.aload_n 0, 1) := by decide +kernel
theorem d_Model_tables_492 : decode b_Model_tables 492 = .ok (.iload 4, 2) := by decide +kernel
theorem d_Model_tables_494 : decode b_Model_tables 494 = .ok (.bipush 88, 2) := by decide +kernel
theorem d_Model_tables_496 : decode b_Model_tables 496 = .ok (.iadd, 1) := by decide +kernel
theorem d_Model_tables_497 : decode b_Model_tables 497 = .ok (.iconst 4, 1) := by decide +kernel
theorem d_Model_tables_498 : decode b_Model_tables 498 = .ok (.aload_n 0, 1) := by decide +kernel
theorem d_Model_tables_499 : decode b_Model_tables 499 = .ok (.iload_n 2, 1) := by decide +kernel
theorem d_Model_tables_500 : decode b_Model_tables 500 = .ok (.sipush 16384, 3) := by decide +kernel
theorem d_Model_tables_503 : decode b_Model_tables 503 = .ok (.invokevirtual 79, 3) := by decide +kernel
theorem d_Model_tables_506 : decode b_Model_tables 506 = .ok (.i2l, 1) := by decide +kernel
theorem d_Model_tables_507 : decode b_Model_tables 507 = .ok (.invokevirtual 158, 3) := by decide +kernel
theorem d_Model_tables_510 : decode b_Model_tables 510 = .ok (.aload_n 0, 1) := by decide +kernel
theorem d_Model_tables_511 : decode b_Model_tables 511 = .ok (.iload 4, 2) := by decide +kernel
theorem d_Model_tables_513 : decode b_Model_tables 513 = .ok (.bipush 16, 2) := by decide +kernel
theorem d_Model_tables_515 : decode b_Model_tables 515 = .ok (.iadd, 1) := by decide +kernel
theorem d_Model_tables_516 : decode b_Model_tables 516 = .ok (.iconst 4, 1) := by decide +kernel
theorem d_Model_tables_517 : decode b_Model_tables 517 = .ok (.aload_n 0, 1) := by decide +kernel
theorem d_Model_tables_518 : decode b_Model_tables 518 = .ok (.iload 4, 2) := by decide +kernel
theorem d_Model_tables_520 : decode b_Model_tables 520 = .ok (.bipush 92, 2) := by decide +kernel
theorem d_Model_tables_522 : decode b_Model_tables 522 = .ok (.invokevirtual 79, 3) := by decide +kernel
theorem d_Model_tables_525 : decode b_Model_tables 525 = .ok (.i2l, 1) := by decide +kernel
theorem d_Model_tables_526 : decode b_Model_tables 526 = .ok (.invokevirtual 158, 3) := by decide +kernel
theorem d_Model_tables_529 : decode b_Model_tables 529 = .ok (.iinc 1 1, 3) := by decide +kernel
theorem d_Model_tables_532 : decode b_Model_tables 532 = .ok (.goto (-530), 3) := by decide +kernel
theorem d_Model_tables_535 : decode b_Model_tables 535 = .ok (.return_, 1) := by decide +kernel
set_option maxRecDepth 100000 in
theorem kc_Model_184 : Cond.constantLong R_Model 184 92 ∈ Wall := inW 1002 rfl rfl
set_option maxRecDepth 100000 in
theorem kc_Model_186 : Cond.constantLong R_Model 186 34 ∈ Wall := inW 1003 rfl rfl
set_option maxRecDepth 100000 in
theorem kc_Model_190 : Cond.constantLong R_Model 190 128 ∈ Wall := inW 1004 rfl rfl
set_option maxRecDepth 100000 in
theorem kc_Model_188 : Cond.constantLong R_Model 188 2 ∈ Wall := inW 962 rfl rfl
set_option maxRecDepth 100000 in
theorem fc_Model_181 : FcS Wall R_Model 181 y_Model_sixteen b_Model_sixteen 6 (some .int) ws_Model_sixteen 2 := ⟨⟨rfl, cw_Model_sixteen, inW 995 rfl rfl, in_i_Model, by decide +kernel⟩, inW 996 rfl rfl⟩
