abbrev b_Model_lay : ByteArray := prog_9_method_36_code
def y_Model_lay : MethodName := ⟨"BootMakerModel", "lay", "(I)V"⟩
def ws_Model_lay : List Cond := Cond.code y_Model_lay b_Model_lay 6 (none) :: Wall
set_option maxRecDepth 100000 in
theorem cw_Model_lay : Cond.code y_Model_lay b_Model_lay 6 (none) ∈ Wall := inW 951 rfl rfl
theorem d_Model_lay_0 : decode b_Model_lay 0 = .ok (.sipush 512, 3) := by decide +kernel
theorem d_Model_lay_3 : decode b_Model_lay 3 = .ok (.aload_n 0, 1) := by decide +kernel
theorem d_Model_lay_4 : decode b_Model_lay 4 = .ok (.getfield 118, 3) := by decide +kernel
theorem d_Model_lay_7 : decode b_Model_lay 7 = .ok (.imul, 1) := by decide +kernel
theorem d_Model_lay_8 : decode b_Model_lay 8 = .ok (.istore_n 2, 1) := by decide +kernel
theorem d_Model_lay_9 : decode b_Model_lay 9 = .ok (.aload_n 0, 1) := by decide +kernel
theorem d_Model_lay_10 : decode b_Model_lay 10 = .ok (.getfield 8, 3) := by decide +kernel
theorem d_Model_lay_13 : decode b_Model_lay 13 = .ok (.iload_n 2, 1) := by decide +kernel
theorem d_Model_lay_14 : decode b_Model_lay 14 = .ok (.bipush (-21), 2) := by decide +kernel
theorem d_Model_lay_16 : decode b_Model_lay 16 = .ok (.bastore, 1) := by decide +kernel
theorem d_Model_lay_17 : decode b_Model_lay 17 = .ok (.aload_n 0, 1) := by decide +kernel
theorem d_Model_lay_18 : decode b_Model_lay 18 = .ok (.getfield 8, 3) := by decide +kernel
theorem d_Model_lay_21 : decode b_Model_lay 21 = .ok (.iload_n 2, 1) := by decide +kernel
theorem d_Model_lay_22 : decode b_Model_lay 22 = .ok (.iconst 1, 1) := by decide +kernel
theorem d_Model_lay_23 : decode b_Model_lay 23 = .ok (.iadd, 1) := by decide +kernel
theorem d_Model_lay_24 : decode b_Model_lay 24 = .ok (.bipush 60, 2) := by decide +kernel
theorem d_Model_lay_26 : decode b_Model_lay 26 = .ok (.bastore, 1) := by decide +kernel
theorem d_Model_lay_27 : decode b_Model_lay 27 = .ok (.aload_n 0, 1) := by decide +kernel
theorem d_Model_lay_28 : decode b_Model_lay 28 = .ok (.getfield 8, 3) := by decide +kernel
theorem d_Model_lay_31 : decode b_Model_lay 31 = .ok (.iload_n 2, 1) := by decide +kernel
theorem d_Model_lay_32 : decode b_Model_lay 32 = .ok (.iconst 2, 1) := by decide +kernel
theorem d_Model_lay_33 : decode b_Model_lay 33 = .ok (.iadd, 1) := by decide +kernel
theorem d_Model_lay_34 : decode b_Model_lay 34 = .ok (.bipush (-112), 2) := by decide +kernel
theorem d_Model_lay_36 : decode b_Model_lay 36 = .ok (.bastore, 1) := by decide +kernel
theorem d_Model_lay_37 : decode b_Model_lay 37 = .ok (.aload_n 0, 1) := by decide +kernel
theorem d_Model_lay_38 : decode b_Model_lay 38 = .ok (.iload_n 2, 1) := by decide +kernel
theorem d_Model_lay_39 : decode b_Model_lay 39 = .ok (.iconst 3, 1) := by decide +kernel
theorem d_Model_lay_40 : decode b_Model_lay 40 = .ok (.iadd, 1) := by decide +kernel
theorem d_Model_lay_41 : decode b_Model_lay 41 = .ok (.bipush 8, 2) := by decide +kernel
theorem d_Model_lay_43 : decode b_Model_lay 43 = .ok (.ldc2_w 195, 3) := by decide +kernel
theorem d_Model_lay_46 : decode b_Model_lay 46 = .ok (.iconst 0, 1) := by decide +kernel
theorem d_Model_lay_47 : decode b_Model_lay 47 = .ok (.invokevirtual 197, 3) := by decide +kernel
theorem d_Model_lay_50 : decode b_Model_lay 50 = .ok (.aload_n 0, 1) := by decide +kernel
theorem d_Model_lay_51 : decode b_Model_lay 51 = .ok (.iload_n 2, 1) := by decide +kernel
theorem d_Model_lay_52 : decode b_Model_lay 52 = .ok (.bipush 11, 2) := by decide +kernel
theorem d_Model_lay_54 : decode b_Model_lay 54 = .ok (.iadd, 1) := by decide +kernel
theorem d_Model_lay_55 : decode b_Model_lay 55 = .ok (.iconst 2, 1) := by decide +kernel
theorem d_Model_lay_56 : decode b_Model_lay 56 = .ok (.ldc2_w 77, 3) := by decide +kernel
theorem d_Model_lay_59 : decode b_Model_lay 59 = .ok (.invokevirtual 158, 3) := by decide +kernel
theorem d_Model_lay_62 : decode b_Model_lay 62 = .ok (.aload_n 0, 1) := by decide +kernel
theorem d_Model_lay_63 : decode b_Model_lay 63 = .ok (.getfield 8, 3) := by decide +kernel
theorem d_Model_lay_66 : decode b_Model_lay 66 = .ok (.iload_n 2, 1) := by decide +kernel
theorem d_Model_lay_67 : decode b_Model_lay 67 = .ok (.bipush 13, 2) := by decide +kernel
theorem d_Model_lay_69 : decode b_Model_lay 69 = .ok (.iadd, 1) := by decide +kernel
theorem d_Model_lay_70 : decode b_Model_lay 70 = .ok (.iconst 1, 1) := by decide +kernel
theorem d_Model_lay_71 : decode b_Model_lay 71 = .ok (.bastore, 1) := by decide +kernel
theorem d_Model_lay_72 : decode b_Model_lay 72 = .ok (.aload_n 0, 1) := by decide +kernel
theorem d_Model_lay_73 : decode b_Model_lay 73 = .ok (.iload_n 2, 1) := by decide +kernel
theorem d_Model_lay_74 : decode b_Model_lay 74 = .ok (.bipush 14, 2) := by decide +kernel
theorem d_Model_lay_76 : decode b_Model_lay 76 = .ok (.iadd, 1) := by decide +kernel
theorem d_Model_lay_77 : decode b_Model_lay 77 = .ok (.iconst 2, 1) := by decide +kernel
theorem d_Model_lay_78 : decode b_Model_lay 78 = .ok (.lconst 1, 1) := by decide +kernel
theorem d_Model_lay_79 : decode b_Model_lay 79 = .ok (.invokevirtual 158, 3) := by decide +kernel
theorem d_Model_lay_82 : decode b_Model_lay 82 = .ok (.aload_n 0, 1) := by decide +kernel
theorem d_Model_lay_83 : decode b_Model_lay 83 = .ok (.getfield 8, 3) := by decide +kernel
theorem d_Model_lay_86 : decode b_Model_lay 86 = .ok (.iload_n 2, 1) := by decide +kernel
theorem d_Model_lay_87 : decode b_Model_lay 87 = .ok (.bipush 16, 2) := by decide +kernel
theorem d_Model_lay_89 : decode b_Model_lay 89 = .ok (.iadd, 1) := by decide +kernel
theorem d_Model_lay_90 : decode b_Model_lay 90 = .ok (.iconst 2, 1) := by decide +kernel
theorem d_Model_lay_91 : decode b_Model_lay 91 = .ok (.bastore, 1) := by decide +kernel
theorem d_Model_lay_92 : decode b_Model_lay 92 = .ok (.aload_n 0, 1) := by decide +kernel
theorem d_Model_lay_93 : decode b_Model_lay 93 = .ok (.iload_n 2, 1) := by decide +kernel
theorem d_Model_lay_94 : decode b_Model_lay 94 = .ok (.bipush 17, 2) := by decide +kernel
theorem d_Model_lay_96 : decode b_Model_lay 96 = .ok (.iadd, 1) := by decide +kernel
theorem d_Model_lay_97 : decode b_Model_lay 97 = .ok (.iconst 2, 1) := by decide +kernel
theorem d_Model_lay_98 : decode b_Model_lay 98 = .ok (.ldc2_w 193, 3) := by decide +kernel
theorem d_Model_lay_101 : decode b_Model_lay 101 = .ok (.invokevirtual 158, 3) := by decide +kernel
theorem d_Model_lay_104 : decode b_Model_lay 104 = .ok (.aload_n 0, 1) := by decide +kernel
theorem d_Model_lay_105 : decode b_Model_lay 105 = .ok (.iload_n 2, 1) := by decide +kernel
theorem d_Model_lay_106 : decode b_Model_lay 106 = .ok (.bipush 19, 2) := by decide +kernel
theorem d_Model_lay_108 : decode b_Model_lay 108 = .ok (.iadd, 1) := by decide +kernel
theorem d_Model_lay_109 : decode b_Model_lay 109 = .ok (.iconst 2, 1) := by decide +kernel
theorem d_Model_lay_110 : decode b_Model_lay 110 = .ok (.iload_n 1, 1) := by decide +kernel
theorem d_Model_lay_111 : decode b_Model_lay 111 = .ok (.i2l, 1) := by decide +kernel
theorem d_Model_lay_112 : decode b_Model_lay 112 = .ok (.invokevirtual 158, 3) := by decide +kernel
theorem d_Model_lay_115 : decode b_Model_lay 115 = .ok (.aload_n 0, 1) := by decide +kernel
theorem d_Model_lay_116 : decode b_Model_lay 116 = .ok (.getfield 8, 3) := by decide +kernel
theorem d_Model_lay_119 : decode b_Model_lay 119 = .ok (.iload_n 2, 1) := by decide +kernel
theorem d_Model_lay_120 : decode b_Model_lay 120 = .ok (.bipush 21, 2) := by decide +kernel
theorem d_Model_lay_122 : decode b_Model_lay 122 = .ok (.iadd, 1) := by decide +kernel
theorem d_Model_lay_123 : decode b_Model_lay 123 = .ok (.bipush (-8), 2) := by decide +kernel
theorem d_Model_lay_125 : decode b_Model_lay 125 = .ok (.bastore, 1) := by decide +kernel
theorem d_Model_lay_126 : decode b_Model_lay 126 = .ok (.aload_n 0, 1) := by decide +kernel
theorem d_Model_lay_127 : decode b_Model_lay 127 = .ok (.iload_n 2, 1) := by decide +kernel
theorem d_Model_lay_128 : decode b_Model_lay 128 = .ok (.bipush 22, 2) := by decide +kernel
theorem d_Model_lay_130 : decode b_Model_lay 130 = .ok (.iadd, 1) := by decide +kernel
theorem d_Model_lay_131 : decode b_Model_lay 131 = .ok (.iconst 2, 1) := by decide +kernel
theorem d_Model_lay_132 : decode b_Model_lay 132 = .ok (.aload_n 0, 1) := by decide +kernel
theorem d_Model_lay_133 : decode b_Model_lay 133 = .ok (.getfield 121, 3) := by decide +kernel
theorem d_Model_lay_136 : decode b_Model_lay 136 = .ok (.i2l, 1) := by decide +kernel
theorem d_Model_lay_137 : decode b_Model_lay 137 = .ok (.invokevirtual 158, 3) := by decide +kernel
theorem d_Model_lay_140 : decode b_Model_lay 140 = .ok (.aload_n 0, 1) := by decide +kernel
theorem d_Model_lay_141 : decode b_Model_lay 141 = .ok (.iload_n 2, 1) := by decide +kernel
theorem d_Model_lay_142 : decode b_Model_lay 142 = .ok (.bipush 24, 2) := by decide +kernel
theorem d_Model_lay_144 : decode b_Model_lay 144 = .ok (.iadd, 1) := by decide +kernel
theorem d_Model_lay_145 : decode b_Model_lay 145 = .ok (.iconst 2, 1) := by decide +kernel
theorem d_Model_lay_146 : decode b_Model_lay 146 = .ok (.ldc2_w 193, 3) := by decide +kernel
theorem d_Model_lay_149 : decode b_Model_lay 149 = .ok (.invokevirtual 158, 3) := by decide +kernel
theorem d_Model_lay_152 : decode b_Model_lay 152 = .ok (.aload_n 0, 1) := by decide +kernel
theorem d_Model_lay_153 : decode b_Model_lay 153 = .ok (.iload_n 2, 1) := by decide +kernel
theorem d_Model_lay_154 : decode b_Model_lay 154 = .ok (.bipush 26, 2) := by decide +kernel
theorem d_Model_lay_156 : decode b_Model_lay 156 = .ok (.iadd, 1) := by decide +kernel
theorem d_Model_lay_157 : decode b_Model_lay 157 = .ok (.iconst 2, 1) := by decide +kernel
theorem d_Model_lay_158 : decode b_Model_lay 158 = .ok (.ldc2_w 188, 3) := by decide +kernel
theorem d_Model_lay_161 : decode b_Model_lay 161 = .ok (.invokevirtual 158, 3) := by decide +kernel
theorem d_Model_lay_164 : decode b_Model_lay 164 = .ok (.aload_n 0, 1) := by decide +kernel
theorem d_Model_lay_165 : decode b_Model_lay 165 = .ok (.iload_n 2, 1) := by decide +kernel
theorem d_Model_lay_166 : decode b_Model_lay 166 = .ok (.bipush 28, 2) := by decide +kernel
theorem d_Model_lay_168 : decode b_Model_lay 168 = .ok (.iadd, 1) := by decide +kernel
theorem d_Model_lay_169 : decode b_Model_lay 169 = .ok (.iconst 4, 1) := by decide +kernel
theorem d_Model_lay_170 : decode b_Model_lay 170 = .ok (.aload_n 0, 1) := by decide +kernel
theorem d_Model_lay_171 : decode b_Model_lay 171 = .ok (.getfield 118, 3) := by decide +kernel
theorem d_Model_lay_174 : decode b_Model_lay 174 = .ok (.i2l, 1) := by decide +kernel
theorem d_Model_lay_175 : decode b_Model_lay 175 = .ok (.invokevirtual 158, 3) := by decide +kernel
theorem d_Model_lay_178 : decode b_Model_lay 178 = .ok (.aload_n 0, 1) := by decide +kernel
theorem d_Model_lay_179 : decode b_Model_lay 179 = .ok (.getfield 8, 3) := by decide +kernel
theorem d_Model_lay_182 : decode b_Model_lay 182 = .ok (.iload_n 2, 1) := by decide +kernel
theorem d_Model_lay_183 : decode b_Model_lay 183 = .ok (.bipush 36, 2) := by decide +kernel
theorem d_Model_lay_185 : decode b_Model_lay 185 = .ok (.iadd, 1) := by decide +kernel
theorem d_Model_lay_186 : decode b_Model_lay 186 = .ok (.bipush (-128), 2) := by decide +kernel
theorem d_Model_lay_188 : decode b_Model_lay 188 = .ok (.bastore, 1) := by decide +kernel
theorem d_Model_lay_189 : decode b_Model_lay 189 = .ok (.aload_n 0, 1) := by decide +kernel
theorem d_Model_lay_190 : decode b_Model_lay 190 = .ok (.getfield 8, 3) := by decide +kernel
theorem d_Model_lay_193 : decode b_Model_lay 193 = .ok (.iload_n 2, 1) := by decide +kernel
theorem d_Model_lay_194 : decode b_Model_lay 194 = .ok (.bipush 38, 2) := by decide +kernel
theorem d_Model_lay_196 : decode b_Model_lay 196 = .ok (.iadd, 1) := by decide +kernel
theorem d_Model_lay_197 : decode b_Model_lay 197 = .ok (.bipush 41, 2) := by decide +kernel
theorem d_Model_lay_199 : decode b_Model_lay 199 = .ok (.bastore, 1) := by decide +kernel
theorem d_Model_lay_200 : decode b_Model_lay 200 = .ok (.aload_n 0, 1) := by decide +kernel
theorem d_Model_lay_201 : decode b_Model_lay 201 = .ok (.iload_n 2, 1) := by decide +kernel
theorem d_Model_lay_202 : decode b_Model_lay 202 = .ok (.bipush 39, 2) := by decide +kernel
theorem d_Model_lay_204 : decode b_Model_lay 204 = .ok (.iadd, 1) := by decide +kernel
theorem d_Model_lay_205 : decode b_Model_lay 205 = .ok (.iconst 4, 1) := by decide +kernel
theorem d_Model_lay_206 : decode b_Model_lay 206 = .ok (.aload_n 0, 1) := by decide +kernel
theorem d_Model_lay_207 : decode b_Model_lay 207 = .ok (.getfield 118, 3) := by decide +kernel
theorem d_Model_lay_210 : decode b_Model_lay 210 = .ok (.i2l, 1) := by decide +kernel
theorem d_Model_lay_211 : decode b_Model_lay 211 = .ok (.invokevirtual 158, 3) := by decide +kernel
theorem d_Model_lay_214 : decode b_Model_lay 214 = .ok (.aload_n 0, 1) := by decide +kernel
theorem d_Model_lay_215 : decode b_Model_lay 215 = .ok (.iload_n 2, 1) := by decide +kernel
theorem d_Model_lay_216 : decode b_Model_lay 216 = .ok (.bipush 43, 2) := by decide +kernel
theorem d_Model_lay_218 : decode b_Model_lay 218 = .ok (.iadd, 1) := by decide +kernel
theorem d_Model_lay_219 : decode b_Model_lay 219 = .ok (.bipush 11, 2) := by decide +kernel
theorem d_Model_lay_221 : decode b_Model_lay 221 = .ok (.ldc2_w 201, 3) := by decide +kernel
theorem d_Model_lay_224 : decode b_Model_lay 224 = .ok (.iconst 0, 1) := by decide +kernel
theorem d_Model_lay_225 : decode b_Model_lay 225 = .ok (.invokevirtual 197, 3) := by decide +kernel
theorem d_Model_lay_228 : decode b_Model_lay 228 = .ok (.aload_n 0, 1) := by decide +kernel
theorem d_Model_lay_229 : decode b_Model_lay 229 = .ok (.iload_n 2, 1) := by decide +kernel
theorem d_Model_lay_230 : decode b_Model_lay 230 = .ok (.bipush 54, 2) := by decide +kernel
theorem d_Model_lay_232 : decode b_Model_lay 232 = .ok (.iadd, 1) := by decide +kernel
theorem d_Model_lay_233 : decode b_Model_lay 233 = .ok (.bipush 8, 2) := by decide +kernel
theorem d_Model_lay_235 : decode b_Model_lay 235 = .ok (.ldc2_w 203, 3) := by decide +kernel
theorem d_Model_lay_238 : decode b_Model_lay 238 = .ok (.iconst 0, 1) := by decide +kernel
theorem d_Model_lay_239 : decode b_Model_lay 239 = .ok (.invokevirtual 197, 3) := by decide +kernel
theorem d_Model_lay_242 : decode b_Model_lay 242 = .ok (.aload_n 0, 1) := by decide +kernel
theorem d_Model_lay_243 : decode b_Model_lay 243 = .ok (.getfield 8, 3) := by decide +kernel
theorem d_Model_lay_246 : decode b_Model_lay 246 = .ok (.iload_n 2, 1) := by decide +kernel
theorem d_Model_lay_247 : decode b_Model_lay 247 = .ok (.sipush 510, 3) := by decide +kernel
theorem d_Model_lay_250 : decode b_Model_lay 250 = .ok (.iadd, 1) := by decide +kernel
theorem d_Model_lay_251 : decode b_Model_lay 251 = .ok (.bipush 85, 2) := by decide +kernel
theorem d_Model_lay_253 : decode b_Model_lay 253 = .ok (.bastore, 1) := by decide +kernel
theorem d_Model_lay_254 : decode b_Model_lay 254 = .ok (.aload_n 0, 1) := by decide +kernel
theorem d_Model_lay_255 : decode b_Model_lay 255 = .ok (.getfield 8, 3) := by decide +kernel
theorem d_Model_lay_258 : decode b_Model_lay 258 = .ok (.iload_n 2, 1) := by decide +kernel
theorem d_Model_lay_259 : decode b_Model_lay 259 = .ok (.sipush 511, 3) := by decide +kernel
theorem d_Model_lay_262 : decode b_Model_lay 262 = .ok (.iadd, 1) := by decide +kernel
theorem d_Model_lay_263 : decode b_Model_lay 263 = .ok (.bipush (-86), 2) := by decide +kernel
theorem d_Model_lay_265 : decode b_Model_lay 265 = .ok (.bastore, 1) := by decide +kernel
theorem d_Model_lay_266 : decode b_Model_lay 266 = .ok (.iconst 0, 1) := by decide +kernel
theorem d_Model_lay_267 : decode b_Model_lay 267 = .ok (.istore_n 3, 1) := by decide +kernel
theorem d_Model_lay_268 : decode b_Model_lay 268 = .ok (.iload_n 3, 1) := by decide +kernel
theorem d_Model_lay_269 : decode b_Model_lay 269 = .ok (.iconst 2, 1) := by decide +kernel
theorem d_Model_lay_270 : decode b_Model_lay 270 = .ok (.if_icmp .ge 105, 3) := by decide +kernel
theorem d_Model_lay_273 : decode b_Model_lay 273 = .ok (.aload_n 0, 1) := by decide +kernel
theorem d_Model_lay_274 : decode b_Model_lay 274 = .ok (.getfield 118, 3) := by decide +kernel
theorem d_Model_lay_277 : decode b_Model_lay 277 = .ok (.iconst 1, 1) := by decide +kernel
theorem d_Model_lay_278 : decode b_Model_lay 278 = .ok (.iadd, 1) := by decide +kernel
theorem d_Model_lay_279 : decode b_Model_lay 279 = .ok (.iload_n 3, 1) := by decide +kernel
theorem d_Model_lay_280 : decode b_Model_lay 280 = .ok (.aload_n 0, 1) := by decide +kernel
theorem d_Model_lay_281 : decode b_Model_lay 281 = .ok (.getfield 121, 3) := by decide +kernel
theorem d_Model_lay_284 : decode b_Model_lay 284 = .ok (.imul, 1) := by decide +kernel
theorem d_Model_lay_285 : decode b_Model_lay 285 = .ok (.iadd, 1) := by decide +kernel
theorem d_Model_lay_286 : decode b_Model_lay 286 = .ok (.istore 4, 2) := by decide +kernel
theorem d_Model_lay_288 : decode b_Model_lay 288 = .ok (.aload_n 0, 1) := by decide +kernel
theorem d_Model_lay_289 : decode b_Model_lay 289 = .ok (.iload 4, 2) := by decide +kernel
theorem d_Model_lay_291 : decode b_Model_lay 291 = .ok (.iconst 0, 1) := by decide +kernel
theorem d_Model_lay_292 : decode b_Model_lay 292 = .ok (.sipush 4088, 3) := by decide +kernel
theorem d_Model_lay_295 : decode b_Model_lay 295 = .ok (.invokevirtual 205, 3) := by decide +kernel
theorem d_Model_lay_298 : decode b_Model_lay 298 = .ok (.aload_n 0, 1) := by decide +kernel
theorem d_Model_lay_299 : decode b_Model_lay 299 = .ok (.iload 4, 2) := by decide +kernel
theorem d_Model_lay_301 : decode b_Model_lay 301 = .ok (.iconst 1, 1) := by decide +kernel
theorem d_Model_lay_302 : decode b_Model_lay 302 = .ok (.sipush 4095, 3) := by decide +kernel
theorem d_Model_lay_305 : decode b_Model_lay 305 = .ok (.invokevirtual 205, 3) := by decide +kernel
theorem d_Model_lay_308 : decode b_Model_lay 308 = .ok (.iconst 2, 1) := by decide +kernel
theorem d_Model_lay_309 : decode b_Model_lay 309 = .ok (.istore 5, 2) := by decide +kernel
theorem d_Model_lay_311 : decode b_Model_lay 311 = .ok (.iload 5, 2) := by decide +kernel
theorem d_Model_lay_313 : decode b_Model_lay 313 = .ok (.aload_n 0, 1) := by decide +kernel
theorem d_Model_lay_314 : decode b_Model_lay 314 = .ok (.getfield 109, 3) := by decide +kernel
theorem d_Model_lay_317 : decode b_Model_lay 317 = .ok (.iconst 2, 1) := by decide +kernel
theorem d_Model_lay_318 : decode b_Model_lay 318 = .ok (.iadd, 1) := by decide +kernel
theorem d_Model_lay_319 : decode b_Model_lay 319 = .ok (.if_icmp .ge 50, 3) := by decide +kernel
theorem d_Model_lay_322 : decode b_Model_lay 322 = .ok (.aload_n 0, 1) := by decide +kernel
theorem d_Model_lay_323 : decode b_Model_lay 323 = .ok (.getfield 41, 3) := by decide +kernel
theorem d_Model_lay_326 : decode b_Model_lay 326 = .ok (.iload 5, 2) := by decide +kernel
theorem d_Model_lay_328 : decode b_Model_lay 328 = .ok (.iaload, 1) := by decide +kernel
theorem d_Model_lay_329 : decode b_Model_lay 329 = .ok (.ifCond .eq 34, 3) := by decide +kernel
theorem d_Model_lay_332 : decode b_Model_lay 332 = .ok (.aload_n 0, 1) := by decide +kernel
theorem d_Model_lay_333 : decode b_Model_lay 333 = .ok (.iload 4, 2) := by decide +kernel
theorem d_Model_lay_335 : decode b_Model_lay 335 = .ok (.iload 5, 2) := by decide +kernel
theorem d_Model_lay_337 : decode b_Model_lay 337 = .ok (.aload_n 0, 1) := by decide +kernel
theorem d_Model_lay_338 : decode b_Model_lay 338 = .ok (.getfield 41, 3) := by decide +kernel
theorem d_Model_lay_341 : decode b_Model_lay 341 = .ok (.iload 5, 2) := by decide +kernel
theorem d_Model_lay_343 : decode b_Model_lay 343 = .ok (.iaload, 1) := by decide +kernel
theorem d_Model_lay_344 : decode b_Model_lay 344 = .ok (.ifCond .ge 9, 3) := by decide +kernel
theorem d_Model_lay_347 : decode b_Model_lay 347 = .ok (.sipush 4095, 3) := by decide +kernel
theorem d_Model_lay_350 : decode b_Model_lay 350 = .ok (.goto 10, 3) := by decide +kernel
theorem d_Model_lay_353 : decode b_Model_lay 353 = .ok (.aload_n 0, 1) := by decide +kernel
theorem d_Model_lay_354 : decode b_Model_lay 354 = .ok (.getfield 41, 3) := by decide +kernel
theorem d_Model_lay_357 : decode b_Model_lay 357 = .ok (.iload 5, 2) := by decide +kernel
theorem d_Model_lay_359 : decode b_Model_lay 359 = .ok (.iaload, 1) := by decide +kernel
theorem d_Model_lay_360 : decode b_Model_lay 360 = .ok (.invokevirtual 205, 3) := by decide +kernel
theorem d_Model_lay_363 : decode b_Model_lay 363 = .ok (.iinc 5 1, 3) := by decide +kernel
theorem d_Model_lay_366 : decode b_Model_lay 366 = .ok (.goto (-55), 3) := by decide +kernel
theorem d_Model_lay_369 : decode b_Model_lay 369 = .ok (.iinc 3 1, 3) := by decide +kernel
theorem d_Model_lay_372 : decode b_Model_lay 372 = .ok (.goto (-104), 3) := by decide +kernel
theorem d_Model_lay_375 : decode b_Model_lay 375 = .ok (.iconst 0, 1) := by decide +kernel
theorem d_Model_lay_376 : decode b_Model_lay 376 = .ok (.istore_n 3, 1) := by decide +kernel
theorem d_Model_lay_377 : decode b_Model_lay 377 = .ok (.iload_n 3, 1) := by decide +kernel
theorem d_Model_lay_378 : decode b_Model_lay 378 = .ok (.aload_n 0, 1) := by decide +kernel
theorem d_Model_lay_379 : decode b_Model_lay 379 = .ok (.getfield 91, 3) := by decide +kernel
theorem d_Model_lay_382 : decode b_Model_lay 382 = .ok (.if_icmp .ge 162, 3) := by decide +kernel
theorem d_Model_lay_385 : decode b_Model_lay 385 = .ok (.sipush 512, 3) := by decide +kernel
theorem d_Model_lay_388 : decode b_Model_lay 388 = .ok (.aload_n 0, 1) := by decide +kernel
theorem d_Model_lay_389 : decode b_Model_lay 389 = .ok (.getfield 118, 3) := by decide +kernel
theorem d_Model_lay_392 : decode b_Model_lay 392 = .ok (.iconst 1, 1) := by decide +kernel
theorem d_Model_lay_393 : decode b_Model_lay 393 = .ok (.iadd, 1) := by decide +kernel
theorem d_Model_lay_394 : decode b_Model_lay 394 = .ok (.iconst 2, 1) := by decide +kernel
theorem d_Model_lay_395 : decode b_Model_lay 395 = .ok (.aload_n 0, 1) := by decide +kernel
theorem d_Model_lay_396 : decode b_Model_lay 396 = .ok (.getfield 121, 3) := by decide +kernel
theorem d_Model_lay_399 : decode b_Model_lay 399 = .ok (.imul, 1) := by decide +kernel
theorem d_Model_lay_400 : decode b_Model_lay 400 = .ok (.iadd, 1) := by decide +kernel
theorem d_Model_lay_401 : decode b_Model_lay 401 = .ok (.imul, 1) := by decide +kernel
theorem d_Model_lay_402 : decode b_Model_lay 402 = .ok (.bipush 32, 2) := by decide +kernel
theorem d_Model_lay_404 : decode b_Model_lay 404 = .ok (.iload_n 3, 1) := by decide +kernel
theorem d_Model_lay_405 : decode b_Model_lay 405 = .ok (.imul, 1) := by decide +kernel
theorem d_Model_lay_406 : decode b_Model_lay 406 = .ok (.iadd, 1) := by decide +kernel
theorem d_Model_lay_407 : decode b_Model_lay 407 = .ok (.istore 4, 2) := by decide +kernel
theorem d_Model_lay_409 : decode b_Model_lay 409 = .ok (.aload_n 0, 1) := by decide +kernel
theorem d_Model_lay_410 : decode b_Model_lay 410 = .ok (.iload 4, 2) := by decide +kernel
theorem d_Model_lay_412 : decode b_Model_lay 412 = .ok (.bipush 11, 2) := by decide +kernel
theorem d_Model_lay_414 : decode b_Model_lay 414 = .ok (.aload_n 0, 1) := by decide +kernel
theorem d_Model_lay_415 : decode b_Model_lay 415 = .ok (.getfield 24, 3) := by decide +kernel
theorem d_Model_lay_418 : decode b_Model_lay 418 = .ok (.iload_n 3, 1) := by decide +kernel
theorem d_Model_lay_419 : decode b_Model_lay 419 = .ok (.laload, 1) := by decide +kernel
theorem d_Model_lay_420 : decode b_Model_lay 420 = .ok (.iconst 0, 1) := by decide +kernel
theorem d_Model_lay_421 : decode b_Model_lay 421 = .ok (.invokevirtual 197, 3) := by decide +kernel
theorem d_Model_lay_424 : decode b_Model_lay 424 = .ok (.aload_n 0, 1) := by decide +kernel
theorem d_Model_lay_425 : decode b_Model_lay 425 = .ok (.getfield 8, 3) := by decide +kernel
theorem d_Model_lay_428 : decode b_Model_lay 428 = .ok (.iload 4, 2) := by decide +kernel
theorem d_Model_lay_430 : decode b_Model_lay 430 = .ok (.bipush 11, 2) := by decide +kernel
theorem d_Model_lay_432 : decode b_Model_lay 432 = .ok (.iadd, 1) := by decide +kernel
theorem d_Model_lay_433 : decode b_Model_lay 433 = .ok (.bipush 32, 2) := by decide +kernel
theorem d_Model_lay_435 : decode b_Model_lay 435 = .ok (.bastore, 1) := by decide +kernel
theorem d_Model_lay_436 : decode b_Model_lay 436 = .ok (.aload_n 0, 1) := by decide +kernel
theorem d_Model_lay_437 : decode b_Model_lay 437 = .ok (.iload 4, 2) := by decide +kernel
theorem d_Model_lay_439 : decode b_Model_lay 439 = .ok (.bipush 24, 2) := by decide +kernel
theorem d_Model_lay_441 : decode b_Model_lay 441 = .ok (.iadd, 1) := by decide +kernel
theorem d_Model_lay_442 : decode b_Model_lay 442 = .ok (.iconst 2, 1) := by decide +kernel
theorem d_Model_lay_443 : decode b_Model_lay 443 = .ok (.ldc2_w 209, 3) := by decide +kernel
theorem d_Model_lay_446 : decode b_Model_lay 446 = .ok (.invokevirtual 158, 3) := by decide +kernel
theorem d_Model_lay_449 : decode b_Model_lay 449 = .ok (.aload_n 0, 1) := by decide +kernel
theorem d_Model_lay_450 : decode b_Model_lay 450 = .ok (.iload 4, 2) := by decide +kernel
theorem d_Model_lay_452 : decode b_Model_lay 452 = .ok (.bipush 26, 2) := by decide +kernel
theorem d_Model_lay_454 : decode b_Model_lay 454 = .ok (.iadd, 1) := by decide +kernel
theorem d_Model_lay_455 : decode b_Model_lay 455 = .ok (.iconst 2, 1) := by decide +kernel
theorem d_Model_lay_456 : decode b_Model_lay 456 = .ok (.aload_n 0, 1) := by decide +kernel
theorem d_Model_lay_457 : decode b_Model_lay 457 = .ok (.getfield 38, 3) := by decide +kernel
theorem d_Model_lay_460 : decode b_Model_lay 460 = .ok (.iload_n 3, 1) := by decide +kernel
theorem d_Model_lay_461 : decode b_Model_lay 461 = .ok (.iaload, 1) := by decide +kernel
theorem d_Model_lay_462 : decode b_Model_lay 462 = .ok (.i2l, 1) := by decide +kernel
theorem d_Model_lay_463 : decode b_Model_lay 463 = .ok (.invokevirtual 158, 3) := by decide +kernel
theorem d_Model_lay_466 : decode b_Model_lay 466 = .ok (.aload_n 0, 1) := by decide +kernel
theorem d_Model_lay_467 : decode b_Model_lay 467 = .ok (.iload 4, 2) := by decide +kernel
theorem d_Model_lay_469 : decode b_Model_lay 469 = .ok (.bipush 28, 2) := by decide +kernel
theorem d_Model_lay_471 : decode b_Model_lay 471 = .ok (.iadd, 1) := by decide +kernel
theorem d_Model_lay_472 : decode b_Model_lay 472 = .ok (.iconst 4, 1) := by decide +kernel
theorem d_Model_lay_473 : decode b_Model_lay 473 = .ok (.aload_n 0, 1) := by decide +kernel
theorem d_Model_lay_474 : decode b_Model_lay 474 = .ok (.getfield 28, 3) := by decide +kernel
theorem d_Model_lay_477 : decode b_Model_lay 477 = .ok (.iload_n 3, 1) := by decide +kernel
theorem d_Model_lay_478 : decode b_Model_lay 478 = .ok (.iaload, 1) := by decide +kernel
theorem d_Model_lay_479 : decode b_Model_lay 479 = .ok (.i2l, 1) := by decide +kernel
theorem d_Model_lay_480 : decode b_Model_lay 480 = .ok (.invokevirtual 158, 3) := by decide +kernel
theorem d_Model_lay_483 : decode b_Model_lay 483 = .ok (.iconst 0, 1) := by decide +kernel
theorem d_Model_lay_484 : decode b_Model_lay 484 = .ok (.istore 5, 2) := by decide +kernel
theorem d_Model_lay_486 : decode b_Model_lay 486 = .ok (.iload 5, 2) := by decide +kernel
theorem d_Model_lay_488 : decode b_Model_lay 488 = .ok (.aload_n 0, 1) := by decide +kernel
theorem d_Model_lay_489 : decode b_Model_lay 489 = .ok (.getfield 28, 3) := by decide +kernel
theorem d_Model_lay_492 : decode b_Model_lay 492 = .ok (.iload_n 3, 1) := by decide +kernel
theorem d_Model_lay_493 : decode b_Model_lay 493 = .ok (.iaload, 1) := by decide +kernel
theorem d_Model_lay_494 : decode b_Model_lay 494 = .ok (.if_icmp .ge 44, 3) := by decide +kernel
theorem d_Model_lay_497 : decode b_Model_lay 497 = .ok (.aload_n 0, 1) := by decide +kernel
theorem d_Model_lay_498 : decode b_Model_lay 498 = .ok (.getfield 8, 3) := by decide +kernel
theorem d_Model_lay_501 : decode b_Model_lay 501 = .ok (.sipush 512, 3) := by decide +kernel
theorem d_Model_lay_504 : decode b_Model_lay 504 = .ok (.aload_n 0, 1) := by decide +kernel
theorem d_Model_lay_505 : decode b_Model_lay 505 = .ok (.iload_n 3, 1) := by decide +kernel
theorem d_Model_lay_506 : decode b_Model_lay 506 = .ok (.iload 5, 2) := by decide +kernel
theorem d_Model_lay_508 : decode b_Model_lay 508 = .ok (.sipush 512, 3) := by decide +kernel
theorem d_Model_lay_511 : decode b_Model_lay 511 = .ok (.idiv, 1) := by decide +kernel
theorem d_Model_lay_512 : decode b_Model_lay 512 = .ok (.invokevirtual 124, 3) := by decide +kernel
theorem d_Model_lay_515 : decode b_Model_lay 515 = .ok (.imul, 1) := by decide +kernel
theorem d_Model_lay_516 : decode b_Model_lay 516 = .ok (.iload 5, 2) := by decide +kernel
theorem d_Model_lay_518 : decode b_Model_lay 518 = .ok (.sipush 512, 3) := by decide +kernel
theorem d_Model_lay_521 : decode b_Model_lay 521 = .ok (.irem, 1) := by decide +kernel
theorem d_Model_lay_522 : decode b_Model_lay 522 = .ok (.iadd, 1) := by decide +kernel
theorem d_Model_lay_523 : decode b_Model_lay 523 = .ok (.aload_n 0, 1) := by decide +kernel
theorem d_Model_lay_524 : decode b_Model_lay 524 = .ok (.iload_n 3, 1) := by decide +kernel
theorem d_Model_lay_525 : decode b_Model_lay 525 = .ok (.iload 5, 2) := by decide +kernel
theorem d_Model_lay_527 : decode b_Model_lay 527 = .ok (.invokevirtual 166, 3) := by decide +kernel
theorem d_Model_lay_530 : decode b_Model_lay 530 = .ok (.i2b, 1) := by decide +kernel
theorem d_Model_lay_531 : decode b_Model_lay 531 = .ok (.bastore, 1) := by decide +kernel
theorem d_Model_lay_532 : decode b_Model_lay 532 = .ok (.iinc 5 1, 3) := by decide +kernel
theorem d_Model_lay_535 : decode b_Model_lay 535 = .ok (.goto (-49), 3) := by decide +kernel
theorem d_Model_lay_538 : decode b_Model_lay 538 = .ok (.iinc 3 1, 3) := by decide +kernel
theorem d_Model_lay_541 : decode b_Model_lay 541 = .ok (.goto (-164), 3) := by decide +kernel
theorem d_Model_lay_544 : decode b_Model_lay 544 = .ok (.return_, 1) := by decide +kernel
set_option maxRecDepth 100000 in
theorem kc_Model_195 : Cond.constantLong R_Model 195 331807933778 ∈ Wall := inW 952 rfl rfl
set_option maxRecDepth 100000 in
theorem kc_Model_201 : Cond.constantLong R_Model 201 1112493908 ∈ Wall := inW 963 rfl rfl
set_option maxRecDepth 100000 in
theorem kc_Model_203 : Cond.constantLong R_Model 203 301743747378 ∈ Wall := inW 964 rfl rfl
set_option maxRecDepth 100000 in
theorem kc_Model_209 : Cond.constantLong R_Model 209 33 ∈ Wall := inW 970 rfl rfl
set_option maxRecDepth 100000 in
theorem fc_Model_197 : FcV Wall classes R_Model 197 7 y_Model_text b_Model_text 8 (none) ws_Model_text 4 := ⟨⟨rfl, cw_Model_text, inW 953 rfl rfl, in_i_Model, by decide +kernel⟩, inW 955 rfl rfl, inP 39 rfl rfl, _, _, rfl⟩
set_option maxRecDepth 100000 in
theorem fc_Model_205 : FcV Wall classes R_Model 205 7 y_Model_entry b_Model_entry 6 (none) ws_Model_entry 3 := ⟨⟨rfl, cw_Model_entry, inW 965 rfl rfl, in_i_Model, by decide +kernel⟩, inW 967 rfl rfl, inP 41 rfl rfl, _, _, rfl⟩
